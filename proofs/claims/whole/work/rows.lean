section
-- ===== PART A: goes FIRST, ahead of the names: the tables' words, and 'selects' of the private methods out of them =====
/-- a private method of a class that the tables say can be made, by its rows of tables_1 -/
def lw_okq (q : MethodName × Nat) : Prop := (q.1.cls ≠ "java/lang/invoke/MethodHandle" ∧ q.1.cls ≠ "java/lang/invoke/VarHandle") ∧ Cond.instantiable q.1.cls q.2 ∈ tables_1 ∧ Cond.privateMethod q.1 ∈ tables_1 ∧ Cond.instanceMethod q.1 ∈ tables_1
theorem lw_p0 : lw_okq (⟨"FlexRows$Text", "readNumber", "(I)I"⟩, 5) := ⟨⟨by decide +kernel, by decide +kernel⟩, List.mem_of_getElem? (i := 24) (by decide +kernel), List.mem_of_getElem? (i := 282) (by decide +kernel), List.mem_of_getElem? (i := 283) (by decide +kernel)⟩
theorem lw_p1 : lw_okq (⟨"FlexRows$Text", "skipBlanks", "()V"⟩, 5) := ⟨⟨by decide +kernel, by decide +kernel⟩, List.mem_of_getElem? (i := 24) (by decide +kernel), List.mem_of_getElem? (i := 286) (by decide +kernel), List.mem_of_getElem? (i := 287) (by decide +kernel)⟩
theorem lw_p2 : lw_okq (⟨"FlexRows$Text", "readWord", "()I"⟩, 5) := ⟨⟨by decide +kernel, by decide +kernel⟩, List.mem_of_getElem? (i := 24) (by decide +kernel), List.mem_of_getElem? (i := 301) (by decide +kernel), List.mem_of_getElem? (i := 302) (by decide +kernel)⟩
theorem lw_p3 : lw_okq (⟨"FlexRows$Text", "stands", "(Ljava/lang/String;I)Z"⟩, 5) := ⟨⟨by decide +kernel, by decide +kernel⟩, List.mem_of_getElem? (i := 24) (by decide +kernel), List.mem_of_getElem? (i := 320) (by decide +kernel), List.mem_of_getElem? (i := 321) (by decide +kernel)⟩
theorem lw_p4 : lw_okq (⟨"FlexRows", "beforeChange", "()V"⟩, 8) := ⟨⟨by decide +kernel, by decide +kernel⟩, List.mem_of_getElem? (i := 16) (by decide +kernel), List.mem_of_getElem? (i := 372) (by decide +kernel), List.mem_of_getElem? (i := 373) (by decide +kernel)⟩
theorem lw_p5 : lw_okq (⟨"FlexRows$State", "swap", "(II)V"⟩, 3) := ⟨⟨by decide +kernel, by decide +kernel⟩, List.mem_of_getElem? (i := 50) (by decide +kernel), List.mem_of_getElem? (i := 399) (by decide +kernel), List.mem_of_getElem? (i := 400) (by decide +kernel)⟩
theorem lw_p6 : lw_okq (⟨"FlexRows", "layOut", "()V"⟩, 8) := ⟨⟨by decide +kernel, by decide +kernel⟩, List.mem_of_getElem? (i := 16) (by decide +kernel), List.mem_of_getElem? (i := 419) (by decide +kernel), List.mem_of_getElem? (i := 420) (by decide +kernel)⟩
theorem lw_p7 : lw_okq (⟨"FlexRows$Order", "enter", "(I)V"⟩, 8) := ⟨⟨by decide +kernel, by decide +kernel⟩, List.mem_of_getElem? (i := 99) (by decide +kernel), List.mem_of_getElem? (i := 428) (by decide +kernel), List.mem_of_getElem? (i := 429) (by decide +kernel)⟩
theorem lw_p8 : lw_okq (⟨"FlexRows$Lines", "shareLine", "(I)V"⟩, 12) := ⟨⟨by decide +kernel, by decide +kernel⟩, List.mem_of_getElem? (i := 142) (by decide +kernel), List.mem_of_getElem? (i := 462) (by decide +kernel), List.mem_of_getElem? (i := 463) (by decide +kernel)⟩
theorem lw_p9 : lw_okq (⟨"FlexRows$Lines", "freezeStiff", "(IIZ)V"⟩, 12) := ⟨⟨by decide +kernel, by decide +kernel⟩, List.mem_of_getElem? (i := 142) (by decide +kernel), List.mem_of_getElem? (i := 470) (by decide +kernel), List.mem_of_getElem? (i := 471) (by decide +kernel)⟩
theorem lw_p10 : lw_okq (⟨"FlexRows$Lines", "hasOpen", "(II)Z"⟩, 12) := ⟨⟨by decide +kernel, by decide +kernel⟩, List.mem_of_getElem? (i := 142) (by decide +kernel), List.mem_of_getElem? (i := 478) (by decide +kernel), List.mem_of_getElem? (i := 479) (by decide +kernel)⟩
theorem lw_p11 : lw_okq (⟨"FlexRows$Lines", "shareOut", "(IIIZ)V"⟩, 12) := ⟨⟨by decide +kernel, by decide +kernel⟩, List.mem_of_getElem? (i := 142) (by decide +kernel), List.mem_of_getElem? (i := 482) (by decide +kernel), List.mem_of_getElem? (i := 483) (by decide +kernel)⟩
theorem lw_p12 : lw_okq (⟨"FlexRows$Lines", "freezeCorrected", "(III)V"⟩, 12) := ⟨⟨by decide +kernel, by decide +kernel⟩, List.mem_of_getElem? (i := 142) (by decide +kernel), List.mem_of_getElem? (i := 497) (by decide +kernel), List.mem_of_getElem? (i := 498) (by decide +kernel)⟩
theorem lw_p13 : lw_okq (⟨"FlexRows$Places", "setAlong", "(I)V"⟩, 8) := ⟨⟨by decide +kernel, by decide +kernel⟩, List.mem_of_getElem? (i := 198) (by decide +kernel), List.mem_of_getElem? (i := 506) (by decide +kernel), List.mem_of_getElem? (i := 507) (by decide +kernel)⟩
theorem lw_p14 : lw_okq (⟨"FlexRows$Places", "shift", "(III)I"⟩, 8) := ⟨⟨by decide +kernel, by decide +kernel⟩, List.mem_of_getElem? (i := 198) (by decide +kernel), List.mem_of_getElem? (i := 512) (by decide +kernel), List.mem_of_getElem? (i := 513) (by decide +kernel)⟩
theorem lw_p15 : lw_okq (⟨"FlexRows$Places", "setAcross", "(II)V"⟩, 8) := ⟨⟨by decide +kernel, by decide +kernel⟩, List.mem_of_getElem? (i := 198) (by decide +kernel), List.mem_of_getElem? (i := 517) (by decide +kernel), List.mem_of_getElem? (i := 518) (by decide +kernel)⟩
def lw_privs_1 : List (MethodName × Nat) := [(⟨"FlexRows$Text", "readNumber", "(I)I"⟩, 5), (⟨"FlexRows$Text", "skipBlanks", "()V"⟩, 5), (⟨"FlexRows$Text", "readWord", "()I"⟩, 5), (⟨"FlexRows$Text", "stands", "(Ljava/lang/String;I)Z"⟩, 5), (⟨"FlexRows", "beforeChange", "()V"⟩, 8), (⟨"FlexRows$State", "swap", "(II)V"⟩, 3), (⟨"FlexRows", "layOut", "()V"⟩, 8), (⟨"FlexRows$Order", "enter", "(I)V"⟩, 8), (⟨"FlexRows$Lines", "shareLine", "(I)V"⟩, 12), (⟨"FlexRows$Lines", "freezeStiff", "(IIZ)V"⟩, 12), (⟨"FlexRows$Lines", "hasOpen", "(II)Z"⟩, 12), (⟨"FlexRows$Lines", "shareOut", "(IIIZ)V"⟩, 12), (⟨"FlexRows$Lines", "freezeCorrected", "(III)V"⟩, 12), (⟨"FlexRows$Places", "setAlong", "(I)V"⟩, 8), (⟨"FlexRows$Places", "shift", "(III)I"⟩, 8), (⟨"FlexRows$Places", "setAcross", "(II)V"⟩, 8)]
theorem lw_r1 : ∀ q ∈ lw_privs_1, lw_okq q := List.forall_mem_cons.mpr ⟨lw_p0, List.forall_mem_cons.mpr ⟨lw_p1, List.forall_mem_cons.mpr ⟨lw_p2, List.forall_mem_cons.mpr ⟨lw_p3, List.forall_mem_cons.mpr ⟨lw_p4, List.forall_mem_cons.mpr ⟨lw_p5, List.forall_mem_cons.mpr ⟨lw_p6, List.forall_mem_cons.mpr ⟨lw_p7, List.forall_mem_cons.mpr ⟨lw_p8, List.forall_mem_cons.mpr ⟨lw_p9, List.forall_mem_cons.mpr ⟨lw_p10, List.forall_mem_cons.mpr ⟨lw_p11, List.forall_mem_cons.mpr ⟨lw_p12, List.forall_mem_cons.mpr ⟨lw_p13, List.forall_mem_cons.mpr ⟨lw_p14, List.forall_mem_cons.mpr ⟨lw_p15, fun _ h => absurd h List.not_mem_nil⟩⟩⟩⟩⟩⟩⟩⟩⟩⟩⟩⟩⟩⟩⟩⟩
theorem lw_p16 : lw_okq (⟨"FlexRows$Places", "lowered", "(III)I"⟩, 8) := ⟨⟨by decide +kernel, by decide +kernel⟩, List.mem_of_getElem? (i := 198) (by decide +kernel), List.mem_of_getElem? (i := 532) (by decide +kernel), List.mem_of_getElem? (i := 533) (by decide +kernel)⟩
theorem lw_p17 : lw_okq (⟨"FlexRows", "lieAt", "(II)I"⟩, 8) := ⟨⟨by decide +kernel, by decide +kernel⟩, List.mem_of_getElem? (i := 16) (by decide +kernel), List.mem_of_getElem? (i := 581) (by decide +kernel), List.mem_of_getElem? (i := 582) (by decide +kernel)⟩
theorem lw_p18 : lw_okq (⟨"FlexRows", "lineTells", "(II)I"⟩, 8) := ⟨⟨by decide +kernel, by decide +kernel⟩, List.mem_of_getElem? (i := 16) (by decide +kernel), List.mem_of_getElem? (i := 602) (by decide +kernel), List.mem_of_getElem? (i := 603) (by decide +kernel)⟩
theorem lw_p19 : lw_okq (⟨"FlexRows", "counted", "(I)I"⟩, 8) := ⟨⟨by decide +kernel, by decide +kernel⟩, List.mem_of_getElem? (i := 16) (by decide +kernel), List.mem_of_getElem? (i := 631) (by decide +kernel), List.mem_of_getElem? (i := 632) (by decide +kernel)⟩
theorem lw_p20 : lw_okq (⟨"FlexRows", "greatestEnd", "()I"⟩, 8) := ⟨⟨by decide +kernel, by decide +kernel⟩, List.mem_of_getElem? (i := 16) (by decide +kernel), List.mem_of_getElem? (i := 635) (by decide +kernel), List.mem_of_getElem? (i := 636) (by decide +kernel)⟩
theorem lw_p21 : lw_okq (⟨"FlexRows", "withItem", "(JI)J"⟩, 8) := ⟨⟨by decide +kernel, by decide +kernel⟩, List.mem_of_getElem? (i := 16) (by decide +kernel), List.mem_of_getElem? (i := 647) (by decide +kernel), List.mem_of_getElem? (i := 648) (by decide +kernel)⟩
theorem lw_p22 : lw_okq (⟨"FlexRowsModel", "readsItem", "()V"⟩, 27) := ⟨⟨by decide +kernel, by decide +kernel⟩, List.mem_of_getElem? (i := 652) (by decide +kernel), List.mem_of_getElem? (i := 759) (by decide +kernel), List.mem_of_getElem? (i := 760) (by decide +kernel)⟩
theorem lw_p23 : lw_okq (⟨"FlexRowsModel", "skips", "()V"⟩, 27) := ⟨⟨by decide +kernel, by decide +kernel⟩, List.mem_of_getElem? (i := 652) (by decide +kernel), List.mem_of_getElem? (i := 763) (by decide +kernel), List.mem_of_getElem? (i := 764) (by decide +kernel)⟩
theorem lw_p24 : lw_okq (⟨"FlexRowsModel", "next", "()I"⟩, 27) := ⟨⟨by decide +kernel, by decide +kernel⟩, List.mem_of_getElem? (i := 652) (by decide +kernel), List.mem_of_getElem? (i := 767) (by decide +kernel), List.mem_of_getElem? (i := 768) (by decide +kernel)⟩
theorem lw_p25 : lw_okq (⟨"FlexRowsModel", "readsNumber", "(I)V"⟩, 27) := ⟨⟨by decide +kernel, by decide +kernel⟩, List.mem_of_getElem? (i := 652) (by decide +kernel), List.mem_of_getElem? (i := 771) (by decide +kernel), List.mem_of_getElem? (i := 772) (by decide +kernel)⟩
theorem lw_p26 : lw_okq (⟨"FlexRowsModel", "isDigit", "()Z"⟩, 27) := ⟨⟨by decide +kernel, by decide +kernel⟩, List.mem_of_getElem? (i := 652) (by decide +kernel), List.mem_of_getElem? (i := 775) (by decide +kernel), List.mem_of_getElem? (i := 776) (by decide +kernel)⟩
theorem lw_p27 : lw_okq (⟨"FlexRowsModel", "fails", "(I)V"⟩, 27) := ⟨⟨by decide +kernel, by decide +kernel⟩, List.mem_of_getElem? (i := 652) (by decide +kernel), List.mem_of_getElem? (i := 779) (by decide +kernel), List.mem_of_getElem? (i := 780) (by decide +kernel)⟩
theorem lw_p28 : lw_okq (⟨"FlexRowsModel", "wordOf", "(I)I"⟩, 27) := ⟨⟨by decide +kernel, by decide +kernel⟩, List.mem_of_getElem? (i := 652) (by decide +kernel), List.mem_of_getElem? (i := 789) (by decide +kernel), List.mem_of_getElem? (i := 790) (by decide +kernel)⟩
theorem lw_p29 : lw_okq (⟨"FlexRowsModel", "isWord", "(IJI)Z"⟩, 27) := ⟨⟨by decide +kernel, by decide +kernel⟩, List.mem_of_getElem? (i := 652) (by decide +kernel), List.mem_of_getElem? (i := 794) (by decide +kernel), List.mem_of_getElem? (i := 795) (by decide +kernel)⟩
theorem lw_p30 : lw_okq (⟨"FlexRowsModel", "keeps", "()V"⟩, 27) := ⟨⟨by decide +kernel, by decide +kernel⟩, List.mem_of_getElem? (i := 652) (by decide +kernel), List.mem_of_getElem? (i := 807) (by decide +kernel), List.mem_of_getElem? (i := 808) (by decide +kernel)⟩
theorem lw_p31 : lw_okq (⟨"FlexRowsModel", "copies", "(II)V"⟩, 27) := ⟨⟨by decide +kernel, by decide +kernel⟩, List.mem_of_getElem? (i := 652) (by decide +kernel), List.mem_of_getElem? (i := 811) (by decide +kernel), List.mem_of_getElem? (i := 812) (by decide +kernel)⟩
def lw_privs_2 : List (MethodName × Nat) := [(⟨"FlexRows$Places", "lowered", "(III)I"⟩, 8), (⟨"FlexRows", "lieAt", "(II)I"⟩, 8), (⟨"FlexRows", "lineTells", "(II)I"⟩, 8), (⟨"FlexRows", "counted", "(I)I"⟩, 8), (⟨"FlexRows", "greatestEnd", "()I"⟩, 8), (⟨"FlexRows", "withItem", "(JI)J"⟩, 8), (⟨"FlexRowsModel", "readsItem", "()V"⟩, 27), (⟨"FlexRowsModel", "skips", "()V"⟩, 27), (⟨"FlexRowsModel", "next", "()I"⟩, 27), (⟨"FlexRowsModel", "readsNumber", "(I)V"⟩, 27), (⟨"FlexRowsModel", "isDigit", "()Z"⟩, 27), (⟨"FlexRowsModel", "fails", "(I)V"⟩, 27), (⟨"FlexRowsModel", "wordOf", "(I)I"⟩, 27), (⟨"FlexRowsModel", "isWord", "(IJI)Z"⟩, 27), (⟨"FlexRowsModel", "keeps", "()V"⟩, 27), (⟨"FlexRowsModel", "copies", "(II)V"⟩, 27)]
theorem lw_r2 : ∀ q ∈ lw_privs_2, lw_okq q := List.forall_mem_cons.mpr ⟨lw_p16, List.forall_mem_cons.mpr ⟨lw_p17, List.forall_mem_cons.mpr ⟨lw_p18, List.forall_mem_cons.mpr ⟨lw_p19, List.forall_mem_cons.mpr ⟨lw_p20, List.forall_mem_cons.mpr ⟨lw_p21, List.forall_mem_cons.mpr ⟨lw_p22, List.forall_mem_cons.mpr ⟨lw_p23, List.forall_mem_cons.mpr ⟨lw_p24, List.forall_mem_cons.mpr ⟨lw_p25, List.forall_mem_cons.mpr ⟨lw_p26, List.forall_mem_cons.mpr ⟨lw_p27, List.forall_mem_cons.mpr ⟨lw_p28, List.forall_mem_cons.mpr ⟨lw_p29, List.forall_mem_cons.mpr ⟨lw_p30, List.forall_mem_cons.mpr ⟨lw_p31, fun _ h => absurd h List.not_mem_nil⟩⟩⟩⟩⟩⟩⟩⟩⟩⟩⟩⟩⟩⟩⟩⟩
theorem lw_p32 : lw_okq (⟨"FlexRowsModel", "lays", "(I)V"⟩, 27) := ⟨⟨by decide +kernel, by decide +kernel⟩, List.mem_of_getElem? (i := 652) (by decide +kernel), List.mem_of_getElem? (i := 815) (by decide +kernel), List.mem_of_getElem? (i := 816) (by decide +kernel)⟩
theorem lw_p33 : lw_okq (⟨"FlexRowsModel", "isItem", "(I)Z"⟩, 27) := ⟨⟨by decide +kernel, by decide +kernel⟩, List.mem_of_getElem? (i := 652) (by decide +kernel), List.mem_of_getElem? (i := 823) (by decide +kernel), List.mem_of_getElem? (i := 824) (by decide +kernel)⟩
theorem lw_p34 : lw_okq (⟨"FlexRowsModel", "of", "(II)I"⟩, 27) := ⟨⟨by decide +kernel, by decide +kernel⟩, List.mem_of_getElem? (i := 652) (by decide +kernel), List.mem_of_getElem? (i := 831) (by decide +kernel), List.mem_of_getElem? (i := 832) (by decide +kernel)⟩
theorem lw_p35 : lw_okq (⟨"FlexRowsModel", "draws", "(I)V"⟩, 27) := ⟨⟨by decide +kernel, by decide +kernel⟩, List.mem_of_getElem? (i := 652) (by decide +kernel), List.mem_of_getElem? (i := 835) (by decide +kernel), List.mem_of_getElem? (i := 836) (by decide +kernel)⟩
theorem lw_p36 : lw_okq (⟨"FlexRowsModel", "orders", "()V"⟩, 27) := ⟨⟨by decide +kernel, by decide +kernel⟩, List.mem_of_getElem? (i := 652) (by decide +kernel), List.mem_of_getElem? (i := 839) (by decide +kernel), List.mem_of_getElem? (i := 840) (by decide +kernel)⟩
theorem lw_p37 : lw_okq (⟨"FlexRowsModel", "wraps", "(I)V"⟩, 27) := ⟨⟨by decide +kernel, by decide +kernel⟩, List.mem_of_getElem? (i := 652) (by decide +kernel), List.mem_of_getElem? (i := 843) (by decide +kernel), List.mem_of_getElem? (i := 844) (by decide +kernel)⟩
theorem lw_p38 : lw_okq (⟨"FlexRowsModel", "outerWish", "(I)I"⟩, 27) := ⟨⟨by decide +kernel, by decide +kernel⟩, List.mem_of_getElem? (i := 652) (by decide +kernel), List.mem_of_getElem? (i := 847) (by decide +kernel), List.mem_of_getElem? (i := 848) (by decide +kernel)⟩
theorem lw_p39 : lw_okq (⟨"FlexRowsModel", "wish", "(I)I"⟩, 27) := ⟨⟨by decide +kernel, by decide +kernel⟩, List.mem_of_getElem? (i := 652) (by decide +kernel), List.mem_of_getElem? (i := 851) (by decide +kernel), List.mem_of_getElem? (i := 852) (by decide +kernel)⟩
theorem lw_p40 : lw_okq (⟨"FlexRowsModel", "greatest", "(I)I"⟩, 27) := ⟨⟨by decide +kernel, by decide +kernel⟩, List.mem_of_getElem? (i := 652) (by decide +kernel), List.mem_of_getElem? (i := 858) (by decide +kernel), List.mem_of_getElem? (i := 859) (by decide +kernel)⟩
theorem lw_p41 : lw_okq (⟨"FlexRowsModel", "sizes", "(II)V"⟩, 27) := ⟨⟨by decide +kernel, by decide +kernel⟩, List.mem_of_getElem? (i := 652) (by decide +kernel), List.mem_of_getElem? (i := 865) (by decide +kernel), List.mem_of_getElem? (i := 866) (by decide +kernel)⟩
theorem lw_p42 : lw_okq (⟨"FlexRowsModel", "isLeft", "(I)Z"⟩, 27) := ⟨⟨by decide +kernel, by decide +kernel⟩, List.mem_of_getElem? (i := 652) (by decide +kernel), List.mem_of_getElem? (i := 869) (by decide +kernel), List.mem_of_getElem? (i := 870) (by decide +kernel)⟩
theorem lw_p43 : lw_okq (⟨"FlexRowsModel", "pass", "(I)V"⟩, 27) := ⟨⟨by decide +kernel, by decide +kernel⟩, List.mem_of_getElem? (i := 652) (by decide +kernel), List.mem_of_getElem? (i := 873) (by decide +kernel), List.mem_of_getElem? (i := 874) (by decide +kernel)⟩
theorem lw_p44 : lw_okq (⟨"FlexRowsModel", "share", "(I)I"⟩, 27) := ⟨⟨by decide +kernel, by decide +kernel⟩, List.mem_of_getElem? (i := 652) (by decide +kernel), List.mem_of_getElem? (i := 877) (by decide +kernel), List.mem_of_getElem? (i := 878) (by decide +kernel)⟩
theorem lw_p45 : lw_okq (⟨"FlexRowsModel", "weight", "(IZ)I"⟩, 27) := ⟨⟨by decide +kernel, by decide +kernel⟩, List.mem_of_getElem? (i := 652) (by decide +kernel), List.mem_of_getElem? (i := 881) (by decide +kernel), List.mem_of_getElem? (i := 882) (by decide +kernel)⟩
theorem lw_p46 : lw_okq (⟨"FlexRowsModel", "along", "(II)V"⟩, 27) := ⟨⟨by decide +kernel, by decide +kernel⟩, List.mem_of_getElem? (i := 652) (by decide +kernel), List.mem_of_getElem? (i := 885) (by decide +kernel), List.mem_of_getElem? (i := 886) (by decide +kernel)⟩
theorem lw_p47 : lw_okq (⟨"FlexRowsModel", "shift", "(II)I"⟩, 27) := ⟨⟨by decide +kernel, by decide +kernel⟩, List.mem_of_getElem? (i := 652) (by decide +kernel), List.mem_of_getElem? (i := 889) (by decide +kernel), List.mem_of_getElem? (i := 890) (by decide +kernel)⟩
def lw_privs_3 : List (MethodName × Nat) := [(⟨"FlexRowsModel", "lays", "(I)V"⟩, 27), (⟨"FlexRowsModel", "isItem", "(I)Z"⟩, 27), (⟨"FlexRowsModel", "of", "(II)I"⟩, 27), (⟨"FlexRowsModel", "draws", "(I)V"⟩, 27), (⟨"FlexRowsModel", "orders", "()V"⟩, 27), (⟨"FlexRowsModel", "wraps", "(I)V"⟩, 27), (⟨"FlexRowsModel", "outerWish", "(I)I"⟩, 27), (⟨"FlexRowsModel", "wish", "(I)I"⟩, 27), (⟨"FlexRowsModel", "greatest", "(I)I"⟩, 27), (⟨"FlexRowsModel", "sizes", "(II)V"⟩, 27), (⟨"FlexRowsModel", "isLeft", "(I)Z"⟩, 27), (⟨"FlexRowsModel", "pass", "(I)V"⟩, 27), (⟨"FlexRowsModel", "share", "(I)I"⟩, 27), (⟨"FlexRowsModel", "weight", "(IZ)I"⟩, 27), (⟨"FlexRowsModel", "along", "(II)V"⟩, 27), (⟨"FlexRowsModel", "shift", "(II)I"⟩, 27)]
theorem lw_r3 : ∀ q ∈ lw_privs_3, lw_okq q := List.forall_mem_cons.mpr ⟨lw_p32, List.forall_mem_cons.mpr ⟨lw_p33, List.forall_mem_cons.mpr ⟨lw_p34, List.forall_mem_cons.mpr ⟨lw_p35, List.forall_mem_cons.mpr ⟨lw_p36, List.forall_mem_cons.mpr ⟨lw_p37, List.forall_mem_cons.mpr ⟨lw_p38, List.forall_mem_cons.mpr ⟨lw_p39, List.forall_mem_cons.mpr ⟨lw_p40, List.forall_mem_cons.mpr ⟨lw_p41, List.forall_mem_cons.mpr ⟨lw_p42, List.forall_mem_cons.mpr ⟨lw_p43, List.forall_mem_cons.mpr ⟨lw_p44, List.forall_mem_cons.mpr ⟨lw_p45, List.forall_mem_cons.mpr ⟨lw_p46, List.forall_mem_cons.mpr ⟨lw_p47, fun _ h => absurd h List.not_mem_nil⟩⟩⟩⟩⟩⟩⟩⟩⟩⟩⟩⟩⟩⟩⟩⟩
theorem lw_p48 : lw_okq (⟨"FlexRowsModel", "across", "(I)V"⟩, 27) := ⟨⟨by decide +kernel, by decide +kernel⟩, List.mem_of_getElem? (i := 652) (by decide +kernel), List.mem_of_getElem? (i := 896) (by decide +kernel), List.mem_of_getElem? (i := 897) (by decide +kernel)⟩
theorem lw_p49 : lw_okq (⟨"FlexRowsModel", "wayOf", "(I)I"⟩, 27) := ⟨⟨by decide +kernel, by decide +kernel⟩, List.mem_of_getElem? (i := 652) (by decide +kernel), List.mem_of_getElem? (i := 900) (by decide +kernel), List.mem_of_getElem? (i := 901) (by decide +kernel)⟩
theorem lw_p50 : lw_okq (⟨"FlexRowsModel", "above", "(I)I"⟩, 27) := ⟨⟨by decide +kernel, by decide +kernel⟩, List.mem_of_getElem? (i := 652) (by decide +kernel), List.mem_of_getElem? (i := 904) (by decide +kernel), List.mem_of_getElem? (i := 905) (by decide +kernel)⟩
theorem lw_p51 : lw_okq (⟨"FlexRowsModel", "placeOf", "(I)I"⟩, 27) := ⟨⟨by decide +kernel, by decide +kernel⟩, List.mem_of_getElem? (i := 652) (by decide +kernel), List.mem_of_getElem? (i := 908) (by decide +kernel), List.mem_of_getElem? (i := 909) (by decide +kernel)⟩
theorem lw_p52 : lw_okq (⟨"FlexRowsModel", "liesAt", "(II)I"⟩, 27) := ⟨⟨by decide +kernel, by decide +kernel⟩, List.mem_of_getElem? (i := 652) (by decide +kernel), List.mem_of_getElem? (i := 932) (by decide +kernel), List.mem_of_getElem? (i := 933) (by decide +kernel)⟩
theorem lw_p53 : lw_okq (⟨"FlexRowsModel", "linePart", "(II)I"⟩, 27) := ⟨⟨by decide +kernel, by decide +kernel⟩, List.mem_of_getElem? (i := 652) (by decide +kernel), List.mem_of_getElem? (i := 944) (by decide +kernel), List.mem_of_getElem? (i := 945) (by decide +kernel)⟩
theorem lw_p54 : lw_okq (⟨"FlexRowsModel", "outer", "(I)I"⟩, 27) := ⟨⟨by decide +kernel, by decide +kernel⟩, List.mem_of_getElem? (i := 652) (by decide +kernel), List.mem_of_getElem? (i := 948) (by decide +kernel), List.mem_of_getElem? (i := 949) (by decide +kernel)⟩
theorem lw_p55 : lw_okq (⟨"FlexRowsModel", "fits", "(II)Z"⟩, 27) := ⟨⟨by decide +kernel, by decide +kernel⟩, List.mem_of_getElem? (i := 652) (by decide +kernel), List.mem_of_getElem? (i := 960) (by decide +kernel), List.mem_of_getElem? (i := 961) (by decide +kernel)⟩
theorem lw_p56 : lw_okq (⟨"FlexRowsModel", "number", "(I)I"⟩, 27) := ⟨⟨by decide +kernel, by decide +kernel⟩, List.mem_of_getElem? (i := 652) (by decide +kernel), List.mem_of_getElem? (i := 968) (by decide +kernel), List.mem_of_getElem? (i := 969) (by decide +kernel)⟩
theorem lw_p57 : lw_okq (⟨"FlexRowsModel", "hidden", "()I"⟩, 27) := ⟨⟨by decide +kernel, by decide +kernel⟩, List.mem_of_getElem? (i := 652) (by decide +kernel), List.mem_of_getElem? (i := 972) (by decide +kernel), List.mem_of_getElem? (i := 973) (by decide +kernel)⟩
theorem lw_p58 : lw_okq (⟨"FlexRowsModel", "farthest", "()I"⟩, 27) := ⟨⟨by decide +kernel, by decide +kernel⟩, List.mem_of_getElem? (i := 652) (by decide +kernel), List.mem_of_getElem? (i := 976) (by decide +kernel), List.mem_of_getElem? (i := 977) (by decide +kernel)⟩
theorem lw_p59 : lw_okq (⟨"FlexRowsModel", "mixes", "(J)V"⟩, 27) := ⟨⟨by decide +kernel, by decide +kernel⟩, List.mem_of_getElem? (i := 652) (by decide +kernel), List.mem_of_getElem? (i := 985) (by decide +kernel), List.mem_of_getElem? (i := 986) (by decide +kernel)⟩
theorem lw_p60 : lw_okq (⟨"FlexRowsModel", "mixesItem", "(I)V"⟩, 27) := ⟨⟨by decide +kernel, by decide +kernel⟩, List.mem_of_getElem? (i := 652) (by decide +kernel), List.mem_of_getElem? (i := 990) (by decide +kernel), List.mem_of_getElem? (i := 991) (by decide +kernel)⟩
def lw_privs_4 : List (MethodName × Nat) := [(⟨"FlexRowsModel", "across", "(I)V"⟩, 27), (⟨"FlexRowsModel", "wayOf", "(I)I"⟩, 27), (⟨"FlexRowsModel", "above", "(I)I"⟩, 27), (⟨"FlexRowsModel", "placeOf", "(I)I"⟩, 27), (⟨"FlexRowsModel", "liesAt", "(II)I"⟩, 27), (⟨"FlexRowsModel", "linePart", "(II)I"⟩, 27), (⟨"FlexRowsModel", "outer", "(I)I"⟩, 27), (⟨"FlexRowsModel", "fits", "(II)Z"⟩, 27), (⟨"FlexRowsModel", "number", "(I)I"⟩, 27), (⟨"FlexRowsModel", "hidden", "()I"⟩, 27), (⟨"FlexRowsModel", "farthest", "()I"⟩, 27), (⟨"FlexRowsModel", "mixes", "(J)V"⟩, 27), (⟨"FlexRowsModel", "mixesItem", "(I)V"⟩, 27)]
theorem lw_r4 : ∀ q ∈ lw_privs_4, lw_okq q := List.forall_mem_cons.mpr ⟨lw_p48, List.forall_mem_cons.mpr ⟨lw_p49, List.forall_mem_cons.mpr ⟨lw_p50, List.forall_mem_cons.mpr ⟨lw_p51, List.forall_mem_cons.mpr ⟨lw_p52, List.forall_mem_cons.mpr ⟨lw_p53, List.forall_mem_cons.mpr ⟨lw_p54, List.forall_mem_cons.mpr ⟨lw_p55, List.forall_mem_cons.mpr ⟨lw_p56, List.forall_mem_cons.mpr ⟨lw_p57, List.forall_mem_cons.mpr ⟨lw_p58, List.forall_mem_cons.mpr ⟨lw_p59, List.forall_mem_cons.mpr ⟨lw_p60, fun _ h => absurd h List.not_mem_nil⟩⟩⟩⟩⟩⟩⟩⟩⟩⟩⟩⟩⟩
def lw_privs : List (MethodName × Nat) := lw_privs_1 ++ (lw_privs_2 ++ (lw_privs_3 ++ (lw_privs_4)))
def lw_tbl : List Cond := k2_sels lw_privs ++ tables_1
theorem lw_privs_ok : ∀ q ∈ lw_privs, lw_okq q := by
  show ∀ q ∈ lw_privs_1 ++ (lw_privs_2 ++ (lw_privs_3 ++ (lw_privs_4))), lw_okq q
  exact List.forall_mem_append.mpr ⟨lw_r1, List.forall_mem_append.mpr ⟨lw_r2, List.forall_mem_append.mpr ⟨lw_r3, lw_r4⟩⟩⟩
/-! ===== BEGIN words of one list among another's, by their places ===== -/
def RX0 : String := "FlexRows$History"
def TX0 : u_T := fun k => match k with
  | 0 => ("FlexRows$History", "kept", "I", false)
  | 1 => ("FlexRows$History", "next", "I", false)
  | 2 => ("FlexRows$History", "items", "[I", true)
  | 3 => ("FlexRows$History", "boxes", "[I", true)
  | _ => ("FlexRows$History", "fields", "[I", true)
def tyX0 : Nat → FieldType := fun k => match k with
  | 0 => .int
  | 1 => .int
  | 2 => .array .int
  | 3 => .array .int
  | _ => .array .int
theorem nmX0 : ∀ a, a < 5 → ∀ b, b < 5 → a ≠ b → (TX0 a).2.1 ≠ (TX0 b).2.1 := by decide +kernel
theorem tyX0_ok : ∀ k, k < 5 → parseFieldDescriptor (TX0 k).2.2.1 = some (tyX0 k) := by decide +kernel
abbrev cX0_init : ByteArray := prog_2_method_1_code
def yX0_init : MethodName := ⟨RX0, "<init>", "()V"⟩
abbrev cX0_record : ByteArray := prog_2_method_2_code
def yX0_record : MethodName := ⟨RX0, "record", "(LFlexRows$State;)V"⟩
abbrev cX0_restore : ByteArray := prog_2_method_3_code
def yX0_restore : MethodName := ⟨RX0, "restore", "(LFlexRows$State;)V"⟩
def RX1 : String := "FlexRows$Lines"
def TX1 : u_T := fun k => match k with
  | 0 => ("FlexRows$Lines", "number", "I", false)
  | 1 => ("FlexRows$Lines", "first", "[I", true)
  | 2 => ("FlexRows$Lines", "filled", "[I", true)
  | 3 => ("FlexRows$Lines", "rest", "[I", true)
  | 4 => ("FlexRows$Lines", "passes", "[I", true)
  | 5 => ("FlexRows$Lines", "grows", "[Z", true)
  | 6 => ("FlexRows$Lines", "size", "[I", true)
  | 7 => ("FlexRows$Lines", "pass", "[I", true)
  | 8 => ("FlexRows$Lines", "correction", "[I", true)
  | 9 => ("FlexRows$Lines", "state", "LFlexRows$State;", true)
  | 10 => ("FlexRows$Lines", "order", "LFlexRows$Order;", true)
  | _ => ("FlexRows$Lines", "width", "I", false)
def tyX1 : Nat → FieldType := fun k => match k with
  | 0 => .int
  | 1 => .array .int
  | 2 => .array .int
  | 3 => .array .int
  | 4 => .array .int
  | 5 => .array .boolean
  | 6 => .array .int
  | 7 => .array .int
  | 8 => .array .int
  | 9 => .object "FlexRows$State"
  | 10 => .object "FlexRows$Order"
  | _ => .int
theorem nmX1 : ∀ a, a < 12 → ∀ b, b < 12 → a ≠ b → (TX1 a).2.1 ≠ (TX1 b).2.1 := by decide +kernel
theorem tyX1_ok : ∀ k, k < 12 → parseFieldDescriptor (TX1 k).2.2.1 = some (tyX1 k) := by decide +kernel
abbrev cX1_init : ByteArray := prog_3_method_1_code
def yX1_init : MethodName := ⟨RX1, "<init>", "(LFlexRows$State;LFlexRows$Order;)V"⟩
abbrev cX1_breakUp : ByteArray := prog_3_method_2_code
def yX1_breakUp : MethodName := ⟨RX1, "breakUp", "(I)V"⟩
abbrev cX1_end : ByteArray := prog_3_method_3_code
def yX1_end : MethodName := ⟨RX1, "end", "(I)I"⟩
abbrev cX1_lineOf : ByteArray := prog_3_method_4_code
def yX1_lineOf : MethodName := ⟨RX1, "lineOf", "(I)I"⟩
abbrev cX1_share : ByteArray := prog_3_method_5_code
def yX1_share : MethodName := ⟨RX1, "share", "()V"⟩
abbrev cX1_allHaveRoom : ByteArray := prog_3_method_6_code
def yX1_allHaveRoom : MethodName := ⟨RX1, "allHaveRoom", "()Z"⟩
abbrev cX1_shareLine : ByteArray := prog_3_method_7_code
def yX1_shareLine : MethodName := ⟨RX1, "shareLine", "(I)V"⟩
abbrev cX1_freezeStiff : ByteArray := prog_3_method_8_code
def yX1_freezeStiff : MethodName := ⟨RX1, "freezeStiff", "(IIZ)V"⟩
abbrev cX1_hasOpen : ByteArray := prog_3_method_9_code
def yX1_hasOpen : MethodName := ⟨RX1, "hasOpen", "(II)Z"⟩
abbrev cX1_shareOut : ByteArray := prog_3_method_10_code
def yX1_shareOut : MethodName := ⟨RX1, "shareOut", "(IIIZ)V"⟩
abbrev cX1_part : ByteArray := prog_3_method_11_code
def yX1_part : MethodName := ⟨RX1, "part", "(III)I"⟩
abbrev cX1_freezeCorrected : ByteArray := prog_3_method_12_code
def yX1_freezeCorrected : MethodName := ⟨RX1, "freezeCorrected", "(III)V"⟩
def RX2 : String := "FlexRows$Order"
def TX2 : u_T := fun k => match k with
  | 0 => ("FlexRows$Order", "shown", "I", false)
  | 1 => ("FlexRows$Order", "items", "[I", true)
  | 2 => ("FlexRows$Order", "base", "[I", true)
  | 3 => ("FlexRows$Order", "least", "[I", true)
  | 4 => ("FlexRows$Order", "greatest", "[I", true)
  | 5 => ("FlexRows$Order", "margin", "[I", true)
  | 6 => ("FlexRows$Order", "wish", "[I", true)
  | _ => ("FlexRows$Order", "state", "LFlexRows$State;", true)
def tyX2 : Nat → FieldType := fun k => match k with
  | 0 => .int
  | 1 => .array .int
  | 2 => .array .int
  | 3 => .array .int
  | 4 => .array .int
  | 5 => .array .int
  | 6 => .array .int
  | _ => .object "FlexRows$State"
theorem nmX2 : ∀ a, a < 8 → ∀ b, b < 8 → a ≠ b → (TX2 a).2.1 ≠ (TX2 b).2.1 := by decide +kernel
theorem tyX2_ok : ∀ k, k < 8 → parseFieldDescriptor (TX2 k).2.2.1 = some (tyX2 k) := by decide +kernel
abbrev cX2_init : ByteArray := prog_4_method_1_code
def yX2_init : MethodName := ⟨RX2, "<init>", "(LFlexRows$State;)V"⟩
abbrev cX2_sort : ByteArray := prog_4_method_2_code
def yX2_sort : MethodName := ⟨RX2, "sort", "()V"⟩
abbrev cX2_enter : ByteArray := prog_4_method_3_code
def yX2_enter : MethodName := ⟨RX2, "enter", "(I)V"⟩
abbrev cX2_itemAt : ByteArray := prog_4_method_4_code
def yX2_itemAt : MethodName := ⟨RX2, "itemAt", "(I)I"⟩
abbrev cX2_placeOf : ByteArray := prog_4_method_5_code
def yX2_placeOf : MethodName := ⟨RX2, "placeOf", "(I)I"⟩
abbrev cX2_outerWish : ByteArray := prog_4_method_6_code
def yX2_outerWish : MethodName := ⟨RX2, "outerWish", "(I)I"⟩
abbrev cX2_weight : ByteArray := prog_4_method_7_code
def yX2_weight : MethodName := ⟨RX2, "weight", "(IZ)I"⟩
abbrev cX2_isStiff : ByteArray := prog_4_method_8_code
def yX2_isStiff : MethodName := ⟨RX2, "isStiff", "(IZ)Z"⟩
def RX3 : String := "FlexRows$Places"
def TX3 : u_T := fun k => match k with
  | 0 => ("FlexRows$Places", "height", "I", false)
  | 1 => ("FlexRows$Places", "left", "[I", true)
  | 2 => ("FlexRows$Places", "top", "[I", true)
  | 3 => ("FlexRows$Places", "lineTop", "[I", true)
  | 4 => ("FlexRows$Places", "lineHeight", "[I", true)
  | 5 => ("FlexRows$Places", "state", "LFlexRows$State;", true)
  | 6 => ("FlexRows$Places", "order", "LFlexRows$Order;", true)
  | _ => ("FlexRows$Places", "lines", "LFlexRows$Lines;", true)
def tyX3 : Nat → FieldType := fun k => match k with
  | 0 => .int
  | 1 => .array .int
  | 2 => .array .int
  | 3 => .array .int
  | 4 => .array .int
  | 5 => .object "FlexRows$State"
  | 6 => .object "FlexRows$Order"
  | _ => .object "FlexRows$Lines"
theorem nmX3 : ∀ a, a < 8 → ∀ b, b < 8 → a ≠ b → (TX3 a).2.1 ≠ (TX3 b).2.1 := by decide +kernel
theorem tyX3_ok : ∀ k, k < 8 → parseFieldDescriptor (TX3 k).2.2.1 = some (tyX3 k) := by decide +kernel
abbrev cX3_init : ByteArray := prog_5_method_1_code
def yX3_init : MethodName := ⟨RX3, "<init>", "(LFlexRows$State;LFlexRows$Order;LFlexRows$Lines;)V"⟩
abbrev cX3_find : ByteArray := prog_5_method_2_code
def yX3_find : MethodName := ⟨RX3, "find", "()V"⟩
abbrev cX3_end : ByteArray := prog_5_method_3_code
def yX3_end : MethodName := ⟨RX3, "end", "(I)I"⟩
abbrev cX3_covers : ByteArray := prog_5_method_4_code
def yX3_covers : MethodName := ⟨RX3, "covers", "(III)Z"⟩
abbrev cX3_setAlong : ByteArray := prog_5_method_5_code
def yX3_setAlong : MethodName := ⟨RX3, "setAlong", "(I)V"⟩
abbrev cX3_shift : ByteArray := prog_5_method_6_code
def yX3_shift : MethodName := ⟨RX3, "shift", "(III)I"⟩
abbrev cX3_setAcross : ByteArray := prog_5_method_7_code
def yX3_setAcross : MethodName := ⟨RX3, "setAcross", "(II)V"⟩
abbrev cX3_lowered : ByteArray := prog_5_method_8_code
def yX3_lowered : MethodName := ⟨RX3, "lowered", "(III)I"⟩
def RX4 : String := "FlexRows$State"
def TX4 : u_T := fun k => match k with
  | 0 => ("FlexRows$State", "items", "I", false)
  | 1 => ("FlexRows$State", "box", "[I", true)
  | _ => ("FlexRows$State", "fields", "[I", true)
def tyX4 : Nat → FieldType := fun k => match k with
  | 0 => .int
  | 1 => .array .int
  | _ => .array .int
theorem nmX4 : ∀ a, a < 3 → ∀ b, b < 3 → a ≠ b → (TX4 a).2.1 ≠ (TX4 b).2.1 := by decide +kernel
theorem tyX4_ok : ∀ k, k < 3 → parseFieldDescriptor (TX4 k).2.2.1 = some (tyX4 k) := by decide +kernel
abbrev cX4_init : ByteArray := prog_6_method_1_code
def yX4_init : MethodName := ⟨RX4, "<init>", "()V"⟩
abbrev cX4_has : ByteArray := prog_6_method_2_code
def yX4_has : MethodName := ⟨RX4, "has", "(I)Z"⟩
abbrev cX4_number : ByteArray := prog_6_method_3_code
def yX4_number : MethodName := ⟨RX4, "number", "(I)I"⟩
abbrev cX4_setNumber : ByteArray := prog_6_method_4_code
def yX4_setNumber : MethodName := ⟨RX4, "setNumber", "(II)V"⟩
abbrev cX4_property : ByteArray := prog_6_method_5_code
def yX4_property : MethodName := ⟨RX4, "property", "(II)I"⟩
abbrev cX4_put : ByteArray := prog_6_method_6_code
def yX4_put : MethodName := ⟨RX4, "put", "(III)V"⟩
abbrev cX4_greatest : ByteArray := prog_6_method_7_code
def yX4_greatest : MethodName := ⟨RX4, "greatest", "(I)I"⟩
abbrev cX4_wish : ByteArray := prog_6_method_8_code
def yX4_wish : MethodName := ⟨RX4, "wish", "(I)I"⟩
abbrev cX4_above : ByteArray := prog_6_method_9_code
def yX4_above : MethodName := ⟨RX4, "above", "(I)I"⟩
abbrev cX4_wayAcross : ByteArray := prog_6_method_10_code
def yX4_wayAcross : MethodName := ⟨RX4, "wayAcross", "(I)I"⟩
abbrev cX4_append : ByteArray := prog_6_method_11_code
def yX4_append : MethodName := ⟨RX4, "append", "([I)V"⟩
abbrev cX4_carry : ByteArray := prog_6_method_12_code
def yX4_carry : MethodName := ⟨RX4, "carry", "(II)V"⟩
abbrev cX4_swap : ByteArray := prog_6_method_13_code
def yX4_swap : MethodName := ⟨RX4, "swap", "(II)V"⟩
def RX5 : String := "FlexRows$Text"
def TX5 : u_T := fun k => match k with
  | 0 => ("FlexRows$Text", "bytes", "[B", true)
  | 1 => ("FlexRows$Text", "values", "[I", true)
  | 2 => ("FlexRows$Text", "length", "I", false)
  | 3 => ("FlexRows$Text", "next", "I", false)
  | _ => ("FlexRows$Text", "stood", "I", false)
def tyX5 : Nat → FieldType := fun k => match k with
  | 0 => .array .byte
  | 1 => .array .int
  | 2 => .int
  | 3 => .int
  | _ => .int
theorem nmX5 : ∀ a, a < 5 → ∀ b, b < 5 → a ≠ b → (TX5 a).2.1 ≠ (TX5 b).2.1 := by decide +kernel
theorem tyX5_ok : ∀ k, k < 5 → parseFieldDescriptor (TX5 k).2.2.1 = some (tyX5 k) := by decide +kernel
abbrev cX5_init : ByteArray := prog_7_method_1_code
def yX5_init : MethodName := ⟨RX5, "<init>", "()V"⟩
abbrev cX5_append : ByteArray := prog_7_method_2_code
def yX5_append : MethodName := ⟨RX5, "append", "(I)Z"⟩
abbrev cX5_byteAt : ByteArray := prog_7_method_3_code
def yX5_byteAt : MethodName := ⟨RX5, "byteAt", "(I)I"⟩
abbrev cX5_read : ByteArray := prog_7_method_4_code
def yX5_read : MethodName := ⟨RX5, "read", "()I"⟩
abbrev cX5_readNumber : ByteArray := prog_7_method_5_code
def yX5_readNumber : MethodName := ⟨RX5, "readNumber", "(I)I"⟩
abbrev cX5_readWord : ByteArray := prog_7_method_6_code
def yX5_readWord : MethodName := ⟨RX5, "readWord", "()I"⟩
abbrev cX5_stands : ByteArray := prog_7_method_7_code
def yX5_stands : MethodName := ⟨RX5, "stands", "(Ljava/lang/String;I)Z"⟩
abbrev cX5_skipBlanks : ByteArray := prog_7_method_8_code
def yX5_skipBlanks : MethodName := ⟨RX5, "skipBlanks", "()V"⟩
abbrev cX5_isDigit : ByteArray := prog_7_method_9_code
def yX5_isDigit : MethodName := ⟨RX5, "isDigit", "(I)Z"⟩
abbrev cX5_isLetter : ByteArray := prog_7_method_10_code
def yX5_isLetter : MethodName := ⟨RX5, "isLetter", "(I)Z"⟩
abbrev cX5_word : ByteArray := prog_7_method_11_code
def yX5_word : MethodName := ⟨RX5, "word", "(I)Ljava/lang/String;"⟩
def RX6 : String := "FlexRows"
def TX6 : u_T := fun k => match k with
  | 0 => ("FlexRows", "text", "LFlexRows$Text;", true)
  | 1 => ("FlexRows", "state", "LFlexRows$State;", true)
  | 2 => ("FlexRows", "history", "LFlexRows$History;", true)
  | 3 => ("FlexRows", "order", "LFlexRows$Order;", true)
  | 4 => ("FlexRows", "lines", "LFlexRows$Lines;", true)
  | 5 => ("FlexRows", "places", "LFlexRows$Places;", true)
  | 6 => ("FlexRows", "tried", "LFlexRows$Lines;", true)
  | _ => ("FlexRows", "laid", "Z", false)
def tyX6 : Nat → FieldType := fun k => match k with
  | 0 => .object "FlexRows$Text"
  | 1 => .object "FlexRows$State"
  | 2 => .object "FlexRows$History"
  | 3 => .object "FlexRows$Order"
  | 4 => .object "FlexRows$Lines"
  | 5 => .object "FlexRows$Places"
  | 6 => .object "FlexRows$Lines"
  | _ => .boolean
theorem nmX6 : ∀ a, a < 8 → ∀ b, b < 8 → a ≠ b → (TX6 a).2.1 ≠ (TX6 b).2.1 := by decide +kernel
theorem tyX6_ok : ∀ k, k < 8 → parseFieldDescriptor (TX6 k).2.2.1 = some (tyX6 k) := by decide +kernel
abbrev cX6_init : ByteArray := prog_1_method_1_code
def yX6_init : MethodName := ⟨RX6, "<init>", "()V"⟩
abbrev cX6_type : ByteArray := prog_1_method_2_code
def yX6_type : MethodName := ⟨RX6, "type", "(I)I"⟩
abbrev cX6_clear : ByteArray := prog_1_method_3_code
def yX6_clear : MethodName := ⟨RX6, "clear", "()I"⟩
abbrev cX6_insert : ByteArray := prog_1_method_4_code
def yX6_insert : MethodName := ⟨RX6, "insert", "(I)I"⟩
abbrev cX6_remove : ByteArray := prog_1_method_5_code
def yX6_remove : MethodName := ⟨RX6, "remove", "(I)I"⟩
abbrev cX6_move : ByteArray := prog_1_method_6_code
def yX6_move : MethodName := ⟨RX6, "move", "(II)I"⟩
abbrev cX6_change : ByteArray := prog_1_method_7_code
def yX6_change : MethodName := ⟨RX6, "change", "(III)I"⟩
abbrev cX6_hide : ByteArray := prog_1_method_8_code
def yX6_hide : MethodName := ⟨RX6, "hide", "(I)I"⟩
abbrev cX6_set : ByteArray := prog_1_method_9_code
def yX6_set : MethodName := ⟨RX6, "set", "(II)I"⟩
abbrev cX6_undo : ByteArray := prog_1_method_10_code
def yX6_undo : MethodName := ⟨RX6, "undo", "()I"⟩
abbrev cX6_item : ByteArray := prog_1_method_11_code
def yX6_item : MethodName := ⟨RX6, "item", "(II)I"⟩
abbrev cX6_lies : ByteArray := prog_1_method_12_code
def yX6_lies : MethodName := ⟨RX6, "lies", "(II)I"⟩
abbrev cX6_ordered : ByteArray := prog_1_method_13_code
def yX6_ordered : MethodName := ⟨RX6, "ordered", "(I)I"⟩
abbrev cX6_line : ByteArray := prog_1_method_14_code
def yX6_line : MethodName := ⟨RX6, "line", "(II)I"⟩
abbrev cX6_at : ByteArray := prog_1_method_15_code
def yX6_at : MethodName := ⟨RX6, "at", "(II)I"⟩
abbrev cX6_leastWidth : ByteArray := prog_1_method_16_code
def yX6_leastWidth : MethodName := ⟨RX6, "leastWidth", "(II)I"⟩
abbrev cX6_count : ByteArray := prog_1_method_17_code
def yX6_count : MethodName := ⟨RX6, "count", "(I)I"⟩
abbrev cX6_digest : ByteArray := prog_1_method_18_code
def yX6_digest : MethodName := ⟨RX6, "digest", "()J"⟩
abbrev cX6_beforeChange : ByteArray := prog_1_method_19_code
def yX6_beforeChange : MethodName := ⟨RX6, "beforeChange", "()V"⟩
abbrev cX6_layOut : ByteArray := prog_1_method_20_code
def yX6_layOut : MethodName := ⟨RX6, "layOut", "()V"⟩
abbrev cX6_lieAt : ByteArray := prog_1_method_21_code
def yX6_lieAt : MethodName := ⟨RX6, "lieAt", "(II)I"⟩
abbrev cX6_lineTells : ByteArray := prog_1_method_22_code
def yX6_lineTells : MethodName := ⟨RX6, "lineTells", "(II)I"⟩
abbrev cX6_counted : ByteArray := prog_1_method_23_code
def yX6_counted : MethodName := ⟨RX6, "counted", "(I)I"⟩
abbrev cX6_greatestEnd : ByteArray := prog_1_method_24_code
def yX6_greatestEnd : MethodName := ⟨RX6, "greatestEnd", "()I"⟩
abbrev cX6_withItem : ByteArray := prog_1_method_25_code
def yX6_withItem : MethodName := ⟨RX6, "withItem", "(JI)J"⟩
def RX7 : String := "FlexRowsModel"
def TX7 : u_T := fun k => match k with
  | 0 => ("FlexRowsModel", "m", "[I", true)
  | 1 => ("FlexRowsModel", "past", "[I", true)
  | 2 => ("FlexRowsModel", "undos", "I", false)
  | 3 => ("FlexRowsModel", "text", "[I", true)
  | 4 => ("FlexRowsModel", "textLength", "I", false)
  | 5 => ("FlexRowsModel", "at", "I", false)
  | 6 => ("FlexRowsModel", "fault", "I", false)
  | 7 => ("FlexRowsModel", "read", "[I", true)
  | 8 => ("FlexRowsModel", "order", "[I", true)
  | 9 => ("FlexRowsModel", "ordered", "I", false)
  | 10 => ("FlexRowsModel", "lineOf", "[I", true)
  | 11 => ("FlexRowsModel", "from", "[I", true)
  | 12 => ("FlexRowsModel", "to", "[I", true)
  | 13 => ("FlexRowsModel", "lines", "I", false)
  | 14 => ("FlexRowsModel", "size", "[I", true)
  | 15 => ("FlexRowsModel", "corrected", "[I", true)
  | 16 => ("FlexRowsModel", "frozenIn", "[I", true)
  | 17 => ("FlexRowsModel", "isFrozen", "[Z", true)
  | 18 => ("FlexRowsModel", "room", "[I", true)
  | 19 => ("FlexRowsModel", "rest", "[I", true)
  | 20 => ("FlexRowsModel", "passes", "[I", true)
  | 21 => ("FlexRowsModel", "grows", "[Z", true)
  | 22 => ("FlexRowsModel", "left", "[I", true)
  | 23 => ("FlexRowsModel", "top", "[I", true)
  | 24 => ("FlexRowsModel", "lineTop", "[I", true)
  | 25 => ("FlexRowsModel", "lineHeight", "[I", true)
  | _ => ("FlexRowsModel", "hash", "J", false)
def tyX7 : Nat → FieldType := fun k => match k with
  | 0 => .array .int
  | 1 => .array .int
  | 2 => .int
  | 3 => .array .int
  | 4 => .int
  | 5 => .int
  | 6 => .int
  | 7 => .array .int
  | 8 => .array .int
  | 9 => .int
  | 10 => .array .int
  | 11 => .array .int
  | 12 => .array .int
  | 13 => .int
  | 14 => .array .int
  | 15 => .array .int
  | 16 => .array .int
  | 17 => .array .boolean
  | 18 => .array .int
  | 19 => .array .int
  | 20 => .array .int
  | 21 => .array .boolean
  | 22 => .array .int
  | 23 => .array .int
  | 24 => .array .int
  | 25 => .array .int
  | _ => .long
theorem nmX7 : ∀ a, a < 27 → ∀ b, b < 27 → a ≠ b → (TX7 a).2.1 ≠ (TX7 b).2.1 := by decide +kernel
theorem tyX7_ok : ∀ k, k < 27 → parseFieldDescriptor (TX7 k).2.2.1 = some (tyX7 k) := by decide +kernel
abbrev cX7_init : ByteArray := prog_9_method_1_code
def yX7_init : MethodName := ⟨RX7, "<init>", "()V"⟩
abbrev cX7_in : ByteArray := prog_9_method_2_code
def yX7_in : MethodName := ⟨RX7, "in", "(III)Z"⟩
abbrev cX7_greater : ByteArray := prog_9_method_3_code
def yX7_greater : MethodName := ⟨RX7, "greater", "(II)I"⟩
abbrev cX7_lesser : ByteArray := prog_9_method_4_code
def yX7_lesser : MethodName := ⟨RX7, "lesser", "(II)I"⟩
abbrev cX7_down : ByteArray := prog_9_method_5_code
def yX7_down : MethodName := ⟨RX7, "down", "(II)I"⟩
abbrev cX7_keeps : ByteArray := prog_9_method_6_code
def yX7_keeps : MethodName := ⟨RX7, "keeps", "()V"⟩
abbrev cX7_undo : ByteArray := prog_9_method_7_code
def yX7_undo : MethodName := ⟨RX7, "undo", "()I"⟩
abbrev cX7_leastOf : ByteArray := prog_9_method_8_code
def yX7_leastOf : MethodName := ⟨RX7, "leastOf", "(I)I"⟩
abbrev cX7_mostOf : ByteArray := prog_9_method_9_code
def yX7_mostOf : MethodName := ⟨RX7, "mostOf", "(I)I"⟩
abbrev cX7_type : ByteArray := prog_9_method_10_code
def yX7_type : MethodName := ⟨RX7, "type", "(I)I"⟩
abbrev cX7_clear : ByteArray := prog_9_method_11_code
def yX7_clear : MethodName := ⟨RX7, "clear", "()I"⟩
abbrev cX7_next : ByteArray := prog_9_method_12_code
def yX7_next : MethodName := ⟨RX7, "next", "()I"⟩
abbrev cX7_isDigit : ByteArray := prog_9_method_13_code
def yX7_isDigit : MethodName := ⟨RX7, "isDigit", "()Z"⟩
abbrev cX7_skips : ByteArray := prog_9_method_14_code
def yX7_skips : MethodName := ⟨RX7, "skips", "()V"⟩
abbrev cX7_fails : ByteArray := prog_9_method_15_code
def yX7_fails : MethodName := ⟨RX7, "fails", "(I)V"⟩
abbrev cX7_readsNumber : ByteArray := prog_9_method_16_code
def yX7_readsNumber : MethodName := ⟨RX7, "readsNumber", "(I)V"⟩
abbrev cX7_isWord : ByteArray := prog_9_method_17_code
def yX7_isWord : MethodName := ⟨RX7, "isWord", "(IJI)Z"⟩
abbrev cX7_wordOf : ByteArray := prog_9_method_18_code
def yX7_wordOf : MethodName := ⟨RX7, "wordOf", "(I)I"⟩
abbrev cX7_readsItem : ByteArray := prog_9_method_19_code
def yX7_readsItem : MethodName := ⟨RX7, "readsItem", "()V"⟩
abbrev cX7_isItem : ByteArray := prog_9_method_20_code
def yX7_isItem : MethodName := ⟨RX7, "isItem", "(I)Z"⟩
abbrev cX7_of : ByteArray := prog_9_method_21_code
def yX7_of : MethodName := ⟨RX7, "of", "(II)I"⟩
abbrev cX7_copies : ByteArray := prog_9_method_22_code
def yX7_copies : MethodName := ⟨RX7, "copies", "(II)V"⟩
abbrev cX7_lays : ByteArray := prog_9_method_23_code
def yX7_lays : MethodName := ⟨RX7, "lays", "(I)V"⟩
abbrev cX7_insert : ByteArray := prog_9_method_24_code
def yX7_insert : MethodName := ⟨RX7, "insert", "(I)I"⟩
abbrev cX7_remove : ByteArray := prog_9_method_25_code
def yX7_remove : MethodName := ⟨RX7, "remove", "(I)I"⟩
abbrev cX7_move : ByteArray := prog_9_method_26_code
def yX7_move : MethodName := ⟨RX7, "move", "(II)I"⟩
abbrev cX7_change : ByteArray := prog_9_method_27_code
def yX7_change : MethodName := ⟨RX7, "change", "(III)I"⟩
abbrev cX7_hide : ByteArray := prog_9_method_28_code
def yX7_hide : MethodName := ⟨RX7, "hide", "(I)I"⟩
abbrev cX7_set : ByteArray := prog_9_method_29_code
def yX7_set : MethodName := ⟨RX7, "set", "(II)I"⟩
abbrev cX7_greatest : ByteArray := prog_9_method_30_code
def yX7_greatest : MethodName := ⟨RX7, "greatest", "(I)I"⟩
abbrev cX7_wish : ByteArray := prog_9_method_31_code
def yX7_wish : MethodName := ⟨RX7, "wish", "(I)I"⟩
abbrev cX7_orders : ByteArray := prog_9_method_32_code
def yX7_orders : MethodName := ⟨RX7, "orders", "()V"⟩
abbrev cX7_placeOf : ByteArray := prog_9_method_33_code
def yX7_placeOf : MethodName := ⟨RX7, "placeOf", "(I)I"⟩
abbrev cX7_outerWish : ByteArray := prog_9_method_34_code
def yX7_outerWish : MethodName := ⟨RX7, "outerWish", "(I)I"⟩
abbrev cX7_wraps : ByteArray := prog_9_method_35_code
def yX7_wraps : MethodName := ⟨RX7, "wraps", "(I)V"⟩
abbrev cX7_weight : ByteArray := prog_9_method_36_code
def yX7_weight : MethodName := ⟨RX7, "weight", "(IZ)I"⟩
abbrev cX7_share : ByteArray := prog_9_method_37_code
def yX7_share : MethodName := ⟨RX7, "share", "(I)I"⟩
abbrev cX7_isLeft : ByteArray := prog_9_method_38_code
def yX7_isLeft : MethodName := ⟨RX7, "isLeft", "(I)Z"⟩
abbrev cX7_pass : ByteArray := prog_9_method_39_code
def yX7_pass : MethodName := ⟨RX7, "pass", "(I)V"⟩
abbrev cX7_sizes : ByteArray := prog_9_method_40_code
def yX7_sizes : MethodName := ⟨RX7, "sizes", "(II)V"⟩
abbrev cX7_shift : ByteArray := prog_9_method_41_code
def yX7_shift : MethodName := ⟨RX7, "shift", "(II)I"⟩
abbrev cX7_along : ByteArray := prog_9_method_42_code
def yX7_along : MethodName := ⟨RX7, "along", "(II)V"⟩
abbrev cX7_wayOf : ByteArray := prog_9_method_43_code
def yX7_wayOf : MethodName := ⟨RX7, "wayOf", "(I)I"⟩
abbrev cX7_above : ByteArray := prog_9_method_44_code
def yX7_above : MethodName := ⟨RX7, "above", "(I)I"⟩
abbrev cX7_across : ByteArray := prog_9_method_45_code
def yX7_across : MethodName := ⟨RX7, "across", "(I)V"⟩
abbrev cX7_draws : ByteArray := prog_9_method_46_code
def yX7_draws : MethodName := ⟨RX7, "draws", "(I)V"⟩
abbrev cX7_item : ByteArray := prog_9_method_47_code
def yX7_item : MethodName := ⟨RX7, "item", "(II)I"⟩
abbrev cX7_liesAt : ByteArray := prog_9_method_48_code
def yX7_liesAt : MethodName := ⟨RX7, "liesAt", "(II)I"⟩
abbrev cX7_lies : ByteArray := prog_9_method_49_code
def yX7_lies : MethodName := ⟨RX7, "lies", "(II)I"⟩
abbrev cX7_ordered : ByteArray := prog_9_method_50_code
def yX7_ordered : MethodName := ⟨RX7, "ordered", "(I)I"⟩
abbrev cX7_outer : ByteArray := prog_9_method_51_code
def yX7_outer : MethodName := ⟨RX7, "outer", "(I)I"⟩
abbrev cX7_linePart : ByteArray := prog_9_method_52_code
def yX7_linePart : MethodName := ⟨RX7, "linePart", "(II)I"⟩
abbrev cX7_line : ByteArray := prog_9_method_53_code
def yX7_line : MethodName := ⟨RX7, "line", "(II)I"⟩
abbrev cX7_at : ByteArray := prog_9_method_54_code
def yX7_at : MethodName := ⟨RX7, "at", "(II)I"⟩
abbrev cX7_fits : ByteArray := prog_9_method_55_code
def yX7_fits : MethodName := ⟨RX7, "fits", "(II)Z"⟩
abbrev cX7_leastWidth : ByteArray := prog_9_method_56_code
def yX7_leastWidth : MethodName := ⟨RX7, "leastWidth", "(II)I"⟩
abbrev cX7_hidden : ByteArray := prog_9_method_57_code
def yX7_hidden : MethodName := ⟨RX7, "hidden", "()I"⟩
abbrev cX7_farthest : ByteArray := prog_9_method_58_code
def yX7_farthest : MethodName := ⟨RX7, "farthest", "()I"⟩
abbrev cX7_number : ByteArray := prog_9_method_59_code
def yX7_number : MethodName := ⟨RX7, "number", "(I)I"⟩
abbrev cX7_count : ByteArray := prog_9_method_60_code
def yX7_count : MethodName := ⟨RX7, "count", "(I)I"⟩
abbrev cX7_mixes : ByteArray := prog_9_method_61_code
def yX7_mixes : MethodName := ⟨RX7, "mixes", "(J)V"⟩
abbrev cX7_mixesItem : ByteArray := prog_9_method_62_code
def yX7_mixesItem : MethodName := ⟨RX7, "mixesItem", "(I)V"⟩
abbrev cX7_digest : ByteArray := prog_9_method_63_code
def yX7_digest : MethodName := ⟨RX7, "digest", "()J"⟩
def RJ9 : String := "java/lang/Math"
def TJ9 : u_T := fun k => match k with
  | _ => ("", "", "", false)
def tyJ9 : Nat → FieldType := fun k => match k with
  | _ => .int
theorem nmJ9 : ∀ a, a < 0 → ∀ b, b < 0 → a ≠ b → (TJ9 a).2.1 ≠ (TJ9 b).2.1 := by decide +kernel
theorem tyJ9_ok : ∀ k, k < 0 → parseFieldDescriptor (TJ9 k).2.2.1 = some (tyJ9 k) := by decide +kernel
abbrev cJ9_floorDiv_7cf53 : ByteArray := prog_10_method_47_code
def yJ9_floorDiv_7cf53 : MethodName := ⟨RJ9, "floorDiv", "(II)I"⟩
abbrev cJ9_floorMod_7cf53 : ByteArray := prog_10_method_50_code
def yJ9_floorMod_7cf53 : MethodName := ⟨RJ9, "floorMod", "(II)I"⟩
abbrev cJ9_max_7cf53 : ByteArray := prog_10_method_65_code
def yJ9_max_7cf53 : MethodName := ⟨RJ9, "max", "(II)I"⟩
abbrev cJ9_min_7cf53 : ByteArray := prog_10_method_69_code
def yJ9_min_7cf53 : MethodName := ⟨RJ9, "min", "(II)I"⟩
def RJ0 : String := "java/lang/String"
def TJ0 : u_T := fun k => match k with
  | _ => ("", "", "", false)
def tyJ0 : Nat → FieldType := fun k => match k with
  | _ => .int
theorem nmJ0 : ∀ a, a < 0 → ∀ b, b < 0 → a ≠ b → (TJ0 a).2.1 ≠ (TJ0 b).2.1 := by decide +kernel
theorem tyJ0_ok : ∀ k, k < 0 → parseFieldDescriptor (TJ0 k).2.2.1 = some (tyJ0 k) := by decide +kernel
abbrev cJ0_length_8abf5 : ByteArray := prog_11_method_54_code
def yJ0_length_8abf5 : MethodName := ⟨RJ0, "length", "()I"⟩
abbrev cJ0_charAt_5068e : ByteArray := prog_11_method_56_code
def yJ0_charAt_5068e : MethodName := ⟨RJ0, "charAt", "(I)C"⟩
abbrev cJ0_coder_7d493 : ByteArray := prog_11_method_152_code
def yJ0_coder_7d493 : MethodName := ⟨RJ0, "coder", "()B"⟩
abbrev cJ0_isLatin1_aae02 : ByteArray := prog_11_method_154_code
def yJ0_isLatin1_aae02 : MethodName := ⟨RJ0, "isLatin1", "()Z"⟩
abbrev cJ0_checkIndex_df160 : ByteArray := prog_11_method_155_code
def yJ0_checkIndex_df160 : MethodName := ⟨RJ0, "checkIndex", "(II)V"⟩
def RJ1 : String := "java/lang/StringLatin1"
def TJ1 : u_T := fun k => match k with
  | _ => ("", "", "", false)
def tyJ1 : Nat → FieldType := fun k => match k with
  | _ => .int
theorem nmJ1 : ∀ a, a < 0 → ∀ b, b < 0 → a ≠ b → (TJ1 a).2.1 ≠ (TJ1 b).2.1 := by decide +kernel
theorem tyJ1_ok : ∀ k, k < 0 → parseFieldDescriptor (TJ1 k).2.2.1 = some (tyJ1 k) := by decide +kernel
abbrev cJ1_charAt_3b067 : ByteArray := prog_12_method_2_code
def yJ1_charAt_3b067 : MethodName := ⟨RJ1, "charAt", "([BI)C"⟩
def RJ2 : String := "java/lang/StringUTF16"
def TJ2 : u_T := fun k => match k with
  | _ => ("", "", "", false)
def tyJ2 : Nat → FieldType := fun k => match k with
  | _ => .int
theorem nmJ2 : ∀ a, a < 0 → ∀ b, b < 0 → a ≠ b → (TJ2 a).2.1 ≠ (TJ2 b).2.1 := by decide +kernel
theorem tyJ2_ok : ∀ k, k < 0 → parseFieldDescriptor (TJ2 k).2.2.1 = some (tyJ2 k) := by decide +kernel
abbrev cJ2_getChar_3b067 : ByteArray := prog_13_method_5_code
def yJ2_getChar_3b067 : MethodName := ⟨RJ2, "getChar", "([BI)C"⟩
abbrev cJ2_length_9d52b : ByteArray := prog_13_method_6_code
def yJ2_length_9d52b : MethodName := ⟨RJ2, "length", "([B)I"⟩
abbrev cJ2_charAt_3b067 : ByteArray := prog_13_method_83_code
def yJ2_charAt_3b067 : MethodName := ⟨RJ2, "charAt", "([BI)C"⟩
abbrev cJ2_checkIndex_2214a : ByteArray := prog_13_method_91_code
def yJ2_checkIndex_2214a : MethodName := ⟨RJ2, "checkIndex", "(I[B)V"⟩
def RJ10 : String := "java/lang/System"
def TJ10 : u_T := fun k => match k with
  | _ => ("", "", "", false)
def tyJ10 : Nat → FieldType := fun k => match k with
  | _ => .int
theorem nmJ10 : ∀ a, a < 0 → ∀ b, b < 0 → a ≠ b → (TJ10 a).2.1 ≠ (TJ10 b).2.1 := by decide +kernel
theorem tyJ10_ok : ∀ k, k < 0 → parseFieldDescriptor (TJ10 k).2.2.1 = some (tyJ10 k) := by decide +kernel
def RJ3 : String := "jdk/internal/util/Preconditions"
def TJ3 : u_T := fun k => match k with
  | _ => ("", "", "", false)
def tyJ3 : Nat → FieldType := fun k => match k with
  | _ => .int
theorem nmJ3 : ∀ a, a < 0 → ∀ b, b < 0 → a ≠ b → (TJ3 a).2.1 ≠ (TJ3 b).2.1 := by decide +kernel
theorem tyJ3_ok : ∀ k, k < 0 → parseFieldDescriptor (TJ3 k).2.2.1 = some (tyJ3 k) := by decide +kernel
abbrev cJ3_checkIndex_8e157 : ByteArray := prog_15_method_11_code
def yJ3_checkIndex_8e157 : MethodName := ⟨RJ3, "checkIndex", "(IILjava/util/function/BiFunction;)I"⟩
def RL : String := "FlexRowsLaw"
abbrev cL_law : ByteArray := code
def yL_law : MethodName := ⟨RL, "law", "([I)Z"⟩
abbrev vwCl : List vw_C := [(RX0, TX0, 5), (RX1, TX1, 12), (RX2, TX2, 8), (RX3, TX3, 8), (RX4, TX4, 3), (RX5, TX5, 5), (RX6, TX6, 8), (RX7, TX7, 27)]
end
section
theorem dX0_init_0 : decode cX0_init 0 = .ok (.aload_n 0, 1) := by decide +kernel
theorem dX0_init_1 : decode cX0_init 1 = .ok (.invokespecial 3, 3) := by decide +kernel
theorem dX0_init_4 : decode cX0_init 4 = .ok (.aload_n 0, 1) := by decide +kernel
theorem dX0_init_5 : decode cX0_init 5 = .ok (.bipush 8, 2) := by decide +kernel
theorem dX0_init_7 : decode cX0_init 7 = .ok (.newarray .int, 2) := by decide +kernel
theorem dX0_init_9 : decode cX0_init 9 = .ok (.putfield 9, 3) := by decide +kernel
theorem dX0_init_12 : decode cX0_init 12 = .ok (.aload_n 0, 1) := by decide +kernel
theorem dX0_init_13 : decode cX0_init 13 = .ok (.bipush 56, 2) := by decide +kernel
theorem dX0_init_15 : decode cX0_init 15 = .ok (.newarray .int, 2) := by decide +kernel
theorem dX0_init_17 : decode cX0_init 17 = .ok (.putfield 15, 3) := by decide +kernel
theorem dX0_init_20 : decode cX0_init 20 = .ok (.aload_n 0, 1) := by decide +kernel
theorem dX0_init_21 : decode cX0_init 21 = .ok (.sipush 1408, 3) := by decide +kernel
theorem dX0_init_24 : decode cX0_init 24 = .ok (.newarray .int, 2) := by decide +kernel
theorem dX0_init_26 : decode cX0_init 26 = .ok (.putfield 18, 3) := by decide +kernel
theorem dX0_init_29 : decode cX0_init 29 = .ok (.return_, 1) := by decide +kernel
theorem dX0_record_0 : decode cX0_record 0 = .ok (.aload_n 0, 1) := by decide +kernel
theorem dX0_record_1 : decode cX0_record 1 = .ok (.getfield 21, 3) := by decide +kernel
theorem dX0_record_4 : decode cX0_record 4 = .ok (.bipush 8, 2) := by decide +kernel
theorem dX0_record_6 : decode cX0_record 6 = .ok (.invokestatic 25, 3) := by decide +kernel
theorem dX0_record_9 : decode cX0_record 9 = .ok (.istore_n 2, 1) := by decide +kernel
theorem dX0_record_10 : decode cX0_record 10 = .ok (.aload_n 0, 1) := by decide +kernel
theorem dX0_record_11 : decode cX0_record 11 = .ok (.getfield 9, 3) := by decide +kernel
theorem dX0_record_14 : decode cX0_record 14 = .ok (.iload_n 2, 1) := by decide +kernel
theorem dX0_record_15 : decode cX0_record 15 = .ok (.aload_n 1, 1) := by decide +kernel
theorem dX0_record_16 : decode cX0_record 16 = .ok (.getfield 31, 3) := by decide +kernel
theorem dX0_record_19 : decode cX0_record 19 = .ok (.iastore, 1) := by decide +kernel
theorem dX0_record_20 : decode cX0_record 20 = .ok (.aload_n 1, 1) := by decide +kernel
theorem dX0_record_21 : decode cX0_record 21 = .ok (.getfield 35, 3) := by decide +kernel
theorem dX0_record_24 : decode cX0_record 24 = .ok (.iconst 0, 1) := by decide +kernel
theorem dX0_record_25 : decode cX0_record 25 = .ok (.aload_n 0, 1) := by decide +kernel
theorem dX0_record_26 : decode cX0_record 26 = .ok (.getfield 15, 3) := by decide +kernel
theorem dX0_record_29 : decode cX0_record 29 = .ok (.iload_n 2, 1) := by decide +kernel
theorem dX0_record_30 : decode cX0_record 30 = .ok (.bipush 7, 2) := by decide +kernel
theorem dX0_record_32 : decode cX0_record 32 = .ok (.imul, 1) := by decide +kernel
theorem dX0_record_33 : decode cX0_record 33 = .ok (.bipush 7, 2) := by decide +kernel
theorem dX0_record_35 : decode cX0_record 35 = .ok (.invokestatic 38, 3) := by decide +kernel
theorem dX0_record_38 : decode cX0_record 38 = .ok (.aload_n 1, 1) := by decide +kernel
theorem dX0_record_39 : decode cX0_record 39 = .ok (.getfield 44, 3) := by decide +kernel
theorem dX0_record_42 : decode cX0_record 42 = .ok (.iconst 0, 1) := by decide +kernel
theorem dX0_record_43 : decode cX0_record 43 = .ok (.aload_n 0, 1) := by decide +kernel
theorem dX0_record_44 : decode cX0_record 44 = .ok (.getfield 18, 3) := by decide +kernel
theorem dX0_record_47 : decode cX0_record 47 = .ok (.iload_n 2, 1) := by decide +kernel
theorem dX0_record_48 : decode cX0_record 48 = .ok (.bipush 16, 2) := by decide +kernel
theorem dX0_record_50 : decode cX0_record 50 = .ok (.imul, 1) := by decide +kernel
theorem dX0_record_51 : decode cX0_record 51 = .ok (.bipush 11, 2) := by decide +kernel
theorem dX0_record_53 : decode cX0_record 53 = .ok (.imul, 1) := by decide +kernel
theorem dX0_record_54 : decode cX0_record 54 = .ok (.sipush 176, 3) := by decide +kernel
theorem dX0_record_57 : decode cX0_record 57 = .ok (.invokestatic 38, 3) := by decide +kernel
theorem dX0_record_60 : decode cX0_record 60 = .ok (.aload_n 0, 1) := by decide +kernel
theorem dX0_record_61 : decode cX0_record 61 = .ok (.iload_n 2, 1) := by decide +kernel
theorem dX0_record_62 : decode cX0_record 62 = .ok (.iconst 1, 1) := by decide +kernel
theorem dX0_record_63 : decode cX0_record 63 = .ok (.iadd, 1) := by decide +kernel
theorem dX0_record_64 : decode cX0_record 64 = .ok (.bipush 8, 2) := by decide +kernel
theorem dX0_record_66 : decode cX0_record 66 = .ok (.invokestatic 25, 3) := by decide +kernel
theorem dX0_record_69 : decode cX0_record 69 = .ok (.putfield 21, 3) := by decide +kernel
theorem dX0_record_72 : decode cX0_record 72 = .ok (.aload_n 0, 1) := by decide +kernel
theorem dX0_record_73 : decode cX0_record 73 = .ok (.aload_n 0, 1) := by decide +kernel
theorem dX0_record_74 : decode cX0_record 74 = .ok (.getfield 45, 3) := by decide +kernel
theorem dX0_record_77 : decode cX0_record 77 = .ok (.iconst 1, 1) := by decide +kernel
theorem dX0_record_78 : decode cX0_record 78 = .ok (.iadd, 1) := by decide +kernel
theorem dX0_record_79 : decode cX0_record 79 = .ok (.bipush 8, 2) := by decide +kernel
theorem dX0_record_81 : decode cX0_record 81 = .ok (.invokestatic 48, 3) := by decide +kernel
theorem dX0_record_84 : decode cX0_record 84 = .ok (.putfield 45, 3) := by decide +kernel
theorem dX0_record_87 : decode cX0_record 87 = .ok (.return_, 1) := by decide +kernel
theorem dX0_restore_0 : decode cX0_restore 0 = .ok (.aload_n 0, 1) := by decide +kernel
theorem dX0_restore_1 : decode cX0_restore 1 = .ok (.getfield 45, 3) := by decide +kernel
theorem dX0_restore_4 : decode cX0_restore 4 = .ok (.ifCond .ne 4, 3) := by decide +kernel
theorem dX0_restore_7 : decode cX0_restore 7 = .ok (.return_, 1) := by decide +kernel
theorem dX0_restore_8 : decode cX0_restore 8 = .ok (.aload_n 0, 1) := by decide +kernel
theorem dX0_restore_9 : decode cX0_restore 9 = .ok (.getfield 21, 3) := by decide +kernel
theorem dX0_restore_12 : decode cX0_restore 12 = .ok (.iconst 1, 1) := by decide +kernel
theorem dX0_restore_13 : decode cX0_restore 13 = .ok (.isub, 1) := by decide +kernel
theorem dX0_restore_14 : decode cX0_restore 14 = .ok (.bipush 8, 2) := by decide +kernel
theorem dX0_restore_16 : decode cX0_restore 16 = .ok (.invokestatic 25, 3) := by decide +kernel
theorem dX0_restore_19 : decode cX0_restore 19 = .ok (.istore_n 2, 1) := by decide +kernel
theorem dX0_restore_20 : decode cX0_restore 20 = .ok (.aload_n 1, 1) := by decide +kernel
theorem dX0_restore_21 : decode cX0_restore 21 = .ok (.aload_n 0, 1) := by decide +kernel
theorem dX0_restore_22 : decode cX0_restore 22 = .ok (.getfield 9, 3) := by decide +kernel
theorem dX0_restore_25 : decode cX0_restore 25 = .ok (.iload_n 2, 1) := by decide +kernel
theorem dX0_restore_26 : decode cX0_restore 26 = .ok (.iaload, 1) := by decide +kernel
theorem dX0_restore_27 : decode cX0_restore 27 = .ok (.putfield 31, 3) := by decide +kernel
theorem dX0_restore_30 : decode cX0_restore 30 = .ok (.aload_n 0, 1) := by decide +kernel
theorem dX0_restore_31 : decode cX0_restore 31 = .ok (.getfield 15, 3) := by decide +kernel
theorem dX0_restore_34 : decode cX0_restore 34 = .ok (.iload_n 2, 1) := by decide +kernel
theorem dX0_restore_35 : decode cX0_restore 35 = .ok (.bipush 7, 2) := by decide +kernel
theorem dX0_restore_37 : decode cX0_restore 37 = .ok (.imul, 1) := by decide +kernel
theorem dX0_restore_38 : decode cX0_restore 38 = .ok (.aload_n 1, 1) := by decide +kernel
theorem dX0_restore_39 : decode cX0_restore 39 = .ok (.getfield 35, 3) := by decide +kernel
theorem dX0_restore_42 : decode cX0_restore 42 = .ok (.iconst 0, 1) := by decide +kernel
theorem dX0_restore_43 : decode cX0_restore 43 = .ok (.bipush 7, 2) := by decide +kernel
theorem dX0_restore_45 : decode cX0_restore 45 = .ok (.invokestatic 38, 3) := by decide +kernel
theorem dX0_restore_48 : decode cX0_restore 48 = .ok (.aload_n 0, 1) := by decide +kernel
theorem dX0_restore_49 : decode cX0_restore 49 = .ok (.getfield 18, 3) := by decide +kernel
theorem dX0_restore_52 : decode cX0_restore 52 = .ok (.iload_n 2, 1) := by decide +kernel
theorem dX0_restore_53 : decode cX0_restore 53 = .ok (.bipush 16, 2) := by decide +kernel
theorem dX0_restore_55 : decode cX0_restore 55 = .ok (.imul, 1) := by decide +kernel
theorem dX0_restore_56 : decode cX0_restore 56 = .ok (.bipush 11, 2) := by decide +kernel
theorem dX0_restore_58 : decode cX0_restore 58 = .ok (.imul, 1) := by decide +kernel
theorem dX0_restore_59 : decode cX0_restore 59 = .ok (.aload_n 1, 1) := by decide +kernel
theorem dX0_restore_60 : decode cX0_restore 60 = .ok (.getfield 44, 3) := by decide +kernel
theorem dX0_restore_63 : decode cX0_restore 63 = .ok (.iconst 0, 1) := by decide +kernel
theorem dX0_restore_64 : decode cX0_restore 64 = .ok (.sipush 176, 3) := by decide +kernel
theorem dX0_restore_67 : decode cX0_restore 67 = .ok (.invokestatic 38, 3) := by decide +kernel
theorem dX0_restore_70 : decode cX0_restore 70 = .ok (.aload_n 0, 1) := by decide +kernel
theorem dX0_restore_71 : decode cX0_restore 71 = .ok (.iload_n 2, 1) := by decide +kernel
theorem dX0_restore_72 : decode cX0_restore 72 = .ok (.putfield 21, 3) := by decide +kernel
theorem dX0_restore_75 : decode cX0_restore 75 = .ok (.aload_n 0, 1) := by decide +kernel
theorem dX0_restore_76 : decode cX0_restore 76 = .ok (.dup, 1) := by decide +kernel
theorem dX0_restore_77 : decode cX0_restore 77 = .ok (.getfield 45, 3) := by decide +kernel
theorem dX0_restore_80 : decode cX0_restore 80 = .ok (.iconst 1, 1) := by decide +kernel
theorem dX0_restore_81 : decode cX0_restore 81 = .ok (.isub, 1) := by decide +kernel
theorem dX0_restore_82 : decode cX0_restore 82 = .ok (.putfield 45, 3) := by decide +kernel
theorem dX0_restore_85 : decode cX0_restore 85 = .ok (.return_, 1) := by decide +kernel
theorem dX1_init_0 : decode cX1_init 0 = .ok (.aload_n 0, 1) := by decide +kernel
theorem dX1_init_1 : decode cX1_init 1 = .ok (.invokespecial 3, 3) := by decide +kernel
theorem dX1_init_4 : decode cX1_init 4 = .ok (.aload_n 0, 1) := by decide +kernel
theorem dX1_init_5 : decode cX1_init 5 = .ok (.bipush 16, 2) := by decide +kernel
theorem dX1_init_7 : decode cX1_init 7 = .ok (.newarray .int, 2) := by decide +kernel
theorem dX1_init_9 : decode cX1_init 9 = .ok (.putfield 9, 3) := by decide +kernel
theorem dX1_init_12 : decode cX1_init 12 = .ok (.aload_n 0, 1) := by decide +kernel
theorem dX1_init_13 : decode cX1_init 13 = .ok (.bipush 16, 2) := by decide +kernel
theorem dX1_init_15 : decode cX1_init 15 = .ok (.newarray .int, 2) := by decide +kernel
theorem dX1_init_17 : decode cX1_init 17 = .ok (.putfield 15, 3) := by decide +kernel
theorem dX1_init_20 : decode cX1_init 20 = .ok (.aload_n 0, 1) := by decide +kernel
theorem dX1_init_21 : decode cX1_init 21 = .ok (.bipush 16, 2) := by decide +kernel
theorem dX1_init_23 : decode cX1_init 23 = .ok (.newarray .int, 2) := by decide +kernel
theorem dX1_init_25 : decode cX1_init 25 = .ok (.putfield 18, 3) := by decide +kernel
theorem dX1_init_28 : decode cX1_init 28 = .ok (.aload_n 0, 1) := by decide +kernel
theorem dX1_init_29 : decode cX1_init 29 = .ok (.bipush 16, 2) := by decide +kernel
theorem dX1_init_31 : decode cX1_init 31 = .ok (.newarray .int, 2) := by decide +kernel
theorem dX1_init_33 : decode cX1_init 33 = .ok (.putfield 21, 3) := by decide +kernel
theorem dX1_init_36 : decode cX1_init 36 = .ok (.aload_n 0, 1) := by decide +kernel
theorem dX1_init_37 : decode cX1_init 37 = .ok (.bipush 16, 2) := by decide +kernel
theorem dX1_init_39 : decode cX1_init 39 = .ok (.newarray .boolean, 2) := by decide +kernel
theorem dX1_init_41 : decode cX1_init 41 = .ok (.putfield 24, 3) := by decide +kernel
theorem dX1_init_44 : decode cX1_init 44 = .ok (.aload_n 0, 1) := by decide +kernel
theorem dX1_init_45 : decode cX1_init 45 = .ok (.bipush 16, 2) := by decide +kernel
theorem dX1_init_47 : decode cX1_init 47 = .ok (.newarray .int, 2) := by decide +kernel
theorem dX1_init_49 : decode cX1_init 49 = .ok (.putfield 28, 3) := by decide +kernel
theorem dX1_init_52 : decode cX1_init 52 = .ok (.aload_n 0, 1) := by decide +kernel
theorem dX1_init_53 : decode cX1_init 53 = .ok (.bipush 16, 2) := by decide +kernel
theorem dX1_init_55 : decode cX1_init 55 = .ok (.newarray .int, 2) := by decide +kernel
theorem dX1_init_57 : decode cX1_init 57 = .ok (.putfield 31, 3) := by decide +kernel
theorem dX1_init_60 : decode cX1_init 60 = .ok (.aload_n 0, 1) := by decide +kernel
theorem dX1_init_61 : decode cX1_init 61 = .ok (.bipush 16, 2) := by decide +kernel
theorem dX1_init_63 : decode cX1_init 63 = .ok (.newarray .int, 2) := by decide +kernel
theorem dX1_init_65 : decode cX1_init 65 = .ok (.putfield 34, 3) := by decide +kernel
theorem dX1_init_68 : decode cX1_init 68 = .ok (.aload_n 0, 1) := by decide +kernel
theorem dX1_init_69 : decode cX1_init 69 = .ok (.aload_n 1, 1) := by decide +kernel
theorem dX1_init_70 : decode cX1_init 70 = .ok (.putfield 37, 3) := by decide +kernel
theorem dX1_init_73 : decode cX1_init 73 = .ok (.aload_n 0, 1) := by decide +kernel
theorem dX1_init_74 : decode cX1_init 74 = .ok (.aload_n 2, 1) := by decide +kernel
theorem dX1_init_75 : decode cX1_init 75 = .ok (.putfield 41, 3) := by decide +kernel
theorem dX1_init_78 : decode cX1_init 78 = .ok (.return_, 1) := by decide +kernel
theorem dX1_breakUp_0 : decode cX1_breakUp 0 = .ok (.aload_n 0, 1) := by decide +kernel
theorem dX1_breakUp_1 : decode cX1_breakUp 1 = .ok (.iload_n 1, 1) := by decide +kernel
theorem dX1_breakUp_2 : decode cX1_breakUp 2 = .ok (.putfield 45, 3) := by decide +kernel
theorem dX1_breakUp_5 : decode cX1_breakUp 5 = .ok (.aload_n 0, 1) := by decide +kernel
theorem dX1_breakUp_6 : decode cX1_breakUp 6 = .ok (.iconst 0, 1) := by decide +kernel
theorem dX1_breakUp_7 : decode cX1_breakUp 7 = .ok (.putfield 49, 3) := by decide +kernel
theorem dX1_breakUp_10 : decode cX1_breakUp 10 = .ok (.aload_n 0, 1) := by decide +kernel
theorem dX1_breakUp_11 : decode cX1_breakUp 11 = .ok (.getfield 37, 3) := by decide +kernel
theorem dX1_breakUp_14 : decode cX1_breakUp 14 = .ok (.iconst 1, 1) := by decide +kernel
theorem dX1_breakUp_15 : decode cX1_breakUp 15 = .ok (.invokevirtual 52, 3) := by decide +kernel
theorem dX1_breakUp_18 : decode cX1_breakUp 18 = .ok (.istore_n 2, 1) := by decide +kernel
theorem dX1_breakUp_19 : decode cX1_breakUp 19 = .ok (.aload_n 0, 1) := by decide +kernel
theorem dX1_breakUp_20 : decode cX1_breakUp 20 = .ok (.getfield 37, 3) := by decide +kernel
theorem dX1_breakUp_23 : decode cX1_breakUp 23 = .ok (.iconst 3, 1) := by decide +kernel
theorem dX1_breakUp_24 : decode cX1_breakUp 24 = .ok (.invokevirtual 52, 3) := by decide +kernel
theorem dX1_breakUp_27 : decode cX1_breakUp 27 = .ok (.iconst 1, 1) := by decide +kernel
theorem dX1_breakUp_28 : decode cX1_breakUp 28 = .ok (.if_icmp .ne 7, 3) := by decide +kernel
theorem dX1_breakUp_31 : decode cX1_breakUp 31 = .ok (.iconst 1, 1) := by decide +kernel
theorem dX1_breakUp_32 : decode cX1_breakUp 32 = .ok (.goto 4, 3) := by decide +kernel
theorem dX1_breakUp_35 : decode cX1_breakUp 35 = .ok (.iconst 0, 1) := by decide +kernel
theorem dX1_breakUp_36 : decode cX1_breakUp 36 = .ok (.istore_n 3, 1) := by decide +kernel
theorem dX1_breakUp_37 : decode cX1_breakUp 37 = .ok (.iconst 0, 1) := by decide +kernel
theorem dX1_breakUp_38 : decode cX1_breakUp 38 = .ok (.istore 4, 2) := by decide +kernel
theorem dX1_breakUp_40 : decode cX1_breakUp 40 = .ok (.iconst 0, 1) := by decide +kernel
theorem dX1_breakUp_41 : decode cX1_breakUp 41 = .ok (.istore 5, 2) := by decide +kernel
theorem dX1_breakUp_43 : decode cX1_breakUp 43 = .ok (.iload 5, 2) := by decide +kernel
theorem dX1_breakUp_45 : decode cX1_breakUp 45 = .ok (.aload_n 0, 1) := by decide +kernel
theorem dX1_breakUp_46 : decode cX1_breakUp 46 = .ok (.getfield 41, 3) := by decide +kernel
theorem dX1_breakUp_49 : decode cX1_breakUp 49 = .ok (.getfield 57, 3) := by decide +kernel
theorem dX1_breakUp_52 : decode cX1_breakUp 52 = .ok (.if_icmp .ge 91, 3) := by decide +kernel
theorem dX1_breakUp_55 : decode cX1_breakUp 55 = .ok (.iload 4, 2) := by decide +kernel
theorem dX1_breakUp_57 : decode cX1_breakUp 57 = .ok (.iload_n 2, 1) := by decide +kernel
theorem dX1_breakUp_58 : decode cX1_breakUp 58 = .ok (.iadd, 1) := by decide +kernel
theorem dX1_breakUp_59 : decode cX1_breakUp 59 = .ok (.aload_n 0, 1) := by decide +kernel
theorem dX1_breakUp_60 : decode cX1_breakUp 60 = .ok (.getfield 41, 3) := by decide +kernel
theorem dX1_breakUp_63 : decode cX1_breakUp 63 = .ok (.iload 5, 2) := by decide +kernel
theorem dX1_breakUp_65 : decode cX1_breakUp 65 = .ok (.invokevirtual 62, 3) := by decide +kernel
theorem dX1_breakUp_68 : decode cX1_breakUp 68 = .ok (.iadd, 1) := by decide +kernel
theorem dX1_breakUp_69 : decode cX1_breakUp 69 = .ok (.istore 6, 2) := by decide +kernel
theorem dX1_breakUp_71 : decode cX1_breakUp 71 = .ok (.aload_n 0, 1) := by decide +kernel
theorem dX1_breakUp_72 : decode cX1_breakUp 72 = .ok (.getfield 49, 3) := by decide +kernel
theorem dX1_breakUp_75 : decode cX1_breakUp 75 = .ok (.ifCond .eq 13, 3) := by decide +kernel
theorem dX1_breakUp_78 : decode cX1_breakUp 78 = .ok (.iload_n 3, 1) := by decide +kernel
theorem dX1_breakUp_79 : decode cX1_breakUp 79 = .ok (.ifCond .eq 41, 3) := by decide +kernel
theorem dX1_breakUp_82 : decode cX1_breakUp 82 = .ok (.iload 6, 2) := by decide +kernel
theorem dX1_breakUp_84 : decode cX1_breakUp 84 = .ok (.iload_n 1, 1) := by decide +kernel
theorem dX1_breakUp_85 : decode cX1_breakUp 85 = .ok (.if_icmp .le 35, 3) := by decide +kernel
theorem dX1_breakUp_88 : decode cX1_breakUp 88 = .ok (.aload_n 0, 1) := by decide +kernel
theorem dX1_breakUp_89 : decode cX1_breakUp 89 = .ok (.getfield 9, 3) := by decide +kernel
theorem dX1_breakUp_92 : decode cX1_breakUp 92 = .ok (.aload_n 0, 1) := by decide +kernel
theorem dX1_breakUp_93 : decode cX1_breakUp 93 = .ok (.getfield 49, 3) := by decide +kernel
theorem dX1_breakUp_96 : decode cX1_breakUp 96 = .ok (.iload 5, 2) := by decide +kernel
theorem dX1_breakUp_98 : decode cX1_breakUp 98 = .ok (.iastore, 1) := by decide +kernel
theorem dX1_breakUp_99 : decode cX1_breakUp 99 = .ok (.aload_n 0, 1) := by decide +kernel
theorem dX1_breakUp_100 : decode cX1_breakUp 100 = .ok (.dup, 1) := by decide +kernel
theorem dX1_breakUp_101 : decode cX1_breakUp 101 = .ok (.getfield 49, 3) := by decide +kernel
theorem dX1_breakUp_104 : decode cX1_breakUp 104 = .ok (.iconst 1, 1) := by decide +kernel
theorem dX1_breakUp_105 : decode cX1_breakUp 105 = .ok (.iadd, 1) := by decide +kernel
theorem dX1_breakUp_106 : decode cX1_breakUp 106 = .ok (.putfield 49, 3) := by decide +kernel
theorem dX1_breakUp_109 : decode cX1_breakUp 109 = .ok (.aload_n 0, 1) := by decide +kernel
theorem dX1_breakUp_110 : decode cX1_breakUp 110 = .ok (.getfield 41, 3) := by decide +kernel
theorem dX1_breakUp_113 : decode cX1_breakUp 113 = .ok (.iload 5, 2) := by decide +kernel
theorem dX1_breakUp_115 : decode cX1_breakUp 115 = .ok (.invokevirtual 62, 3) := by decide +kernel
theorem dX1_breakUp_118 : decode cX1_breakUp 118 = .ok (.istore 6, 2) := by decide +kernel
theorem dX1_breakUp_120 : decode cX1_breakUp 120 = .ok (.iload 6, 2) := by decide +kernel
theorem dX1_breakUp_122 : decode cX1_breakUp 122 = .ok (.istore 4, 2) := by decide +kernel
theorem dX1_breakUp_124 : decode cX1_breakUp 124 = .ok (.aload_n 0, 1) := by decide +kernel
theorem dX1_breakUp_125 : decode cX1_breakUp 125 = .ok (.getfield 15, 3) := by decide +kernel
theorem dX1_breakUp_128 : decode cX1_breakUp 128 = .ok (.aload_n 0, 1) := by decide +kernel
theorem dX1_breakUp_129 : decode cX1_breakUp 129 = .ok (.getfield 49, 3) := by decide +kernel
theorem dX1_breakUp_132 : decode cX1_breakUp 132 = .ok (.iconst 1, 1) := by decide +kernel
theorem dX1_breakUp_133 : decode cX1_breakUp 133 = .ok (.isub, 1) := by decide +kernel
theorem dX1_breakUp_134 : decode cX1_breakUp 134 = .ok (.iload 4, 2) := by decide +kernel
theorem dX1_breakUp_136 : decode cX1_breakUp 136 = .ok (.iastore, 1) := by decide +kernel
theorem dX1_breakUp_137 : decode cX1_breakUp 137 = .ok (.iinc 5 1, 3) := by decide +kernel
theorem dX1_breakUp_140 : decode cX1_breakUp 140 = .ok (.goto (-97), 3) := by decide +kernel
theorem dX1_breakUp_143 : decode cX1_breakUp 143 = .ok (.return_, 1) := by decide +kernel
theorem dX1_end_0 : decode cX1_end 0 = .ok (.iload_n 1, 1) := by decide +kernel
theorem dX1_end_1 : decode cX1_end 1 = .ok (.ifCond .lt 24, 3) := by decide +kernel
theorem dX1_end_4 : decode cX1_end 4 = .ok (.iload_n 1, 1) := by decide +kernel
theorem dX1_end_5 : decode cX1_end 5 = .ok (.iconst 1, 1) := by decide +kernel
theorem dX1_end_6 : decode cX1_end 6 = .ok (.iadd, 1) := by decide +kernel
theorem dX1_end_7 : decode cX1_end 7 = .ok (.aload_n 0, 1) := by decide +kernel
theorem dX1_end_8 : decode cX1_end 8 = .ok (.getfield 49, 3) := by decide +kernel
theorem dX1_end_11 : decode cX1_end 11 = .ok (.if_icmp .ge 14, 3) := by decide +kernel
theorem dX1_end_14 : decode cX1_end 14 = .ok (.aload_n 0, 1) := by decide +kernel
theorem dX1_end_15 : decode cX1_end 15 = .ok (.getfield 9, 3) := by decide +kernel
theorem dX1_end_18 : decode cX1_end 18 = .ok (.iload_n 1, 1) := by decide +kernel
theorem dX1_end_19 : decode cX1_end 19 = .ok (.iconst 1, 1) := by decide +kernel
theorem dX1_end_20 : decode cX1_end 20 = .ok (.iadd, 1) := by decide +kernel
theorem dX1_end_21 : decode cX1_end 21 = .ok (.iaload, 1) := by decide +kernel
theorem dX1_end_22 : decode cX1_end 22 = .ok (.goto 10, 3) := by decide +kernel
theorem dX1_end_25 : decode cX1_end 25 = .ok (.aload_n 0, 1) := by decide +kernel
theorem dX1_end_26 : decode cX1_end 26 = .ok (.getfield 41, 3) := by decide +kernel
theorem dX1_end_29 : decode cX1_end 29 = .ok (.getfield 57, 3) := by decide +kernel
theorem dX1_end_32 : decode cX1_end 32 = .ok (.ireturn, 1) := by decide +kernel
theorem dX1_lineOf_0 : decode cX1_lineOf 0 = .ok (.iconst 0, 1) := by decide +kernel
theorem dX1_lineOf_1 : decode cX1_lineOf 1 = .ok (.istore_n 2, 1) := by decide +kernel
theorem dX1_lineOf_2 : decode cX1_lineOf 2 = .ok (.iload_n 2, 1) := by decide +kernel
theorem dX1_lineOf_3 : decode cX1_lineOf 3 = .ok (.iconst 1, 1) := by decide +kernel
theorem dX1_lineOf_4 : decode cX1_lineOf 4 = .ok (.iadd, 1) := by decide +kernel
theorem dX1_lineOf_5 : decode cX1_lineOf 5 = .ok (.aload_n 0, 1) := by decide +kernel
theorem dX1_lineOf_6 : decode cX1_lineOf 6 = .ok (.getfield 49, 3) := by decide +kernel
theorem dX1_lineOf_9 : decode cX1_lineOf 9 = .ok (.if_icmp .ge 21, 3) := by decide +kernel
theorem dX1_lineOf_12 : decode cX1_lineOf 12 = .ok (.aload_n 0, 1) := by decide +kernel
theorem dX1_lineOf_13 : decode cX1_lineOf 13 = .ok (.getfield 9, 3) := by decide +kernel
theorem dX1_lineOf_16 : decode cX1_lineOf 16 = .ok (.iload_n 2, 1) := by decide +kernel
theorem dX1_lineOf_17 : decode cX1_lineOf 17 = .ok (.iconst 1, 1) := by decide +kernel
theorem dX1_lineOf_18 : decode cX1_lineOf 18 = .ok (.iadd, 1) := by decide +kernel
theorem dX1_lineOf_19 : decode cX1_lineOf 19 = .ok (.iaload, 1) := by decide +kernel
theorem dX1_lineOf_20 : decode cX1_lineOf 20 = .ok (.iload_n 1, 1) := by decide +kernel
theorem dX1_lineOf_21 : decode cX1_lineOf 21 = .ok (.if_icmp .gt 9, 3) := by decide +kernel
theorem dX1_lineOf_24 : decode cX1_lineOf 24 = .ok (.iinc 2 1, 3) := by decide +kernel
theorem dX1_lineOf_27 : decode cX1_lineOf 27 = .ok (.goto (-25), 3) := by decide +kernel
theorem dX1_lineOf_30 : decode cX1_lineOf 30 = .ok (.iload_n 2, 1) := by decide +kernel
theorem dX1_lineOf_31 : decode cX1_lineOf 31 = .ok (.ireturn, 1) := by decide +kernel
theorem dX1_share_0 : decode cX1_share 0 = .ok (.iconst 0, 1) := by decide +kernel
theorem dX1_share_1 : decode cX1_share 1 = .ok (.istore_n 1, 1) := by decide +kernel
theorem dX1_share_2 : decode cX1_share 2 = .ok (.iload_n 1, 1) := by decide +kernel
theorem dX1_share_3 : decode cX1_share 3 = .ok (.aload_n 0, 1) := by decide +kernel
theorem dX1_share_4 : decode cX1_share 4 = .ok (.getfield 49, 3) := by decide +kernel
theorem dX1_share_7 : decode cX1_share 7 = .ok (.if_icmp .ge 14, 3) := by decide +kernel
theorem dX1_share_10 : decode cX1_share 10 = .ok (.aload_n 0, 1) := by decide +kernel
theorem dX1_share_11 : decode cX1_share 11 = .ok (.iload_n 1, 1) := by decide +kernel
theorem dX1_share_12 : decode cX1_share 12 = .ok (.invokevirtual 65, 3) := by decide +kernel
theorem dX1_share_15 : decode cX1_share 15 = .ok (.iinc 1 1, 3) := by decide +kernel
theorem dX1_share_18 : decode cX1_share 18 = .ok (.goto (-16), 3) := by decide +kernel
theorem dX1_share_21 : decode cX1_share 21 = .ok (.return_, 1) := by decide +kernel
theorem dX1_allHaveRoom_0 : decode cX1_allHaveRoom 0 = .ok (.iconst 0, 1) := by decide +kernel
theorem dX1_allHaveRoom_1 : decode cX1_allHaveRoom 1 = .ok (.istore_n 1, 1) := by decide +kernel
theorem dX1_allHaveRoom_2 : decode cX1_allHaveRoom 2 = .ok (.iload_n 1, 1) := by decide +kernel
theorem dX1_allHaveRoom_3 : decode cX1_allHaveRoom 3 = .ok (.aload_n 0, 1) := by decide +kernel
theorem dX1_allHaveRoom_4 : decode cX1_allHaveRoom 4 = .ok (.getfield 49, 3) := by decide +kernel
theorem dX1_allHaveRoom_7 : decode cX1_allHaveRoom 7 = .ok (.if_icmp .ge 25, 3) := by decide +kernel
theorem dX1_allHaveRoom_10 : decode cX1_allHaveRoom 10 = .ok (.aload_n 0, 1) := by decide +kernel
theorem dX1_allHaveRoom_11 : decode cX1_allHaveRoom 11 = .ok (.iload_n 1, 1) := by decide +kernel
theorem dX1_allHaveRoom_12 : decode cX1_allHaveRoom 12 = .ok (.invokevirtual 65, 3) := by decide +kernel
theorem dX1_allHaveRoom_15 : decode cX1_allHaveRoom 15 = .ok (.aload_n 0, 1) := by decide +kernel
theorem dX1_allHaveRoom_16 : decode cX1_allHaveRoom 16 = .ok (.getfield 18, 3) := by decide +kernel
theorem dX1_allHaveRoom_19 : decode cX1_allHaveRoom 19 = .ok (.iload_n 1, 1) := by decide +kernel
theorem dX1_allHaveRoom_20 : decode cX1_allHaveRoom 20 = .ok (.iaload, 1) := by decide +kernel
theorem dX1_allHaveRoom_21 : decode cX1_allHaveRoom 21 = .ok (.ifCond .ge 5, 3) := by decide +kernel
theorem dX1_allHaveRoom_24 : decode cX1_allHaveRoom 24 = .ok (.iconst 0, 1) := by decide +kernel
theorem dX1_allHaveRoom_25 : decode cX1_allHaveRoom 25 = .ok (.ireturn, 1) := by decide +kernel
theorem dX1_allHaveRoom_26 : decode cX1_allHaveRoom 26 = .ok (.iinc 1 1, 3) := by decide +kernel
theorem dX1_allHaveRoom_29 : decode cX1_allHaveRoom 29 = .ok (.goto (-27), 3) := by decide +kernel
theorem dX1_allHaveRoom_32 : decode cX1_allHaveRoom 32 = .ok (.iconst 1, 1) := by decide +kernel
theorem dX1_allHaveRoom_33 : decode cX1_allHaveRoom 33 = .ok (.ireturn, 1) := by decide +kernel
theorem dX1_shareLine_0 : decode cX1_shareLine 0 = .ok (.aload_n 0, 1) := by decide +kernel
theorem dX1_shareLine_1 : decode cX1_shareLine 1 = .ok (.getfield 9, 3) := by decide +kernel
theorem dX1_shareLine_4 : decode cX1_shareLine 4 = .ok (.iload_n 1, 1) := by decide +kernel
theorem dX1_shareLine_5 : decode cX1_shareLine 5 = .ok (.iaload, 1) := by decide +kernel
theorem dX1_shareLine_6 : decode cX1_shareLine 6 = .ok (.istore_n 2, 1) := by decide +kernel
theorem dX1_shareLine_7 : decode cX1_shareLine 7 = .ok (.aload_n 0, 1) := by decide +kernel
theorem dX1_shareLine_8 : decode cX1_shareLine 8 = .ok (.iload_n 1, 1) := by decide +kernel
theorem dX1_shareLine_9 : decode cX1_shareLine 9 = .ok (.invokevirtual 69, 3) := by decide +kernel
theorem dX1_shareLine_12 : decode cX1_shareLine 12 = .ok (.istore_n 3, 1) := by decide +kernel
theorem dX1_shareLine_13 : decode cX1_shareLine 13 = .ok (.aload_n 0, 1) := by decide +kernel
theorem dX1_shareLine_14 : decode cX1_shareLine 14 = .ok (.getfield 45, 3) := by decide +kernel
theorem dX1_shareLine_17 : decode cX1_shareLine 17 = .ok (.aload_n 0, 1) := by decide +kernel
theorem dX1_shareLine_18 : decode cX1_shareLine 18 = .ok (.getfield 37, 3) := by decide +kernel
theorem dX1_shareLine_21 : decode cX1_shareLine 21 = .ok (.iconst 1, 1) := by decide +kernel
theorem dX1_shareLine_22 : decode cX1_shareLine 22 = .ok (.invokevirtual 52, 3) := by decide +kernel
theorem dX1_shareLine_25 : decode cX1_shareLine 25 = .ok (.iload_n 3, 1) := by decide +kernel
theorem dX1_shareLine_26 : decode cX1_shareLine 26 = .ok (.iload_n 2, 1) := by decide +kernel
theorem dX1_shareLine_27 : decode cX1_shareLine 27 = .ok (.isub, 1) := by decide +kernel
theorem dX1_shareLine_28 : decode cX1_shareLine 28 = .ok (.iconst 1, 1) := by decide +kernel
theorem dX1_shareLine_29 : decode cX1_shareLine 29 = .ok (.isub, 1) := by decide +kernel
theorem dX1_shareLine_30 : decode cX1_shareLine 30 = .ok (.imul, 1) := by decide +kernel
theorem dX1_shareLine_31 : decode cX1_shareLine 31 = .ok (.isub, 1) := by decide +kernel
theorem dX1_shareLine_32 : decode cX1_shareLine 32 = .ok (.istore 4, 2) := by decide +kernel
theorem dX1_shareLine_34 : decode cX1_shareLine 34 = .ok (.iconst 0, 1) := by decide +kernel
theorem dX1_shareLine_35 : decode cX1_shareLine 35 = .ok (.istore 5, 2) := by decide +kernel
theorem dX1_shareLine_37 : decode cX1_shareLine 37 = .ok (.iload_n 2, 1) := by decide +kernel
theorem dX1_shareLine_38 : decode cX1_shareLine 38 = .ok (.istore 6, 2) := by decide +kernel
theorem dX1_shareLine_40 : decode cX1_shareLine 40 = .ok (.iload 6, 2) := by decide +kernel
theorem dX1_shareLine_42 : decode cX1_shareLine 42 = .ok (.iload_n 3, 1) := by decide +kernel
theorem dX1_shareLine_43 : decode cX1_shareLine 43 = .ok (.if_icmp .ge 41, 3) := by decide +kernel
theorem dX1_shareLine_46 : decode cX1_shareLine 46 = .ok (.iload 4, 2) := by decide +kernel
theorem dX1_shareLine_48 : decode cX1_shareLine 48 = .ok (.iconst 2, 1) := by decide +kernel
theorem dX1_shareLine_49 : decode cX1_shareLine 49 = .ok (.aload_n 0, 1) := by decide +kernel
theorem dX1_shareLine_50 : decode cX1_shareLine 50 = .ok (.getfield 41, 3) := by decide +kernel
theorem dX1_shareLine_53 : decode cX1_shareLine 53 = .ok (.getfield 72, 3) := by decide +kernel
theorem dX1_shareLine_56 : decode cX1_shareLine 56 = .ok (.iload 6, 2) := by decide +kernel
theorem dX1_shareLine_58 : decode cX1_shareLine 58 = .ok (.iaload, 1) := by decide +kernel
theorem dX1_shareLine_59 : decode cX1_shareLine 59 = .ok (.imul, 1) := by decide +kernel
theorem dX1_shareLine_60 : decode cX1_shareLine 60 = .ok (.isub, 1) := by decide +kernel
theorem dX1_shareLine_61 : decode cX1_shareLine 61 = .ok (.istore 4, 2) := by decide +kernel
theorem dX1_shareLine_63 : decode cX1_shareLine 63 = .ok (.iload 5, 2) := by decide +kernel
theorem dX1_shareLine_65 : decode cX1_shareLine 65 = .ok (.aload_n 0, 1) := by decide +kernel
theorem dX1_shareLine_66 : decode cX1_shareLine 66 = .ok (.getfield 41, 3) := by decide +kernel
theorem dX1_shareLine_69 : decode cX1_shareLine 69 = .ok (.getfield 75, 3) := by decide +kernel
theorem dX1_shareLine_72 : decode cX1_shareLine 72 = .ok (.iload 6, 2) := by decide +kernel
theorem dX1_shareLine_74 : decode cX1_shareLine 74 = .ok (.iaload, 1) := by decide +kernel
theorem dX1_shareLine_75 : decode cX1_shareLine 75 = .ok (.iadd, 1) := by decide +kernel
theorem dX1_shareLine_76 : decode cX1_shareLine 76 = .ok (.istore 5, 2) := by decide +kernel
theorem dX1_shareLine_78 : decode cX1_shareLine 78 = .ok (.iinc 6 1, 3) := by decide +kernel
theorem dX1_shareLine_81 : decode cX1_shareLine 81 = .ok (.goto (-41), 3) := by decide +kernel
theorem dX1_shareLine_84 : decode cX1_shareLine 84 = .ok (.iload 5, 2) := by decide +kernel
theorem dX1_shareLine_86 : decode cX1_shareLine 86 = .ok (.iload 4, 2) := by decide +kernel
theorem dX1_shareLine_88 : decode cX1_shareLine 88 = .ok (.if_icmp .ge 7, 3) := by decide +kernel
theorem dX1_shareLine_91 : decode cX1_shareLine 91 = .ok (.iconst 1, 1) := by decide +kernel
theorem dX1_shareLine_92 : decode cX1_shareLine 92 = .ok (.goto 4, 3) := by decide +kernel
theorem dX1_shareLine_95 : decode cX1_shareLine 95 = .ok (.iconst 0, 1) := by decide +kernel
theorem dX1_shareLine_96 : decode cX1_shareLine 96 = .ok (.istore 6, 2) := by decide +kernel
theorem dX1_shareLine_98 : decode cX1_shareLine 98 = .ok (.aload_n 0, 1) := by decide +kernel
theorem dX1_shareLine_99 : decode cX1_shareLine 99 = .ok (.getfield 24, 3) := by decide +kernel
theorem dX1_shareLine_102 : decode cX1_shareLine 102 = .ok (.iload_n 1, 1) := by decide +kernel
theorem dX1_shareLine_103 : decode cX1_shareLine 103 = .ok (.iload 6, 2) := by decide +kernel
theorem dX1_shareLine_105 : decode cX1_shareLine 105 = .ok (.bastore, 1) := by decide +kernel
theorem dX1_shareLine_106 : decode cX1_shareLine 106 = .ok (.aload_n 0, 1) := by decide +kernel
theorem dX1_shareLine_107 : decode cX1_shareLine 107 = .ok (.iload_n 2, 1) := by decide +kernel
theorem dX1_shareLine_108 : decode cX1_shareLine 108 = .ok (.iload_n 3, 1) := by decide +kernel
theorem dX1_shareLine_109 : decode cX1_shareLine 109 = .ok (.iload 6, 2) := by decide +kernel
theorem dX1_shareLine_111 : decode cX1_shareLine 111 = .ok (.invokevirtual 78, 3) := by decide +kernel
theorem dX1_shareLine_114 : decode cX1_shareLine 114 = .ok (.aload_n 0, 1) := by decide +kernel
theorem dX1_shareLine_115 : decode cX1_shareLine 115 = .ok (.getfield 21, 3) := by decide +kernel
theorem dX1_shareLine_118 : decode cX1_shareLine 118 = .ok (.iload_n 1, 1) := by decide +kernel
theorem dX1_shareLine_119 : decode cX1_shareLine 119 = .ok (.iconst 0, 1) := by decide +kernel
theorem dX1_shareLine_120 : decode cX1_shareLine 120 = .ok (.iastore, 1) := by decide +kernel
theorem dX1_shareLine_121 : decode cX1_shareLine 121 = .ok (.iconst 1, 1) := by decide +kernel
theorem dX1_shareLine_122 : decode cX1_shareLine 122 = .ok (.istore 7, 2) := by decide +kernel
theorem dX1_shareLine_124 : decode cX1_shareLine 124 = .ok (.iload 7, 2) := by decide +kernel
theorem dX1_shareLine_126 : decode cX1_shareLine 126 = .ok (.bipush 16, 2) := by decide +kernel
theorem dX1_shareLine_128 : decode cX1_shareLine 128 = .ok (.if_icmp .gt 44, 3) := by decide +kernel
theorem dX1_shareLine_131 : decode cX1_shareLine 131 = .ok (.aload_n 0, 1) := by decide +kernel
theorem dX1_shareLine_132 : decode cX1_shareLine 132 = .ok (.iload_n 2, 1) := by decide +kernel
theorem dX1_shareLine_133 : decode cX1_shareLine 133 = .ok (.iload_n 3, 1) := by decide +kernel
theorem dX1_shareLine_134 : decode cX1_shareLine 134 = .ok (.invokevirtual 82, 3) := by decide +kernel
theorem dX1_shareLine_137 : decode cX1_shareLine 137 = .ok (.ifCond .eq 35, 3) := by decide +kernel
theorem dX1_shareLine_140 : decode cX1_shareLine 140 = .ok (.aload_n 0, 1) := by decide +kernel
theorem dX1_shareLine_141 : decode cX1_shareLine 141 = .ok (.iload_n 2, 1) := by decide +kernel
theorem dX1_shareLine_142 : decode cX1_shareLine 142 = .ok (.iload_n 3, 1) := by decide +kernel
theorem dX1_shareLine_143 : decode cX1_shareLine 143 = .ok (.iload 4, 2) := by decide +kernel
theorem dX1_shareLine_145 : decode cX1_shareLine 145 = .ok (.iload 6, 2) := by decide +kernel
theorem dX1_shareLine_147 : decode cX1_shareLine 147 = .ok (.invokevirtual 86, 3) := by decide +kernel
theorem dX1_shareLine_150 : decode cX1_shareLine 150 = .ok (.aload_n 0, 1) := by decide +kernel
theorem dX1_shareLine_151 : decode cX1_shareLine 151 = .ok (.iload_n 2, 1) := by decide +kernel
theorem dX1_shareLine_152 : decode cX1_shareLine 152 = .ok (.iload_n 3, 1) := by decide +kernel
theorem dX1_shareLine_153 : decode cX1_shareLine 153 = .ok (.iload 7, 2) := by decide +kernel
theorem dX1_shareLine_155 : decode cX1_shareLine 155 = .ok (.invokevirtual 90, 3) := by decide +kernel
theorem dX1_shareLine_158 : decode cX1_shareLine 158 = .ok (.aload_n 0, 1) := by decide +kernel
theorem dX1_shareLine_159 : decode cX1_shareLine 159 = .ok (.getfield 21, 3) := by decide +kernel
theorem dX1_shareLine_162 : decode cX1_shareLine 162 = .ok (.iload_n 1, 1) := by decide +kernel
theorem dX1_shareLine_163 : decode cX1_shareLine 163 = .ok (.iload 7, 2) := by decide +kernel
theorem dX1_shareLine_165 : decode cX1_shareLine 165 = .ok (.iastore, 1) := by decide +kernel
theorem dX1_shareLine_166 : decode cX1_shareLine 166 = .ok (.iinc 7 1, 3) := by decide +kernel
theorem dX1_shareLine_169 : decode cX1_shareLine 169 = .ok (.goto (-45), 3) := by decide +kernel
theorem dX1_shareLine_172 : decode cX1_shareLine 172 = .ok (.aload_n 0, 1) := by decide +kernel
theorem dX1_shareLine_173 : decode cX1_shareLine 173 = .ok (.getfield 18, 3) := by decide +kernel
theorem dX1_shareLine_176 : decode cX1_shareLine 176 = .ok (.iload_n 1, 1) := by decide +kernel
theorem dX1_shareLine_177 : decode cX1_shareLine 177 = .ok (.iload 4, 2) := by decide +kernel
theorem dX1_shareLine_179 : decode cX1_shareLine 179 = .ok (.iastore, 1) := by decide +kernel
theorem dX1_shareLine_180 : decode cX1_shareLine 180 = .ok (.iload_n 2, 1) := by decide +kernel
theorem dX1_shareLine_181 : decode cX1_shareLine 181 = .ok (.istore 7, 2) := by decide +kernel
theorem dX1_shareLine_183 : decode cX1_shareLine 183 = .ok (.iload 7, 2) := by decide +kernel
theorem dX1_shareLine_185 : decode cX1_shareLine 185 = .ok (.iload_n 3, 1) := by decide +kernel
theorem dX1_shareLine_186 : decode cX1_shareLine 186 = .ok (.if_icmp .ge 25, 3) := by decide +kernel
theorem dX1_shareLine_189 : decode cX1_shareLine 189 = .ok (.aload_n 0, 1) := by decide +kernel
theorem dX1_shareLine_190 : decode cX1_shareLine 190 = .ok (.getfield 18, 3) := by decide +kernel
theorem dX1_shareLine_193 : decode cX1_shareLine 193 = .ok (.iload_n 1, 1) := by decide +kernel
theorem dX1_shareLine_194 : decode cX1_shareLine 194 = .ok (.dup2, 1) := by decide +kernel
theorem dX1_shareLine_195 : decode cX1_shareLine 195 = .ok (.iaload, 1) := by decide +kernel
theorem dX1_shareLine_196 : decode cX1_shareLine 196 = .ok (.aload_n 0, 1) := by decide +kernel
theorem dX1_shareLine_197 : decode cX1_shareLine 197 = .ok (.getfield 28, 3) := by decide +kernel
theorem dX1_shareLine_200 : decode cX1_shareLine 200 = .ok (.iload 7, 2) := by decide +kernel
theorem dX1_shareLine_202 : decode cX1_shareLine 202 = .ok (.iaload, 1) := by decide +kernel
theorem dX1_shareLine_203 : decode cX1_shareLine 203 = .ok (.isub, 1) := by decide +kernel
theorem dX1_shareLine_204 : decode cX1_shareLine 204 = .ok (.iastore, 1) := by decide +kernel
theorem dX1_shareLine_205 : decode cX1_shareLine 205 = .ok (.iinc 7 1, 3) := by decide +kernel
theorem dX1_shareLine_208 : decode cX1_shareLine 208 = .ok (.goto (-25), 3) := by decide +kernel
theorem dX1_shareLine_211 : decode cX1_shareLine 211 = .ok (.return_, 1) := by decide +kernel
theorem dX1_freezeStiff_0 : decode cX1_freezeStiff 0 = .ok (.iload_n 1, 1) := by decide +kernel
theorem dX1_freezeStiff_1 : decode cX1_freezeStiff 1 = .ok (.istore 4, 2) := by decide +kernel
theorem dX1_freezeStiff_3 : decode cX1_freezeStiff 3 = .ok (.iload 4, 2) := by decide +kernel
theorem dX1_freezeStiff_5 : decode cX1_freezeStiff 5 = .ok (.iload_n 2, 1) := by decide +kernel
theorem dX1_freezeStiff_6 : decode cX1_freezeStiff 6 = .ok (.if_icmp .ge 51, 3) := by decide +kernel
theorem dX1_freezeStiff_9 : decode cX1_freezeStiff 9 = .ok (.aload_n 0, 1) := by decide +kernel
theorem dX1_freezeStiff_10 : decode cX1_freezeStiff 10 = .ok (.getfield 28, 3) := by decide +kernel
theorem dX1_freezeStiff_13 : decode cX1_freezeStiff 13 = .ok (.iload 4, 2) := by decide +kernel
theorem dX1_freezeStiff_15 : decode cX1_freezeStiff 15 = .ok (.aload_n 0, 1) := by decide +kernel
theorem dX1_freezeStiff_16 : decode cX1_freezeStiff 16 = .ok (.getfield 41, 3) := by decide +kernel
theorem dX1_freezeStiff_19 : decode cX1_freezeStiff 19 = .ok (.getfield 75, 3) := by decide +kernel
theorem dX1_freezeStiff_22 : decode cX1_freezeStiff 22 = .ok (.iload 4, 2) := by decide +kernel
theorem dX1_freezeStiff_24 : decode cX1_freezeStiff 24 = .ok (.iaload, 1) := by decide +kernel
theorem dX1_freezeStiff_25 : decode cX1_freezeStiff 25 = .ok (.iastore, 1) := by decide +kernel
theorem dX1_freezeStiff_26 : decode cX1_freezeStiff 26 = .ok (.aload_n 0, 1) := by decide +kernel
theorem dX1_freezeStiff_27 : decode cX1_freezeStiff 27 = .ok (.getfield 31, 3) := by decide +kernel
theorem dX1_freezeStiff_30 : decode cX1_freezeStiff 30 = .ok (.iload 4, 2) := by decide +kernel
theorem dX1_freezeStiff_32 : decode cX1_freezeStiff 32 = .ok (.aload_n 0, 1) := by decide +kernel
theorem dX1_freezeStiff_33 : decode cX1_freezeStiff 33 = .ok (.getfield 41, 3) := by decide +kernel
theorem dX1_freezeStiff_36 : decode cX1_freezeStiff 36 = .ok (.iload 4, 2) := by decide +kernel
theorem dX1_freezeStiff_38 : decode cX1_freezeStiff 38 = .ok (.iload_n 3, 1) := by decide +kernel
theorem dX1_freezeStiff_39 : decode cX1_freezeStiff 39 = .ok (.invokevirtual 94, 3) := by decide +kernel
theorem dX1_freezeStiff_42 : decode cX1_freezeStiff 42 = .ok (.ifCond .eq 7, 3) := by decide +kernel
theorem dX1_freezeStiff_45 : decode cX1_freezeStiff 45 = .ok (.iconst 0, 1) := by decide +kernel
theorem dX1_freezeStiff_46 : decode cX1_freezeStiff 46 = .ok (.goto 4, 3) := by decide +kernel
theorem dX1_freezeStiff_49 : decode cX1_freezeStiff 49 = .ok (.iconst (-1), 1) := by decide +kernel
theorem dX1_freezeStiff_50 : decode cX1_freezeStiff 50 = .ok (.iastore, 1) := by decide +kernel
theorem dX1_freezeStiff_51 : decode cX1_freezeStiff 51 = .ok (.iinc 4 1, 3) := by decide +kernel
theorem dX1_freezeStiff_54 : decode cX1_freezeStiff 54 = .ok (.goto (-51), 3) := by decide +kernel
theorem dX1_freezeStiff_57 : decode cX1_freezeStiff 57 = .ok (.return_, 1) := by decide +kernel
theorem dX1_hasOpen_0 : decode cX1_hasOpen 0 = .ok (.iload_n 1, 1) := by decide +kernel
theorem dX1_hasOpen_1 : decode cX1_hasOpen 1 = .ok (.istore_n 3, 1) := by decide +kernel
theorem dX1_hasOpen_2 : decode cX1_hasOpen 2 = .ok (.iload_n 3, 1) := by decide +kernel
theorem dX1_hasOpen_3 : decode cX1_hasOpen 3 = .ok (.iload_n 2, 1) := by decide +kernel
theorem dX1_hasOpen_4 : decode cX1_hasOpen 4 = .ok (.if_icmp .ge 21, 3) := by decide +kernel
theorem dX1_hasOpen_7 : decode cX1_hasOpen 7 = .ok (.aload_n 0, 1) := by decide +kernel
theorem dX1_hasOpen_8 : decode cX1_hasOpen 8 = .ok (.getfield 31, 3) := by decide +kernel
theorem dX1_hasOpen_11 : decode cX1_hasOpen 11 = .ok (.iload_n 3, 1) := by decide +kernel
theorem dX1_hasOpen_12 : decode cX1_hasOpen 12 = .ok (.iaload, 1) := by decide +kernel
theorem dX1_hasOpen_13 : decode cX1_hasOpen 13 = .ok (.iconst (-1), 1) := by decide +kernel
theorem dX1_hasOpen_14 : decode cX1_hasOpen 14 = .ok (.if_icmp .ne 5, 3) := by decide +kernel
theorem dX1_hasOpen_17 : decode cX1_hasOpen 17 = .ok (.iconst 1, 1) := by decide +kernel
theorem dX1_hasOpen_18 : decode cX1_hasOpen 18 = .ok (.ireturn, 1) := by decide +kernel
theorem dX1_hasOpen_19 : decode cX1_hasOpen 19 = .ok (.iinc 3 1, 3) := by decide +kernel
theorem dX1_hasOpen_22 : decode cX1_hasOpen 22 = .ok (.goto (-20), 3) := by decide +kernel
theorem dX1_hasOpen_25 : decode cX1_hasOpen 25 = .ok (.iconst 0, 1) := by decide +kernel
theorem dX1_hasOpen_26 : decode cX1_hasOpen 26 = .ok (.ireturn, 1) := by decide +kernel
theorem dX1_shareOut_0 : decode cX1_shareOut 0 = .ok (.iload_n 3, 1) := by decide +kernel
theorem dX1_shareOut_1 : decode cX1_shareOut 1 = .ok (.istore 5, 2) := by decide +kernel
theorem dX1_shareOut_3 : decode cX1_shareOut 3 = .ok (.iconst 0, 1) := by decide +kernel
theorem dX1_shareOut_4 : decode cX1_shareOut 4 = .ok (.istore 6, 2) := by decide +kernel
theorem dX1_shareOut_6 : decode cX1_shareOut 6 = .ok (.iload_n 1, 1) := by decide +kernel
theorem dX1_shareOut_7 : decode cX1_shareOut 7 = .ok (.istore 7, 2) := by decide +kernel
theorem dX1_shareOut_9 : decode cX1_shareOut 9 = .ok (.iload 7, 2) := by decide +kernel
theorem dX1_shareOut_11 : decode cX1_shareOut 11 = .ok (.iload_n 2, 1) := by decide +kernel
theorem dX1_shareOut_12 : decode cX1_shareOut 12 = .ok (.if_icmp .ge 82, 3) := by decide +kernel
theorem dX1_shareOut_15 : decode cX1_shareOut 15 = .ok (.aload_n 0, 1) := by decide +kernel
theorem dX1_shareOut_16 : decode cX1_shareOut 16 = .ok (.getfield 31, 3) := by decide +kernel
theorem dX1_shareOut_19 : decode cX1_shareOut 19 = .ok (.iload 7, 2) := by decide +kernel
theorem dX1_shareOut_21 : decode cX1_shareOut 21 = .ok (.iaload, 1) := by decide +kernel
theorem dX1_shareOut_22 : decode cX1_shareOut 22 = .ok (.iconst (-1), 1) := by decide +kernel
theorem dX1_shareOut_23 : decode cX1_shareOut 23 = .ok (.if_icmp .ne 7, 3) := by decide +kernel
theorem dX1_shareOut_26 : decode cX1_shareOut 26 = .ok (.iconst 1, 1) := by decide +kernel
theorem dX1_shareOut_27 : decode cX1_shareOut 27 = .ok (.goto 4, 3) := by decide +kernel
theorem dX1_shareOut_30 : decode cX1_shareOut 30 = .ok (.iconst 0, 1) := by decide +kernel
theorem dX1_shareOut_31 : decode cX1_shareOut 31 = .ok (.istore 8, 2) := by decide +kernel
theorem dX1_shareOut_33 : decode cX1_shareOut 33 = .ok (.iload 5, 2) := by decide +kernel
theorem dX1_shareOut_35 : decode cX1_shareOut 35 = .ok (.iload 8, 2) := by decide +kernel
theorem dX1_shareOut_37 : decode cX1_shareOut 37 = .ok (.ifCond .eq 16, 3) := by decide +kernel
theorem dX1_shareOut_40 : decode cX1_shareOut 40 = .ok (.aload_n 0, 1) := by decide +kernel
theorem dX1_shareOut_41 : decode cX1_shareOut 41 = .ok (.getfield 41, 3) := by decide +kernel
theorem dX1_shareOut_44 : decode cX1_shareOut 44 = .ok (.getfield 98, 3) := by decide +kernel
theorem dX1_shareOut_47 : decode cX1_shareOut 47 = .ok (.iload 7, 2) := by decide +kernel
theorem dX1_shareOut_49 : decode cX1_shareOut 49 = .ok (.iaload, 1) := by decide +kernel
theorem dX1_shareOut_50 : decode cX1_shareOut 50 = .ok (.goto 10, 3) := by decide +kernel
theorem dX1_shareOut_53 : decode cX1_shareOut 53 = .ok (.aload_n 0, 1) := by decide +kernel
theorem dX1_shareOut_54 : decode cX1_shareOut 54 = .ok (.getfield 28, 3) := by decide +kernel
theorem dX1_shareOut_57 : decode cX1_shareOut 57 = .ok (.iload 7, 2) := by decide +kernel
theorem dX1_shareOut_59 : decode cX1_shareOut 59 = .ok (.iaload, 1) := by decide +kernel
theorem dX1_shareOut_60 : decode cX1_shareOut 60 = .ok (.isub, 1) := by decide +kernel
theorem dX1_shareOut_61 : decode cX1_shareOut 61 = .ok (.istore 5, 2) := by decide +kernel
theorem dX1_shareOut_63 : decode cX1_shareOut 63 = .ok (.iload 6, 2) := by decide +kernel
theorem dX1_shareOut_65 : decode cX1_shareOut 65 = .ok (.iload 8, 2) := by decide +kernel
theorem dX1_shareOut_67 : decode cX1_shareOut 67 = .ok (.ifCond .eq 17, 3) := by decide +kernel
theorem dX1_shareOut_70 : decode cX1_shareOut 70 = .ok (.aload_n 0, 1) := by decide +kernel
theorem dX1_shareOut_71 : decode cX1_shareOut 71 = .ok (.getfield 41, 3) := by decide +kernel
theorem dX1_shareOut_74 : decode cX1_shareOut 74 = .ok (.iload 7, 2) := by decide +kernel
theorem dX1_shareOut_76 : decode cX1_shareOut 76 = .ok (.iload 4, 2) := by decide +kernel
theorem dX1_shareOut_78 : decode cX1_shareOut 78 = .ok (.invokevirtual 101, 3) := by decide +kernel
theorem dX1_shareOut_81 : decode cX1_shareOut 81 = .ok (.goto 4, 3) := by decide +kernel
theorem dX1_shareOut_84 : decode cX1_shareOut 84 = .ok (.iconst 0, 1) := by decide +kernel
theorem dX1_shareOut_85 : decode cX1_shareOut 85 = .ok (.iadd, 1) := by decide +kernel
theorem dX1_shareOut_86 : decode cX1_shareOut 86 = .ok (.istore 6, 2) := by decide +kernel
theorem dX1_shareOut_88 : decode cX1_shareOut 88 = .ok (.iinc 7 1, 3) := by decide +kernel
theorem dX1_shareOut_91 : decode cX1_shareOut 91 = .ok (.goto (-82), 3) := by decide +kernel
theorem dX1_shareOut_94 : decode cX1_shareOut 94 = .ok (.iload 4, 2) := by decide +kernel
theorem dX1_shareOut_96 : decode cX1_shareOut 96 = .ok (.ifCond .eq 8, 3) := by decide +kernel
theorem dX1_shareOut_99 : decode cX1_shareOut 99 = .ok (.iload 5, 2) := by decide +kernel
theorem dX1_shareOut_101 : decode cX1_shareOut 101 = .ok (.goto 6, 3) := by decide +kernel
theorem dX1_shareOut_104 : decode cX1_shareOut 104 = .ok (.iload 5, 2) := by decide +kernel
theorem dX1_shareOut_106 : decode cX1_shareOut 106 = .ok (.ineg, 1) := by decide +kernel
theorem dX1_shareOut_107 : decode cX1_shareOut 107 = .ok (.iconst 0, 1) := by decide +kernel
theorem dX1_shareOut_108 : decode cX1_shareOut 108 = .ok (.invokestatic 105, 3) := by decide +kernel
theorem dX1_shareOut_111 : decode cX1_shareOut 111 = .ok (.istore 7, 2) := by decide +kernel
theorem dX1_shareOut_113 : decode cX1_shareOut 113 = .ok (.iconst 0, 1) := by decide +kernel
theorem dX1_shareOut_114 : decode cX1_shareOut 114 = .ok (.istore 8, 2) := by decide +kernel
theorem dX1_shareOut_116 : decode cX1_shareOut 116 = .ok (.iload_n 1, 1) := by decide +kernel
theorem dX1_shareOut_117 : decode cX1_shareOut 117 = .ok (.istore 9, 2) := by decide +kernel
theorem dX1_shareOut_119 : decode cX1_shareOut 119 = .ok (.iload 9, 2) := by decide +kernel
theorem dX1_shareOut_121 : decode cX1_shareOut 121 = .ok (.iload_n 2, 1) := by decide +kernel
theorem dX1_shareOut_122 : decode cX1_shareOut 122 = .ok (.if_icmp .ge 92, 3) := by decide +kernel
theorem dX1_shareOut_125 : decode cX1_shareOut 125 = .ok (.aload_n 0, 1) := by decide +kernel
theorem dX1_shareOut_126 : decode cX1_shareOut 126 = .ok (.getfield 31, 3) := by decide +kernel
theorem dX1_shareOut_129 : decode cX1_shareOut 129 = .ok (.iload 9, 2) := by decide +kernel
theorem dX1_shareOut_131 : decode cX1_shareOut 131 = .ok (.iaload, 1) := by decide +kernel
theorem dX1_shareOut_132 : decode cX1_shareOut 132 = .ok (.iconst (-1), 1) := by decide +kernel
theorem dX1_shareOut_133 : decode cX1_shareOut 133 = .ok (.if_icmp .ne 75, 3) := by decide +kernel
theorem dX1_shareOut_136 : decode cX1_shareOut 136 = .ok (.iload 7, 2) := by decide +kernel
theorem dX1_shareOut_138 : decode cX1_shareOut 138 = .ok (.iload 8, 2) := by decide +kernel
theorem dX1_shareOut_140 : decode cX1_shareOut 140 = .ok (.iload 6, 2) := by decide +kernel
theorem dX1_shareOut_142 : decode cX1_shareOut 142 = .ok (.invokestatic 111, 3) := by decide +kernel
theorem dX1_shareOut_145 : decode cX1_shareOut 145 = .ok (.istore 10, 2) := by decide +kernel
theorem dX1_shareOut_147 : decode cX1_shareOut 147 = .ok (.iload 8, 2) := by decide +kernel
theorem dX1_shareOut_149 : decode cX1_shareOut 149 = .ok (.aload_n 0, 1) := by decide +kernel
theorem dX1_shareOut_150 : decode cX1_shareOut 150 = .ok (.getfield 41, 3) := by decide +kernel
theorem dX1_shareOut_153 : decode cX1_shareOut 153 = .ok (.iload 9, 2) := by decide +kernel
theorem dX1_shareOut_155 : decode cX1_shareOut 155 = .ok (.iload 4, 2) := by decide +kernel
theorem dX1_shareOut_157 : decode cX1_shareOut 157 = .ok (.invokevirtual 101, 3) := by decide +kernel
theorem dX1_shareOut_160 : decode cX1_shareOut 160 = .ok (.iadd, 1) := by decide +kernel
theorem dX1_shareOut_161 : decode cX1_shareOut 161 = .ok (.istore 8, 2) := by decide +kernel
theorem dX1_shareOut_163 : decode cX1_shareOut 163 = .ok (.iload 7, 2) := by decide +kernel
theorem dX1_shareOut_165 : decode cX1_shareOut 165 = .ok (.iload 8, 2) := by decide +kernel
theorem dX1_shareOut_167 : decode cX1_shareOut 167 = .ok (.iload 6, 2) := by decide +kernel
theorem dX1_shareOut_169 : decode cX1_shareOut 169 = .ok (.invokestatic 111, 3) := by decide +kernel
theorem dX1_shareOut_172 : decode cX1_shareOut 172 = .ok (.iload 10, 2) := by decide +kernel
theorem dX1_shareOut_174 : decode cX1_shareOut 174 = .ok (.isub, 1) := by decide +kernel
theorem dX1_shareOut_175 : decode cX1_shareOut 175 = .ok (.istore 11, 2) := by decide +kernel
theorem dX1_shareOut_177 : decode cX1_shareOut 177 = .ok (.aload_n 0, 1) := by decide +kernel
theorem dX1_shareOut_178 : decode cX1_shareOut 178 = .ok (.getfield 28, 3) := by decide +kernel
theorem dX1_shareOut_181 : decode cX1_shareOut 181 = .ok (.iload 9, 2) := by decide +kernel
theorem dX1_shareOut_183 : decode cX1_shareOut 183 = .ok (.aload_n 0, 1) := by decide +kernel
theorem dX1_shareOut_184 : decode cX1_shareOut 184 = .ok (.getfield 41, 3) := by decide +kernel
theorem dX1_shareOut_187 : decode cX1_shareOut 187 = .ok (.getfield 98, 3) := by decide +kernel
theorem dX1_shareOut_190 : decode cX1_shareOut 190 = .ok (.iload 9, 2) := by decide +kernel
theorem dX1_shareOut_192 : decode cX1_shareOut 192 = .ok (.iaload, 1) := by decide +kernel
theorem dX1_shareOut_193 : decode cX1_shareOut 193 = .ok (.iload 4, 2) := by decide +kernel
theorem dX1_shareOut_195 : decode cX1_shareOut 195 = .ok (.ifCond .eq 8, 3) := by decide +kernel
theorem dX1_shareOut_198 : decode cX1_shareOut 198 = .ok (.iload 11, 2) := by decide +kernel
theorem dX1_shareOut_200 : decode cX1_shareOut 200 = .ok (.goto 6, 3) := by decide +kernel
theorem dX1_shareOut_203 : decode cX1_shareOut 203 = .ok (.iload 11, 2) := by decide +kernel
theorem dX1_shareOut_205 : decode cX1_shareOut 205 = .ok (.ineg, 1) := by decide +kernel
theorem dX1_shareOut_206 : decode cX1_shareOut 206 = .ok (.iadd, 1) := by decide +kernel
theorem dX1_shareOut_207 : decode cX1_shareOut 207 = .ok (.iastore, 1) := by decide +kernel
theorem dX1_shareOut_208 : decode cX1_shareOut 208 = .ok (.iinc 9 1, 3) := by decide +kernel
theorem dX1_shareOut_211 : decode cX1_shareOut 211 = .ok (.goto (-92), 3) := by decide +kernel
theorem dX1_shareOut_214 : decode cX1_shareOut 214 = .ok (.return_, 1) := by decide +kernel
theorem dX1_part_0 : decode cX1_part 0 = .ok (.iload_n 2, 1) := by decide +kernel
theorem dX1_part_1 : decode cX1_part 1 = .ok (.ifCond .le 13, 3) := by decide +kernel
theorem dX1_part_4 : decode cX1_part 4 = .ok (.iload_n 0, 1) := by decide +kernel
theorem dX1_part_5 : decode cX1_part 5 = .ok (.iload_n 1, 1) := by decide +kernel
theorem dX1_part_6 : decode cX1_part 6 = .ok (.imul, 1) := by decide +kernel
theorem dX1_part_7 : decode cX1_part 7 = .ok (.iload_n 2, 1) := by decide +kernel
theorem dX1_part_8 : decode cX1_part 8 = .ok (.invokestatic 115, 3) := by decide +kernel
theorem dX1_part_11 : decode cX1_part 11 = .ok (.goto 4, 3) := by decide +kernel
theorem dX1_part_14 : decode cX1_part 14 = .ok (.iconst 0, 1) := by decide +kernel
theorem dX1_part_15 : decode cX1_part 15 = .ok (.ireturn, 1) := by decide +kernel
theorem dX1_freezeCorrected_0 : decode cX1_freezeCorrected 0 = .ok (.iconst 0, 1) := by decide +kernel
theorem dX1_freezeCorrected_1 : decode cX1_freezeCorrected 1 = .ok (.istore 4, 2) := by decide +kernel
theorem dX1_freezeCorrected_3 : decode cX1_freezeCorrected 3 = .ok (.iload_n 1, 1) := by decide +kernel
theorem dX1_freezeCorrected_4 : decode cX1_freezeCorrected 4 = .ok (.istore 5, 2) := by decide +kernel
theorem dX1_freezeCorrected_6 : decode cX1_freezeCorrected 6 = .ok (.iload 5, 2) := by decide +kernel
theorem dX1_freezeCorrected_8 : decode cX1_freezeCorrected 8 = .ok (.iload_n 2, 1) := by decide +kernel
theorem dX1_freezeCorrected_9 : decode cX1_freezeCorrected 9 = .ok (.if_icmp .ge 93, 3) := by decide +kernel
theorem dX1_freezeCorrected_12 : decode cX1_freezeCorrected 12 = .ok (.aload_n 0, 1) := by decide +kernel
theorem dX1_freezeCorrected_13 : decode cX1_freezeCorrected 13 = .ok (.getfield 31, 3) := by decide +kernel
theorem dX1_freezeCorrected_16 : decode cX1_freezeCorrected 16 = .ok (.iload 5, 2) := by decide +kernel
theorem dX1_freezeCorrected_18 : decode cX1_freezeCorrected 18 = .ok (.iaload, 1) := by decide +kernel
theorem dX1_freezeCorrected_19 : decode cX1_freezeCorrected 19 = .ok (.iconst (-1), 1) := by decide +kernel
theorem dX1_freezeCorrected_20 : decode cX1_freezeCorrected 20 = .ok (.if_icmp .ne 76, 3) := by decide +kernel
theorem dX1_freezeCorrected_23 : decode cX1_freezeCorrected 23 = .ok (.aload_n 0, 1) := by decide +kernel
theorem dX1_freezeCorrected_24 : decode cX1_freezeCorrected 24 = .ok (.getfield 28, 3) := by decide +kernel
theorem dX1_freezeCorrected_27 : decode cX1_freezeCorrected 27 = .ok (.iload 5, 2) := by decide +kernel
theorem dX1_freezeCorrected_29 : decode cX1_freezeCorrected 29 = .ok (.iaload, 1) := by decide +kernel
theorem dX1_freezeCorrected_30 : decode cX1_freezeCorrected 30 = .ok (.istore 6, 2) := by decide +kernel
theorem dX1_freezeCorrected_32 : decode cX1_freezeCorrected 32 = .ok (.aload_n 0, 1) := by decide +kernel
theorem dX1_freezeCorrected_33 : decode cX1_freezeCorrected 33 = .ok (.getfield 28, 3) := by decide +kernel
theorem dX1_freezeCorrected_36 : decode cX1_freezeCorrected 36 = .ok (.iload 5, 2) := by decide +kernel
theorem dX1_freezeCorrected_38 : decode cX1_freezeCorrected 38 = .ok (.iload 6, 2) := by decide +kernel
theorem dX1_freezeCorrected_40 : decode cX1_freezeCorrected 40 = .ok (.aload_n 0, 1) := by decide +kernel
theorem dX1_freezeCorrected_41 : decode cX1_freezeCorrected 41 = .ok (.getfield 41, 3) := by decide +kernel
theorem dX1_freezeCorrected_44 : decode cX1_freezeCorrected 44 = .ok (.getfield 118, 3) := by decide +kernel
theorem dX1_freezeCorrected_47 : decode cX1_freezeCorrected 47 = .ok (.iload 5, 2) := by decide +kernel
theorem dX1_freezeCorrected_49 : decode cX1_freezeCorrected 49 = .ok (.iaload, 1) := by decide +kernel
theorem dX1_freezeCorrected_50 : decode cX1_freezeCorrected 50 = .ok (.invokestatic 105, 3) := by decide +kernel
theorem dX1_freezeCorrected_53 : decode cX1_freezeCorrected 53 = .ok (.aload_n 0, 1) := by decide +kernel
theorem dX1_freezeCorrected_54 : decode cX1_freezeCorrected 54 = .ok (.getfield 41, 3) := by decide +kernel
theorem dX1_freezeCorrected_57 : decode cX1_freezeCorrected 57 = .ok (.getfield 121, 3) := by decide +kernel
theorem dX1_freezeCorrected_60 : decode cX1_freezeCorrected 60 = .ok (.iload 5, 2) := by decide +kernel
theorem dX1_freezeCorrected_62 : decode cX1_freezeCorrected 62 = .ok (.iaload, 1) := by decide +kernel
theorem dX1_freezeCorrected_63 : decode cX1_freezeCorrected 63 = .ok (.invokestatic 124, 3) := by decide +kernel
theorem dX1_freezeCorrected_66 : decode cX1_freezeCorrected 66 = .ok (.iastore, 1) := by decide +kernel
theorem dX1_freezeCorrected_67 : decode cX1_freezeCorrected 67 = .ok (.aload_n 0, 1) := by decide +kernel
theorem dX1_freezeCorrected_68 : decode cX1_freezeCorrected 68 = .ok (.getfield 34, 3) := by decide +kernel
theorem dX1_freezeCorrected_71 : decode cX1_freezeCorrected 71 = .ok (.iload 5, 2) := by decide +kernel
theorem dX1_freezeCorrected_73 : decode cX1_freezeCorrected 73 = .ok (.aload_n 0, 1) := by decide +kernel
theorem dX1_freezeCorrected_74 : decode cX1_freezeCorrected 74 = .ok (.getfield 28, 3) := by decide +kernel
theorem dX1_freezeCorrected_77 : decode cX1_freezeCorrected 77 = .ok (.iload 5, 2) := by decide +kernel
theorem dX1_freezeCorrected_79 : decode cX1_freezeCorrected 79 = .ok (.iaload, 1) := by decide +kernel
theorem dX1_freezeCorrected_80 : decode cX1_freezeCorrected 80 = .ok (.iload 6, 2) := by decide +kernel
theorem dX1_freezeCorrected_82 : decode cX1_freezeCorrected 82 = .ok (.isub, 1) := by decide +kernel
theorem dX1_freezeCorrected_83 : decode cX1_freezeCorrected 83 = .ok (.iastore, 1) := by decide +kernel
theorem dX1_freezeCorrected_84 : decode cX1_freezeCorrected 84 = .ok (.iload 4, 2) := by decide +kernel
theorem dX1_freezeCorrected_86 : decode cX1_freezeCorrected 86 = .ok (.aload_n 0, 1) := by decide +kernel
theorem dX1_freezeCorrected_87 : decode cX1_freezeCorrected 87 = .ok (.getfield 34, 3) := by decide +kernel
theorem dX1_freezeCorrected_90 : decode cX1_freezeCorrected 90 = .ok (.iload 5, 2) := by decide +kernel
theorem dX1_freezeCorrected_92 : decode cX1_freezeCorrected 92 = .ok (.iaload, 1) := by decide +kernel
theorem dX1_freezeCorrected_93 : decode cX1_freezeCorrected 93 = .ok (.iadd, 1) := by decide +kernel
theorem dX1_freezeCorrected_94 : decode cX1_freezeCorrected 94 = .ok (.istore 4, 2) := by decide +kernel
theorem dX1_freezeCorrected_96 : decode cX1_freezeCorrected 96 = .ok (.iinc 5 1, 3) := by decide +kernel
theorem dX1_freezeCorrected_99 : decode cX1_freezeCorrected 99 = .ok (.goto (-93), 3) := by decide +kernel
theorem dX1_freezeCorrected_102 : decode cX1_freezeCorrected 102 = .ok (.iload_n 1, 1) := by decide +kernel
theorem dX1_freezeCorrected_103 : decode cX1_freezeCorrected 103 = .ok (.istore 5, 2) := by decide +kernel
theorem dX1_freezeCorrected_105 : decode cX1_freezeCorrected 105 = .ok (.iload 5, 2) := by decide +kernel
theorem dX1_freezeCorrected_107 : decode cX1_freezeCorrected 107 = .ok (.iload_n 2, 1) := by decide +kernel
theorem dX1_freezeCorrected_108 : decode cX1_freezeCorrected 108 = .ok (.if_icmp .ge 75, 3) := by decide +kernel
theorem dX1_freezeCorrected_111 : decode cX1_freezeCorrected 111 = .ok (.iload 4, 2) := by decide +kernel
theorem dX1_freezeCorrected_113 : decode cX1_freezeCorrected 113 = .ok (.ifCond .le 13, 3) := by decide +kernel
theorem dX1_freezeCorrected_116 : decode cX1_freezeCorrected 116 = .ok (.aload_n 0, 1) := by decide +kernel
theorem dX1_freezeCorrected_117 : decode cX1_freezeCorrected 117 = .ok (.getfield 34, 3) := by decide +kernel
theorem dX1_freezeCorrected_120 : decode cX1_freezeCorrected 120 = .ok (.iload 5, 2) := by decide +kernel
theorem dX1_freezeCorrected_122 : decode cX1_freezeCorrected 122 = .ok (.iaload, 1) := by decide +kernel
theorem dX1_freezeCorrected_123 : decode cX1_freezeCorrected 123 = .ok (.ifCond .gt 18, 3) := by decide +kernel
theorem dX1_freezeCorrected_126 : decode cX1_freezeCorrected 126 = .ok (.iload 4, 2) := by decide +kernel
theorem dX1_freezeCorrected_128 : decode cX1_freezeCorrected 128 = .ok (.ifCond .ge 17, 3) := by decide +kernel
theorem dX1_freezeCorrected_131 : decode cX1_freezeCorrected 131 = .ok (.aload_n 0, 1) := by decide +kernel
theorem dX1_freezeCorrected_132 : decode cX1_freezeCorrected 132 = .ok (.getfield 34, 3) := by decide +kernel
theorem dX1_freezeCorrected_135 : decode cX1_freezeCorrected 135 = .ok (.iload 5, 2) := by decide +kernel
theorem dX1_freezeCorrected_137 : decode cX1_freezeCorrected 137 = .ok (.iaload, 1) := by decide +kernel
theorem dX1_freezeCorrected_138 : decode cX1_freezeCorrected 138 = .ok (.ifCond .ge 7, 3) := by decide +kernel
theorem dX1_freezeCorrected_141 : decode cX1_freezeCorrected 141 = .ok (.iconst 1, 1) := by decide +kernel
theorem dX1_freezeCorrected_142 : decode cX1_freezeCorrected 142 = .ok (.goto 4, 3) := by decide +kernel
theorem dX1_freezeCorrected_145 : decode cX1_freezeCorrected 145 = .ok (.iconst 0, 1) := by decide +kernel
theorem dX1_freezeCorrected_146 : decode cX1_freezeCorrected 146 = .ok (.istore 6, 2) := by decide +kernel
theorem dX1_freezeCorrected_148 : decode cX1_freezeCorrected 148 = .ok (.aload_n 0, 1) := by decide +kernel
theorem dX1_freezeCorrected_149 : decode cX1_freezeCorrected 149 = .ok (.getfield 31, 3) := by decide +kernel
theorem dX1_freezeCorrected_152 : decode cX1_freezeCorrected 152 = .ok (.iload 5, 2) := by decide +kernel
theorem dX1_freezeCorrected_154 : decode cX1_freezeCorrected 154 = .ok (.iaload, 1) := by decide +kernel
theorem dX1_freezeCorrected_155 : decode cX1_freezeCorrected 155 = .ok (.iconst (-1), 1) := by decide +kernel
theorem dX1_freezeCorrected_156 : decode cX1_freezeCorrected 156 = .ok (.if_icmp .ne 21, 3) := by decide +kernel
theorem dX1_freezeCorrected_159 : decode cX1_freezeCorrected 159 = .ok (.iload 4, 2) := by decide +kernel
theorem dX1_freezeCorrected_161 : decode cX1_freezeCorrected 161 = .ok (.ifCond .eq 8, 3) := by decide +kernel
theorem dX1_freezeCorrected_164 : decode cX1_freezeCorrected 164 = .ok (.iload 6, 2) := by decide +kernel
theorem dX1_freezeCorrected_166 : decode cX1_freezeCorrected 166 = .ok (.ifCond .eq 11, 3) := by decide +kernel
theorem dX1_freezeCorrected_169 : decode cX1_freezeCorrected 169 = .ok (.aload_n 0, 1) := by decide +kernel
theorem dX1_freezeCorrected_170 : decode cX1_freezeCorrected 170 = .ok (.getfield 31, 3) := by decide +kernel
theorem dX1_freezeCorrected_173 : decode cX1_freezeCorrected 173 = .ok (.iload 5, 2) := by decide +kernel
theorem dX1_freezeCorrected_175 : decode cX1_freezeCorrected 175 = .ok (.iload_n 3, 1) := by decide +kernel
theorem dX1_freezeCorrected_176 : decode cX1_freezeCorrected 176 = .ok (.iastore, 1) := by decide +kernel
theorem dX1_freezeCorrected_177 : decode cX1_freezeCorrected 177 = .ok (.iinc 5 1, 3) := by decide +kernel
theorem dX1_freezeCorrected_180 : decode cX1_freezeCorrected 180 = .ok (.goto (-75), 3) := by decide +kernel
theorem dX1_freezeCorrected_183 : decode cX1_freezeCorrected 183 = .ok (.return_, 1) := by decide +kernel
theorem dX2_init_0 : decode cX2_init 0 = .ok (.aload_n 0, 1) := by decide +kernel
theorem dX2_init_1 : decode cX2_init 1 = .ok (.invokespecial 3, 3) := by decide +kernel
theorem dX2_init_4 : decode cX2_init 4 = .ok (.aload_n 0, 1) := by decide +kernel
theorem dX2_init_5 : decode cX2_init 5 = .ok (.bipush 16, 2) := by decide +kernel
theorem dX2_init_7 : decode cX2_init 7 = .ok (.newarray .int, 2) := by decide +kernel
theorem dX2_init_9 : decode cX2_init 9 = .ok (.putfield 9, 3) := by decide +kernel
theorem dX2_init_12 : decode cX2_init 12 = .ok (.aload_n 0, 1) := by decide +kernel
theorem dX2_init_13 : decode cX2_init 13 = .ok (.bipush 16, 2) := by decide +kernel
theorem dX2_init_15 : decode cX2_init 15 = .ok (.newarray .int, 2) := by decide +kernel
theorem dX2_init_17 : decode cX2_init 17 = .ok (.putfield 15, 3) := by decide +kernel
theorem dX2_init_20 : decode cX2_init 20 = .ok (.aload_n 0, 1) := by decide +kernel
theorem dX2_init_21 : decode cX2_init 21 = .ok (.bipush 16, 2) := by decide +kernel
theorem dX2_init_23 : decode cX2_init 23 = .ok (.newarray .int, 2) := by decide +kernel
theorem dX2_init_25 : decode cX2_init 25 = .ok (.putfield 18, 3) := by decide +kernel
theorem dX2_init_28 : decode cX2_init 28 = .ok (.aload_n 0, 1) := by decide +kernel
theorem dX2_init_29 : decode cX2_init 29 = .ok (.bipush 16, 2) := by decide +kernel
theorem dX2_init_31 : decode cX2_init 31 = .ok (.newarray .int, 2) := by decide +kernel
theorem dX2_init_33 : decode cX2_init 33 = .ok (.putfield 21, 3) := by decide +kernel
theorem dX2_init_36 : decode cX2_init 36 = .ok (.aload_n 0, 1) := by decide +kernel
theorem dX2_init_37 : decode cX2_init 37 = .ok (.bipush 16, 2) := by decide +kernel
theorem dX2_init_39 : decode cX2_init 39 = .ok (.newarray .int, 2) := by decide +kernel
theorem dX2_init_41 : decode cX2_init 41 = .ok (.putfield 24, 3) := by decide +kernel
theorem dX2_init_44 : decode cX2_init 44 = .ok (.aload_n 0, 1) := by decide +kernel
theorem dX2_init_45 : decode cX2_init 45 = .ok (.bipush 16, 2) := by decide +kernel
theorem dX2_init_47 : decode cX2_init 47 = .ok (.newarray .int, 2) := by decide +kernel
theorem dX2_init_49 : decode cX2_init 49 = .ok (.putfield 27, 3) := by decide +kernel
theorem dX2_init_52 : decode cX2_init 52 = .ok (.aload_n 0, 1) := by decide +kernel
theorem dX2_init_53 : decode cX2_init 53 = .ok (.aload_n 1, 1) := by decide +kernel
theorem dX2_init_54 : decode cX2_init 54 = .ok (.putfield 30, 3) := by decide +kernel
theorem dX2_init_57 : decode cX2_init 57 = .ok (.return_, 1) := by decide +kernel
theorem dX2_sort_0 : decode cX2_sort 0 = .ok (.aload_n 0, 1) := by decide +kernel
theorem dX2_sort_1 : decode cX2_sort 1 = .ok (.iconst 0, 1) := by decide +kernel
theorem dX2_sort_2 : decode cX2_sort 2 = .ok (.putfield 34, 3) := by decide +kernel
theorem dX2_sort_5 : decode cX2_sort 5 = .ok (.iconst 0, 1) := by decide +kernel
theorem dX2_sort_6 : decode cX2_sort 6 = .ok (.istore_n 1, 1) := by decide +kernel
theorem dX2_sort_7 : decode cX2_sort 7 = .ok (.iload_n 1, 1) := by decide +kernel
theorem dX2_sort_8 : decode cX2_sort 8 = .ok (.aload_n 0, 1) := by decide +kernel
theorem dX2_sort_9 : decode cX2_sort 9 = .ok (.getfield 30, 3) := by decide +kernel
theorem dX2_sort_12 : decode cX2_sort 12 = .ok (.getfield 38, 3) := by decide +kernel
theorem dX2_sort_15 : decode cX2_sort 15 = .ok (.if_icmp .ge 27, 3) := by decide +kernel
theorem dX2_sort_18 : decode cX2_sort 18 = .ok (.aload_n 0, 1) := by decide +kernel
theorem dX2_sort_19 : decode cX2_sort 19 = .ok (.getfield 30, 3) := by decide +kernel
theorem dX2_sort_22 : decode cX2_sort 22 = .ok (.iload_n 1, 1) := by decide +kernel
theorem dX2_sort_23 : decode cX2_sort 23 = .ok (.bipush 10, 2) := by decide +kernel
theorem dX2_sort_25 : decode cX2_sort 25 = .ok (.invokevirtual 42, 3) := by decide +kernel
theorem dX2_sort_28 : decode cX2_sort 28 = .ok (.ifCond .ne 8, 3) := by decide +kernel
theorem dX2_sort_31 : decode cX2_sort 31 = .ok (.aload_n 0, 1) := by decide +kernel
theorem dX2_sort_32 : decode cX2_sort 32 = .ok (.iload_n 1, 1) := by decide +kernel
theorem dX2_sort_33 : decode cX2_sort 33 = .ok (.invokevirtual 46, 3) := by decide +kernel
theorem dX2_sort_36 : decode cX2_sort 36 = .ok (.iinc 1 1, 3) := by decide +kernel
theorem dX2_sort_39 : decode cX2_sort 39 = .ok (.goto (-32), 3) := by decide +kernel
theorem dX2_sort_42 : decode cX2_sort 42 = .ok (.iconst 0, 1) := by decide +kernel
theorem dX2_sort_43 : decode cX2_sort 43 = .ok (.istore_n 1, 1) := by decide +kernel
theorem dX2_sort_44 : decode cX2_sort 44 = .ok (.iload_n 1, 1) := by decide +kernel
theorem dX2_sort_45 : decode cX2_sort 45 = .ok (.aload_n 0, 1) := by decide +kernel
theorem dX2_sort_46 : decode cX2_sort 46 = .ok (.getfield 34, 3) := by decide +kernel
theorem dX2_sort_49 : decode cX2_sort 49 = .ok (.if_icmp .ge 89, 3) := by decide +kernel
theorem dX2_sort_52 : decode cX2_sort 52 = .ok (.aload_n 0, 1) := by decide +kernel
theorem dX2_sort_53 : decode cX2_sort 53 = .ok (.getfield 9, 3) := by decide +kernel
theorem dX2_sort_56 : decode cX2_sort 56 = .ok (.iload_n 1, 1) := by decide +kernel
theorem dX2_sort_57 : decode cX2_sort 57 = .ok (.iaload, 1) := by decide +kernel
theorem dX2_sort_58 : decode cX2_sort 58 = .ok (.istore_n 2, 1) := by decide +kernel
theorem dX2_sort_59 : decode cX2_sort 59 = .ok (.aload_n 0, 1) := by decide +kernel
theorem dX2_sort_60 : decode cX2_sort 60 = .ok (.getfield 15, 3) := by decide +kernel
theorem dX2_sort_63 : decode cX2_sort 63 = .ok (.iload_n 1, 1) := by decide +kernel
theorem dX2_sort_64 : decode cX2_sort 64 = .ok (.aload_n 0, 1) := by decide +kernel
theorem dX2_sort_65 : decode cX2_sort 65 = .ok (.getfield 30, 3) := by decide +kernel
theorem dX2_sort_68 : decode cX2_sort 68 = .ok (.iload_n 2, 1) := by decide +kernel
theorem dX2_sort_69 : decode cX2_sort 69 = .ok (.iconst 0, 1) := by decide +kernel
theorem dX2_sort_70 : decode cX2_sort 70 = .ok (.invokevirtual 42, 3) := by decide +kernel
theorem dX2_sort_73 : decode cX2_sort 73 = .ok (.iastore, 1) := by decide +kernel
theorem dX2_sort_74 : decode cX2_sort 74 = .ok (.aload_n 0, 1) := by decide +kernel
theorem dX2_sort_75 : decode cX2_sort 75 = .ok (.getfield 18, 3) := by decide +kernel
theorem dX2_sort_78 : decode cX2_sort 78 = .ok (.iload_n 1, 1) := by decide +kernel
theorem dX2_sort_79 : decode cX2_sort 79 = .ok (.aload_n 0, 1) := by decide +kernel
theorem dX2_sort_80 : decode cX2_sort 80 = .ok (.getfield 30, 3) := by decide +kernel
theorem dX2_sort_83 : decode cX2_sort 83 = .ok (.iload_n 2, 1) := by decide +kernel
theorem dX2_sort_84 : decode cX2_sort 84 = .ok (.iconst 3, 1) := by decide +kernel
theorem dX2_sort_85 : decode cX2_sort 85 = .ok (.invokevirtual 42, 3) := by decide +kernel
theorem dX2_sort_88 : decode cX2_sort 88 = .ok (.iastore, 1) := by decide +kernel
theorem dX2_sort_89 : decode cX2_sort 89 = .ok (.aload_n 0, 1) := by decide +kernel
theorem dX2_sort_90 : decode cX2_sort 90 = .ok (.getfield 21, 3) := by decide +kernel
theorem dX2_sort_93 : decode cX2_sort 93 = .ok (.iload_n 1, 1) := by decide +kernel
theorem dX2_sort_94 : decode cX2_sort 94 = .ok (.aload_n 0, 1) := by decide +kernel
theorem dX2_sort_95 : decode cX2_sort 95 = .ok (.getfield 30, 3) := by decide +kernel
theorem dX2_sort_98 : decode cX2_sort 98 = .ok (.iload_n 2, 1) := by decide +kernel
theorem dX2_sort_99 : decode cX2_sort 99 = .ok (.invokevirtual 50, 3) := by decide +kernel
theorem dX2_sort_102 : decode cX2_sort 102 = .ok (.iastore, 1) := by decide +kernel
theorem dX2_sort_103 : decode cX2_sort 103 = .ok (.aload_n 0, 1) := by decide +kernel
theorem dX2_sort_104 : decode cX2_sort 104 = .ok (.getfield 24, 3) := by decide +kernel
theorem dX2_sort_107 : decode cX2_sort 107 = .ok (.iload_n 1, 1) := by decide +kernel
theorem dX2_sort_108 : decode cX2_sort 108 = .ok (.aload_n 0, 1) := by decide +kernel
theorem dX2_sort_109 : decode cX2_sort 109 = .ok (.getfield 30, 3) := by decide +kernel
theorem dX2_sort_112 : decode cX2_sort 112 = .ok (.iload_n 2, 1) := by decide +kernel
theorem dX2_sort_113 : decode cX2_sort 113 = .ok (.iconst 5, 1) := by decide +kernel
theorem dX2_sort_114 : decode cX2_sort 114 = .ok (.invokevirtual 42, 3) := by decide +kernel
theorem dX2_sort_117 : decode cX2_sort 117 = .ok (.iastore, 1) := by decide +kernel
theorem dX2_sort_118 : decode cX2_sort 118 = .ok (.aload_n 0, 1) := by decide +kernel
theorem dX2_sort_119 : decode cX2_sort 119 = .ok (.getfield 27, 3) := by decide +kernel
theorem dX2_sort_122 : decode cX2_sort 122 = .ok (.iload_n 1, 1) := by decide +kernel
theorem dX2_sort_123 : decode cX2_sort 123 = .ok (.aload_n 0, 1) := by decide +kernel
theorem dX2_sort_124 : decode cX2_sort 124 = .ok (.getfield 30, 3) := by decide +kernel
theorem dX2_sort_127 : decode cX2_sort 127 = .ok (.iload_n 2, 1) := by decide +kernel
theorem dX2_sort_128 : decode cX2_sort 128 = .ok (.invokevirtual 53, 3) := by decide +kernel
theorem dX2_sort_131 : decode cX2_sort 131 = .ok (.iastore, 1) := by decide +kernel
theorem dX2_sort_132 : decode cX2_sort 132 = .ok (.iinc 1 1, 3) := by decide +kernel
theorem dX2_sort_135 : decode cX2_sort 135 = .ok (.goto (-91), 3) := by decide +kernel
theorem dX2_sort_138 : decode cX2_sort 138 = .ok (.return_, 1) := by decide +kernel
theorem dX2_enter_0 : decode cX2_enter 0 = .ok (.aload_n 0, 1) := by decide +kernel
theorem dX2_enter_1 : decode cX2_enter 1 = .ok (.getfield 34, 3) := by decide +kernel
theorem dX2_enter_4 : decode cX2_enter 4 = .ok (.bipush 16, 2) := by decide +kernel
theorem dX2_enter_6 : decode cX2_enter 6 = .ok (.if_icmp .lt 4, 3) := by decide +kernel
theorem dX2_enter_9 : decode cX2_enter 9 = .ok (.return_, 1) := by decide +kernel
theorem dX2_enter_10 : decode cX2_enter 10 = .ok (.aload_n 0, 1) := by decide +kernel
theorem dX2_enter_11 : decode cX2_enter 11 = .ok (.getfield 34, 3) := by decide +kernel
theorem dX2_enter_14 : decode cX2_enter 14 = .ok (.istore_n 2, 1) := by decide +kernel
theorem dX2_enter_15 : decode cX2_enter 15 = .ok (.aload_n 0, 1) := by decide +kernel
theorem dX2_enter_16 : decode cX2_enter 16 = .ok (.getfield 30, 3) := by decide +kernel
theorem dX2_enter_19 : decode cX2_enter 19 = .ok (.iload_n 1, 1) := by decide +kernel
theorem dX2_enter_20 : decode cX2_enter 20 = .ok (.bipush 6, 2) := by decide +kernel
theorem dX2_enter_22 : decode cX2_enter 22 = .ok (.invokevirtual 42, 3) := by decide +kernel
theorem dX2_enter_25 : decode cX2_enter 25 = .ok (.istore_n 3, 1) := by decide +kernel
theorem dX2_enter_26 : decode cX2_enter 26 = .ok (.iload_n 2, 1) := by decide +kernel
theorem dX2_enter_27 : decode cX2_enter 27 = .ok (.ifCond .le 44, 3) := by decide +kernel
theorem dX2_enter_30 : decode cX2_enter 30 = .ok (.aload_n 0, 1) := by decide +kernel
theorem dX2_enter_31 : decode cX2_enter 31 = .ok (.getfield 30, 3) := by decide +kernel
theorem dX2_enter_34 : decode cX2_enter 34 = .ok (.aload_n 0, 1) := by decide +kernel
theorem dX2_enter_35 : decode cX2_enter 35 = .ok (.getfield 9, 3) := by decide +kernel
theorem dX2_enter_38 : decode cX2_enter 38 = .ok (.iload_n 2, 1) := by decide +kernel
theorem dX2_enter_39 : decode cX2_enter 39 = .ok (.iconst 1, 1) := by decide +kernel
theorem dX2_enter_40 : decode cX2_enter 40 = .ok (.isub, 1) := by decide +kernel
theorem dX2_enter_41 : decode cX2_enter 41 = .ok (.iaload, 1) := by decide +kernel
theorem dX2_enter_42 : decode cX2_enter 42 = .ok (.bipush 6, 2) := by decide +kernel
theorem dX2_enter_44 : decode cX2_enter 44 = .ok (.invokevirtual 42, 3) := by decide +kernel
theorem dX2_enter_47 : decode cX2_enter 47 = .ok (.iload_n 3, 1) := by decide +kernel
theorem dX2_enter_48 : decode cX2_enter 48 = .ok (.if_icmp .le 23, 3) := by decide +kernel
theorem dX2_enter_51 : decode cX2_enter 51 = .ok (.aload_n 0, 1) := by decide +kernel
theorem dX2_enter_52 : decode cX2_enter 52 = .ok (.getfield 9, 3) := by decide +kernel
theorem dX2_enter_55 : decode cX2_enter 55 = .ok (.iload_n 2, 1) := by decide +kernel
theorem dX2_enter_56 : decode cX2_enter 56 = .ok (.aload_n 0, 1) := by decide +kernel
theorem dX2_enter_57 : decode cX2_enter 57 = .ok (.getfield 9, 3) := by decide +kernel
theorem dX2_enter_60 : decode cX2_enter 60 = .ok (.iload_n 2, 1) := by decide +kernel
theorem dX2_enter_61 : decode cX2_enter 61 = .ok (.iconst 1, 1) := by decide +kernel
theorem dX2_enter_62 : decode cX2_enter 62 = .ok (.isub, 1) := by decide +kernel
theorem dX2_enter_63 : decode cX2_enter 63 = .ok (.iaload, 1) := by decide +kernel
theorem dX2_enter_64 : decode cX2_enter 64 = .ok (.iastore, 1) := by decide +kernel
theorem dX2_enter_65 : decode cX2_enter 65 = .ok (.iinc 2 (-1), 3) := by decide +kernel
theorem dX2_enter_68 : decode cX2_enter 68 = .ok (.goto (-42), 3) := by decide +kernel
theorem dX2_enter_71 : decode cX2_enter 71 = .ok (.aload_n 0, 1) := by decide +kernel
theorem dX2_enter_72 : decode cX2_enter 72 = .ok (.getfield 9, 3) := by decide +kernel
theorem dX2_enter_75 : decode cX2_enter 75 = .ok (.iload_n 2, 1) := by decide +kernel
theorem dX2_enter_76 : decode cX2_enter 76 = .ok (.iload_n 1, 1) := by decide +kernel
theorem dX2_enter_77 : decode cX2_enter 77 = .ok (.iastore, 1) := by decide +kernel
theorem dX2_enter_78 : decode cX2_enter 78 = .ok (.aload_n 0, 1) := by decide +kernel
theorem dX2_enter_79 : decode cX2_enter 79 = .ok (.dup, 1) := by decide +kernel
theorem dX2_enter_80 : decode cX2_enter 80 = .ok (.getfield 34, 3) := by decide +kernel
theorem dX2_enter_83 : decode cX2_enter 83 = .ok (.iconst 1, 1) := by decide +kernel
theorem dX2_enter_84 : decode cX2_enter 84 = .ok (.iadd, 1) := by decide +kernel
theorem dX2_enter_85 : decode cX2_enter 85 = .ok (.putfield 34, 3) := by decide +kernel
theorem dX2_enter_88 : decode cX2_enter 88 = .ok (.return_, 1) := by decide +kernel
theorem dX2_itemAt_0 : decode cX2_itemAt 0 = .ok (.iload_n 1, 1) := by decide +kernel
theorem dX2_itemAt_1 : decode cX2_itemAt 1 = .ok (.ifCond .lt 20, 3) := by decide +kernel
theorem dX2_itemAt_4 : decode cX2_itemAt 4 = .ok (.iload_n 1, 1) := by decide +kernel
theorem dX2_itemAt_5 : decode cX2_itemAt 5 = .ok (.aload_n 0, 1) := by decide +kernel
theorem dX2_itemAt_6 : decode cX2_itemAt 6 = .ok (.getfield 34, 3) := by decide +kernel
theorem dX2_itemAt_9 : decode cX2_itemAt 9 = .ok (.if_icmp .ge 12, 3) := by decide +kernel
theorem dX2_itemAt_12 : decode cX2_itemAt 12 = .ok (.aload_n 0, 1) := by decide +kernel
theorem dX2_itemAt_13 : decode cX2_itemAt 13 = .ok (.getfield 9, 3) := by decide +kernel
theorem dX2_itemAt_16 : decode cX2_itemAt 16 = .ok (.iload_n 1, 1) := by decide +kernel
theorem dX2_itemAt_17 : decode cX2_itemAt 17 = .ok (.iaload, 1) := by decide +kernel
theorem dX2_itemAt_18 : decode cX2_itemAt 18 = .ok (.goto 6, 3) := by decide +kernel
theorem dX2_itemAt_21 : decode cX2_itemAt 21 = .ok (.sipush (-1001), 3) := by decide +kernel
theorem dX2_itemAt_24 : decode cX2_itemAt 24 = .ok (.ireturn, 1) := by decide +kernel
theorem dX2_placeOf_0 : decode cX2_placeOf 0 = .ok (.iconst 0, 1) := by decide +kernel
theorem dX2_placeOf_1 : decode cX2_placeOf 1 = .ok (.istore_n 2, 1) := by decide +kernel
theorem dX2_placeOf_2 : decode cX2_placeOf 2 = .ok (.iload_n 2, 1) := by decide +kernel
theorem dX2_placeOf_3 : decode cX2_placeOf 3 = .ok (.aload_n 0, 1) := by decide +kernel
theorem dX2_placeOf_4 : decode cX2_placeOf 4 = .ok (.getfield 34, 3) := by decide +kernel
theorem dX2_placeOf_7 : decode cX2_placeOf 7 = .ok (.if_icmp .ge 21, 3) := by decide +kernel
theorem dX2_placeOf_10 : decode cX2_placeOf 10 = .ok (.aload_n 0, 1) := by decide +kernel
theorem dX2_placeOf_11 : decode cX2_placeOf 11 = .ok (.getfield 9, 3) := by decide +kernel
theorem dX2_placeOf_14 : decode cX2_placeOf 14 = .ok (.iload_n 2, 1) := by decide +kernel
theorem dX2_placeOf_15 : decode cX2_placeOf 15 = .ok (.iaload, 1) := by decide +kernel
theorem dX2_placeOf_16 : decode cX2_placeOf 16 = .ok (.iload_n 1, 1) := by decide +kernel
theorem dX2_placeOf_17 : decode cX2_placeOf 17 = .ok (.if_icmp .ne 5, 3) := by decide +kernel
theorem dX2_placeOf_20 : decode cX2_placeOf 20 = .ok (.iload_n 2, 1) := by decide +kernel
theorem dX2_placeOf_21 : decode cX2_placeOf 21 = .ok (.ireturn, 1) := by decide +kernel
theorem dX2_placeOf_22 : decode cX2_placeOf 22 = .ok (.iinc 2 1, 3) := by decide +kernel
theorem dX2_placeOf_25 : decode cX2_placeOf 25 = .ok (.goto (-23), 3) := by decide +kernel
theorem dX2_placeOf_28 : decode cX2_placeOf 28 = .ok (.sipush (-1001), 3) := by decide +kernel
theorem dX2_placeOf_31 : decode cX2_placeOf 31 = .ok (.ireturn, 1) := by decide +kernel
theorem dX2_outerWish_0 : decode cX2_outerWish 0 = .ok (.aload_n 0, 1) := by decide +kernel
theorem dX2_outerWish_1 : decode cX2_outerWish 1 = .ok (.getfield 27, 3) := by decide +kernel
theorem dX2_outerWish_4 : decode cX2_outerWish 4 = .ok (.iload_n 1, 1) := by decide +kernel
theorem dX2_outerWish_5 : decode cX2_outerWish 5 = .ok (.iaload, 1) := by decide +kernel
theorem dX2_outerWish_6 : decode cX2_outerWish 6 = .ok (.iconst 2, 1) := by decide +kernel
theorem dX2_outerWish_7 : decode cX2_outerWish 7 = .ok (.aload_n 0, 1) := by decide +kernel
theorem dX2_outerWish_8 : decode cX2_outerWish 8 = .ok (.getfield 24, 3) := by decide +kernel
theorem dX2_outerWish_11 : decode cX2_outerWish 11 = .ok (.iload_n 1, 1) := by decide +kernel
theorem dX2_outerWish_12 : decode cX2_outerWish 12 = .ok (.iaload, 1) := by decide +kernel
theorem dX2_outerWish_13 : decode cX2_outerWish 13 = .ok (.imul, 1) := by decide +kernel
theorem dX2_outerWish_14 : decode cX2_outerWish 14 = .ok (.iadd, 1) := by decide +kernel
theorem dX2_outerWish_15 : decode cX2_outerWish 15 = .ok (.ireturn, 1) := by decide +kernel
theorem dX2_weight_0 : decode cX2_weight 0 = .ok (.aload_n 0, 1) := by decide +kernel
theorem dX2_weight_1 : decode cX2_weight 1 = .ok (.getfield 9, 3) := by decide +kernel
theorem dX2_weight_4 : decode cX2_weight 4 = .ok (.iload_n 1, 1) := by decide +kernel
theorem dX2_weight_5 : decode cX2_weight 5 = .ok (.iaload, 1) := by decide +kernel
theorem dX2_weight_6 : decode cX2_weight 6 = .ok (.istore_n 3, 1) := by decide +kernel
theorem dX2_weight_7 : decode cX2_weight 7 = .ok (.iload_n 2, 1) := by decide +kernel
theorem dX2_weight_8 : decode cX2_weight 8 = .ok (.ifCond .eq 15, 3) := by decide +kernel
theorem dX2_weight_11 : decode cX2_weight 11 = .ok (.aload_n 0, 1) := by decide +kernel
theorem dX2_weight_12 : decode cX2_weight 12 = .ok (.getfield 30, 3) := by decide +kernel
theorem dX2_weight_15 : decode cX2_weight 15 = .ok (.iload_n 3, 1) := by decide +kernel
theorem dX2_weight_16 : decode cX2_weight 16 = .ok (.iconst 1, 1) := by decide +kernel
theorem dX2_weight_17 : decode cX2_weight 17 = .ok (.invokevirtual 42, 3) := by decide +kernel
theorem dX2_weight_20 : decode cX2_weight 20 = .ok (.goto 19, 3) := by decide +kernel
theorem dX2_weight_23 : decode cX2_weight 23 = .ok (.aload_n 0, 1) := by decide +kernel
theorem dX2_weight_24 : decode cX2_weight 24 = .ok (.getfield 30, 3) := by decide +kernel
theorem dX2_weight_27 : decode cX2_weight 27 = .ok (.iload_n 3, 1) := by decide +kernel
theorem dX2_weight_28 : decode cX2_weight 28 = .ok (.iconst 2, 1) := by decide +kernel
theorem dX2_weight_29 : decode cX2_weight 29 = .ok (.invokevirtual 42, 3) := by decide +kernel
theorem dX2_weight_32 : decode cX2_weight 32 = .ok (.aload_n 0, 1) := by decide +kernel
theorem dX2_weight_33 : decode cX2_weight 33 = .ok (.getfield 15, 3) := by decide +kernel
theorem dX2_weight_36 : decode cX2_weight 36 = .ok (.iload_n 1, 1) := by decide +kernel
theorem dX2_weight_37 : decode cX2_weight 37 = .ok (.iaload, 1) := by decide +kernel
theorem dX2_weight_38 : decode cX2_weight 38 = .ok (.imul, 1) := by decide +kernel
theorem dX2_weight_39 : decode cX2_weight 39 = .ok (.ireturn, 1) := by decide +kernel
theorem dX2_isStiff_0 : decode cX2_isStiff 0 = .ok (.aload_n 0, 1) := by decide +kernel
theorem dX2_isStiff_1 : decode cX2_isStiff 1 = .ok (.getfield 9, 3) := by decide +kernel
theorem dX2_isStiff_4 : decode cX2_isStiff 4 = .ok (.iload_n 1, 1) := by decide +kernel
theorem dX2_isStiff_5 : decode cX2_isStiff 5 = .ok (.iaload, 1) := by decide +kernel
theorem dX2_isStiff_6 : decode cX2_isStiff 6 = .ok (.istore_n 3, 1) := by decide +kernel
theorem dX2_isStiff_7 : decode cX2_isStiff 7 = .ok (.iload_n 2, 1) := by decide +kernel
theorem dX2_isStiff_8 : decode cX2_isStiff 8 = .ok (.ifCond .eq 36, 3) := by decide +kernel
theorem dX2_isStiff_11 : decode cX2_isStiff 11 = .ok (.aload_n 0, 1) := by decide +kernel
theorem dX2_isStiff_12 : decode cX2_isStiff 12 = .ok (.getfield 30, 3) := by decide +kernel
theorem dX2_isStiff_15 : decode cX2_isStiff 15 = .ok (.iload_n 3, 1) := by decide +kernel
theorem dX2_isStiff_16 : decode cX2_isStiff 16 = .ok (.iconst 1, 1) := by decide +kernel
theorem dX2_isStiff_17 : decode cX2_isStiff 17 = .ok (.invokevirtual 42, 3) := by decide +kernel
theorem dX2_isStiff_20 : decode cX2_isStiff 20 = .ok (.ifCond .eq 18, 3) := by decide +kernel
theorem dX2_isStiff_23 : decode cX2_isStiff 23 = .ok (.aload_n 0, 1) := by decide +kernel
theorem dX2_isStiff_24 : decode cX2_isStiff 24 = .ok (.getfield 15, 3) := by decide +kernel
theorem dX2_isStiff_27 : decode cX2_isStiff 27 = .ok (.iload_n 1, 1) := by decide +kernel
theorem dX2_isStiff_28 : decode cX2_isStiff 28 = .ok (.iaload, 1) := by decide +kernel
theorem dX2_isStiff_29 : decode cX2_isStiff 29 = .ok (.aload_n 0, 1) := by decide +kernel
theorem dX2_isStiff_30 : decode cX2_isStiff 30 = .ok (.getfield 27, 3) := by decide +kernel
theorem dX2_isStiff_33 : decode cX2_isStiff 33 = .ok (.iload_n 1, 1) := by decide +kernel
theorem dX2_isStiff_34 : decode cX2_isStiff 34 = .ok (.iaload, 1) := by decide +kernel
theorem dX2_isStiff_35 : decode cX2_isStiff 35 = .ok (.if_icmp .le 7, 3) := by decide +kernel
theorem dX2_isStiff_38 : decode cX2_isStiff 38 = .ok (.iconst 1, 1) := by decide +kernel
theorem dX2_isStiff_39 : decode cX2_isStiff 39 = .ok (.goto 4, 3) := by decide +kernel
theorem dX2_isStiff_42 : decode cX2_isStiff 42 = .ok (.iconst 0, 1) := by decide +kernel
theorem dX2_isStiff_43 : decode cX2_isStiff 43 = .ok (.ireturn, 1) := by decide +kernel
theorem dX2_isStiff_44 : decode cX2_isStiff 44 = .ok (.aload_n 0, 1) := by decide +kernel
theorem dX2_isStiff_45 : decode cX2_isStiff 45 = .ok (.getfield 30, 3) := by decide +kernel
theorem dX2_isStiff_48 : decode cX2_isStiff 48 = .ok (.iload_n 3, 1) := by decide +kernel
theorem dX2_isStiff_49 : decode cX2_isStiff 49 = .ok (.iconst 2, 1) := by decide +kernel
theorem dX2_isStiff_50 : decode cX2_isStiff 50 = .ok (.invokevirtual 42, 3) := by decide +kernel
theorem dX2_isStiff_53 : decode cX2_isStiff 53 = .ok (.ifCond .eq 18, 3) := by decide +kernel
theorem dX2_isStiff_56 : decode cX2_isStiff 56 = .ok (.aload_n 0, 1) := by decide +kernel
theorem dX2_isStiff_57 : decode cX2_isStiff 57 = .ok (.getfield 15, 3) := by decide +kernel
theorem dX2_isStiff_60 : decode cX2_isStiff 60 = .ok (.iload_n 1, 1) := by decide +kernel
theorem dX2_isStiff_61 : decode cX2_isStiff 61 = .ok (.iaload, 1) := by decide +kernel
theorem dX2_isStiff_62 : decode cX2_isStiff 62 = .ok (.aload_n 0, 1) := by decide +kernel
theorem dX2_isStiff_63 : decode cX2_isStiff 63 = .ok (.getfield 27, 3) := by decide +kernel
theorem dX2_isStiff_66 : decode cX2_isStiff 66 = .ok (.iload_n 1, 1) := by decide +kernel
theorem dX2_isStiff_67 : decode cX2_isStiff 67 = .ok (.iaload, 1) := by decide +kernel
theorem dX2_isStiff_68 : decode cX2_isStiff 68 = .ok (.if_icmp .ge 7, 3) := by decide +kernel
theorem dX2_isStiff_71 : decode cX2_isStiff 71 = .ok (.iconst 1, 1) := by decide +kernel
theorem dX2_isStiff_72 : decode cX2_isStiff 72 = .ok (.goto 4, 3) := by decide +kernel
theorem dX2_isStiff_75 : decode cX2_isStiff 75 = .ok (.iconst 0, 1) := by decide +kernel
theorem dX2_isStiff_76 : decode cX2_isStiff 76 = .ok (.ireturn, 1) := by decide +kernel
theorem dX3_init_0 : decode cX3_init 0 = .ok (.aload_n 0, 1) := by decide +kernel
theorem dX3_init_1 : decode cX3_init 1 = .ok (.invokespecial 3, 3) := by decide +kernel
theorem dX3_init_4 : decode cX3_init 4 = .ok (.aload_n 0, 1) := by decide +kernel
theorem dX3_init_5 : decode cX3_init 5 = .ok (.bipush 16, 2) := by decide +kernel
theorem dX3_init_7 : decode cX3_init 7 = .ok (.newarray .int, 2) := by decide +kernel
theorem dX3_init_9 : decode cX3_init 9 = .ok (.putfield 9, 3) := by decide +kernel
theorem dX3_init_12 : decode cX3_init 12 = .ok (.aload_n 0, 1) := by decide +kernel
theorem dX3_init_13 : decode cX3_init 13 = .ok (.bipush 16, 2) := by decide +kernel
theorem dX3_init_15 : decode cX3_init 15 = .ok (.newarray .int, 2) := by decide +kernel
theorem dX3_init_17 : decode cX3_init 17 = .ok (.putfield 15, 3) := by decide +kernel
theorem dX3_init_20 : decode cX3_init 20 = .ok (.aload_n 0, 1) := by decide +kernel
theorem dX3_init_21 : decode cX3_init 21 = .ok (.bipush 16, 2) := by decide +kernel
theorem dX3_init_23 : decode cX3_init 23 = .ok (.newarray .int, 2) := by decide +kernel
theorem dX3_init_25 : decode cX3_init 25 = .ok (.putfield 18, 3) := by decide +kernel
theorem dX3_init_28 : decode cX3_init 28 = .ok (.aload_n 0, 1) := by decide +kernel
theorem dX3_init_29 : decode cX3_init 29 = .ok (.bipush 16, 2) := by decide +kernel
theorem dX3_init_31 : decode cX3_init 31 = .ok (.newarray .int, 2) := by decide +kernel
theorem dX3_init_33 : decode cX3_init 33 = .ok (.putfield 21, 3) := by decide +kernel
theorem dX3_init_36 : decode cX3_init 36 = .ok (.aload_n 0, 1) := by decide +kernel
theorem dX3_init_37 : decode cX3_init 37 = .ok (.aload_n 1, 1) := by decide +kernel
theorem dX3_init_38 : decode cX3_init 38 = .ok (.putfield 24, 3) := by decide +kernel
theorem dX3_init_41 : decode cX3_init 41 = .ok (.aload_n 0, 1) := by decide +kernel
theorem dX3_init_42 : decode cX3_init 42 = .ok (.aload_n 2, 1) := by decide +kernel
theorem dX3_init_43 : decode cX3_init 43 = .ok (.putfield 28, 3) := by decide +kernel
theorem dX3_init_46 : decode cX3_init 46 = .ok (.aload_n 0, 1) := by decide +kernel
theorem dX3_init_47 : decode cX3_init 47 = .ok (.aload_n 3, 1) := by decide +kernel
theorem dX3_init_48 : decode cX3_init 48 = .ok (.putfield 32, 3) := by decide +kernel
theorem dX3_init_51 : decode cX3_init 51 = .ok (.return_, 1) := by decide +kernel
theorem dX3_find_0 : decode cX3_find 0 = .ok (.aload_n 0, 1) := by decide +kernel
theorem dX3_find_1 : decode cX3_find 1 = .ok (.iconst 0, 1) := by decide +kernel
theorem dX3_find_2 : decode cX3_find 2 = .ok (.putfield 36, 3) := by decide +kernel
theorem dX3_find_5 : decode cX3_find 5 = .ok (.iconst 0, 1) := by decide +kernel
theorem dX3_find_6 : decode cX3_find 6 = .ok (.istore_n 1, 1) := by decide +kernel
theorem dX3_find_7 : decode cX3_find 7 = .ok (.iload_n 1, 1) := by decide +kernel
theorem dX3_find_8 : decode cX3_find 8 = .ok (.aload_n 0, 1) := by decide +kernel
theorem dX3_find_9 : decode cX3_find 9 = .ok (.getfield 32, 3) := by decide +kernel
theorem dX3_find_12 : decode cX3_find 12 = .ok (.getfield 40, 3) := by decide +kernel
theorem dX3_find_15 : decode cX3_find 15 = .ok (.if_icmp .ge 54, 3) := by decide +kernel
theorem dX3_find_18 : decode cX3_find 18 = .ok (.aload_n 0, 1) := by decide +kernel
theorem dX3_find_19 : decode cX3_find 19 = .ok (.iload_n 1, 1) := by decide +kernel
theorem dX3_find_20 : decode cX3_find 20 = .ok (.invokevirtual 45, 3) := by decide +kernel
theorem dX3_find_23 : decode cX3_find 23 = .ok (.iload_n 1, 1) := by decide +kernel
theorem dX3_find_24 : decode cX3_find 24 = .ok (.ifCond .ne 7, 3) := by decide +kernel
theorem dX3_find_27 : decode cX3_find 27 = .ok (.iconst 0, 1) := by decide +kernel
theorem dX3_find_28 : decode cX3_find 28 = .ok (.goto 16, 3) := by decide +kernel
theorem dX3_find_31 : decode cX3_find 31 = .ok (.aload_n 0, 1) := by decide +kernel
theorem dX3_find_32 : decode cX3_find 32 = .ok (.getfield 36, 3) := by decide +kernel
theorem dX3_find_35 : decode cX3_find 35 = .ok (.aload_n 0, 1) := by decide +kernel
theorem dX3_find_36 : decode cX3_find 36 = .ok (.getfield 24, 3) := by decide +kernel
theorem dX3_find_39 : decode cX3_find 39 = .ok (.iconst 2, 1) := by decide +kernel
theorem dX3_find_40 : decode cX3_find 40 = .ok (.invokevirtual 49, 3) := by decide +kernel
theorem dX3_find_43 : decode cX3_find 43 = .ok (.iadd, 1) := by decide +kernel
theorem dX3_find_44 : decode cX3_find 44 = .ok (.istore_n 2, 1) := by decide +kernel
theorem dX3_find_45 : decode cX3_find 45 = .ok (.aload_n 0, 1) := by decide +kernel
theorem dX3_find_46 : decode cX3_find 46 = .ok (.iload_n 1, 1) := by decide +kernel
theorem dX3_find_47 : decode cX3_find 47 = .ok (.iload_n 2, 1) := by decide +kernel
theorem dX3_find_48 : decode cX3_find 48 = .ok (.invokevirtual 54, 3) := by decide +kernel
theorem dX3_find_51 : decode cX3_find 51 = .ok (.aload_n 0, 1) := by decide +kernel
theorem dX3_find_52 : decode cX3_find 52 = .ok (.iload_n 2, 1) := by decide +kernel
theorem dX3_find_53 : decode cX3_find 53 = .ok (.aload_n 0, 1) := by decide +kernel
theorem dX3_find_54 : decode cX3_find 54 = .ok (.getfield 21, 3) := by decide +kernel
theorem dX3_find_57 : decode cX3_find 57 = .ok (.iload_n 1, 1) := by decide +kernel
theorem dX3_find_58 : decode cX3_find 58 = .ok (.iaload, 1) := by decide +kernel
theorem dX3_find_59 : decode cX3_find 59 = .ok (.iadd, 1) := by decide +kernel
theorem dX3_find_60 : decode cX3_find 60 = .ok (.putfield 36, 3) := by decide +kernel
theorem dX3_find_63 : decode cX3_find 63 = .ok (.iinc 1 1, 3) := by decide +kernel
theorem dX3_find_66 : decode cX3_find 66 = .ok (.goto (-59), 3) := by decide +kernel
theorem dX3_find_69 : decode cX3_find 69 = .ok (.return_, 1) := by decide +kernel
theorem dX3_end_0 : decode cX3_end 0 = .ok (.iload_n 1, 1) := by decide +kernel
theorem dX3_end_1 : decode cX3_end 1 = .ok (.ifCond .lt 28, 3) := by decide +kernel
theorem dX3_end_4 : decode cX3_end 4 = .ok (.iload_n 1, 1) := by decide +kernel
theorem dX3_end_5 : decode cX3_end 5 = .ok (.bipush 16, 2) := by decide +kernel
theorem dX3_end_7 : decode cX3_end 7 = .ok (.if_icmp .ge 22, 3) := by decide +kernel
theorem dX3_end_10 : decode cX3_end 10 = .ok (.aload_n 0, 1) := by decide +kernel
theorem dX3_end_11 : decode cX3_end 11 = .ok (.getfield 9, 3) := by decide +kernel
theorem dX3_end_14 : decode cX3_end 14 = .ok (.iload_n 1, 1) := by decide +kernel
theorem dX3_end_15 : decode cX3_end 15 = .ok (.iaload, 1) := by decide +kernel
theorem dX3_end_16 : decode cX3_end 16 = .ok (.aload_n 0, 1) := by decide +kernel
theorem dX3_end_17 : decode cX3_end 17 = .ok (.getfield 32, 3) := by decide +kernel
theorem dX3_end_20 : decode cX3_end 20 = .ok (.getfield 58, 3) := by decide +kernel
theorem dX3_end_23 : decode cX3_end 23 = .ok (.iload_n 1, 1) := by decide +kernel
theorem dX3_end_24 : decode cX3_end 24 = .ok (.iaload, 1) := by decide +kernel
theorem dX3_end_25 : decode cX3_end 25 = .ok (.iadd, 1) := by decide +kernel
theorem dX3_end_26 : decode cX3_end 26 = .ok (.goto 6, 3) := by decide +kernel
theorem dX3_end_29 : decode cX3_end 29 = .ok (.sipush (-1001), 3) := by decide +kernel
theorem dX3_end_32 : decode cX3_end 32 = .ok (.ireturn, 1) := by decide +kernel
theorem dX3_covers_0 : decode cX3_covers 0 = .ok (.iload_n 1, 1) := by decide +kernel
theorem dX3_covers_1 : decode cX3_covers 1 = .ok (.ifCond .lt 14, 3) := by decide +kernel
theorem dX3_covers_4 : decode cX3_covers 4 = .ok (.iload_n 1, 1) := by decide +kernel
theorem dX3_covers_5 : decode cX3_covers 5 = .ok (.aload_n 0, 1) := by decide +kernel
theorem dX3_covers_6 : decode cX3_covers 6 = .ok (.getfield 28, 3) := by decide +kernel
theorem dX3_covers_9 : decode cX3_covers 9 = .ok (.getfield 61, 3) := by decide +kernel
theorem dX3_covers_12 : decode cX3_covers 12 = .ok (.if_icmp .lt 5, 3) := by decide +kernel
theorem dX3_covers_15 : decode cX3_covers 15 = .ok (.iconst 0, 1) := by decide +kernel
theorem dX3_covers_16 : decode cX3_covers 16 = .ok (.ireturn, 1) := by decide +kernel
theorem dX3_covers_17 : decode cX3_covers 17 = .ok (.aload_n 0, 1) := by decide +kernel
theorem dX3_covers_18 : decode cX3_covers 18 = .ok (.getfield 15, 3) := by decide +kernel
theorem dX3_covers_21 : decode cX3_covers 21 = .ok (.iload_n 1, 1) := by decide +kernel
theorem dX3_covers_22 : decode cX3_covers 22 = .ok (.iaload, 1) := by decide +kernel
theorem dX3_covers_23 : decode cX3_covers 23 = .ok (.aload_n 0, 1) := by decide +kernel
theorem dX3_covers_24 : decode cX3_covers 24 = .ok (.getfield 24, 3) := by decide +kernel
theorem dX3_covers_27 : decode cX3_covers 27 = .ok (.aload_n 0, 1) := by decide +kernel
theorem dX3_covers_28 : decode cX3_covers 28 = .ok (.getfield 28, 3) := by decide +kernel
theorem dX3_covers_31 : decode cX3_covers 31 = .ok (.getfield 66, 3) := by decide +kernel
theorem dX3_covers_34 : decode cX3_covers 34 = .ok (.iload_n 1, 1) := by decide +kernel
theorem dX3_covers_35 : decode cX3_covers 35 = .ok (.iaload, 1) := by decide +kernel
theorem dX3_covers_36 : decode cX3_covers 36 = .ok (.bipush 7, 2) := by decide +kernel
theorem dX3_covers_38 : decode cX3_covers 38 = .ok (.invokevirtual 69, 3) := by decide +kernel
theorem dX3_covers_41 : decode cX3_covers 41 = .ok (.iadd, 1) := by decide +kernel
theorem dX3_covers_42 : decode cX3_covers 42 = .ok (.istore 4, 2) := by decide +kernel
theorem dX3_covers_44 : decode cX3_covers 44 = .ok (.iload_n 2, 1) := by decide +kernel
theorem dX3_covers_45 : decode cX3_covers 45 = .ok (.aload_n 0, 1) := by decide +kernel
theorem dX3_covers_46 : decode cX3_covers 46 = .ok (.getfield 9, 3) := by decide +kernel
theorem dX3_covers_49 : decode cX3_covers 49 = .ok (.iload_n 1, 1) := by decide +kernel
theorem dX3_covers_50 : decode cX3_covers 50 = .ok (.iaload, 1) := by decide +kernel
theorem dX3_covers_51 : decode cX3_covers 51 = .ok (.if_icmp .lt 32, 3) := by decide +kernel
theorem dX3_covers_54 : decode cX3_covers 54 = .ok (.iload_n 2, 1) := by decide +kernel
theorem dX3_covers_55 : decode cX3_covers 55 = .ok (.aload_n 0, 1) := by decide +kernel
theorem dX3_covers_56 : decode cX3_covers 56 = .ok (.iload_n 1, 1) := by decide +kernel
theorem dX3_covers_57 : decode cX3_covers 57 = .ok (.invokevirtual 73, 3) := by decide +kernel
theorem dX3_covers_60 : decode cX3_covers 60 = .ok (.if_icmp .ge 23, 3) := by decide +kernel
theorem dX3_covers_63 : decode cX3_covers 63 = .ok (.iload_n 3, 1) := by decide +kernel
theorem dX3_covers_64 : decode cX3_covers 64 = .ok (.aload_n 0, 1) := by decide +kernel
theorem dX3_covers_65 : decode cX3_covers 65 = .ok (.getfield 15, 3) := by decide +kernel
theorem dX3_covers_68 : decode cX3_covers 68 = .ok (.iload_n 1, 1) := by decide +kernel
theorem dX3_covers_69 : decode cX3_covers 69 = .ok (.iaload, 1) := by decide +kernel
theorem dX3_covers_70 : decode cX3_covers 70 = .ok (.if_icmp .lt 13, 3) := by decide +kernel
theorem dX3_covers_73 : decode cX3_covers 73 = .ok (.iload_n 3, 1) := by decide +kernel
theorem dX3_covers_74 : decode cX3_covers 74 = .ok (.iload 4, 2) := by decide +kernel
theorem dX3_covers_76 : decode cX3_covers 76 = .ok (.if_icmp .ge 7, 3) := by decide +kernel
theorem dX3_covers_79 : decode cX3_covers 79 = .ok (.iconst 1, 1) := by decide +kernel
theorem dX3_covers_80 : decode cX3_covers 80 = .ok (.goto 4, 3) := by decide +kernel
theorem dX3_covers_83 : decode cX3_covers 83 = .ok (.iconst 0, 1) := by decide +kernel
theorem dX3_covers_84 : decode cX3_covers 84 = .ok (.ireturn, 1) := by decide +kernel
theorem dX3_setAlong_0 : decode cX3_setAlong 0 = .ok (.aload_n 0, 1) := by decide +kernel
theorem dX3_setAlong_1 : decode cX3_setAlong 1 = .ok (.getfield 32, 3) := by decide +kernel
theorem dX3_setAlong_4 : decode cX3_setAlong 4 = .ok (.getfield 76, 3) := by decide +kernel
theorem dX3_setAlong_7 : decode cX3_setAlong 7 = .ok (.iload_n 1, 1) := by decide +kernel
theorem dX3_setAlong_8 : decode cX3_setAlong 8 = .ok (.iaload, 1) := by decide +kernel
theorem dX3_setAlong_9 : decode cX3_setAlong 9 = .ok (.istore_n 2, 1) := by decide +kernel
theorem dX3_setAlong_10 : decode cX3_setAlong 10 = .ok (.aload_n 0, 1) := by decide +kernel
theorem dX3_setAlong_11 : decode cX3_setAlong 11 = .ok (.getfield 32, 3) := by decide +kernel
theorem dX3_setAlong_14 : decode cX3_setAlong 14 = .ok (.iload_n 1, 1) := by decide +kernel
theorem dX3_setAlong_15 : decode cX3_setAlong 15 = .ok (.invokevirtual 79, 3) := by decide +kernel
theorem dX3_setAlong_18 : decode cX3_setAlong 18 = .ok (.iload_n 2, 1) := by decide +kernel
theorem dX3_setAlong_19 : decode cX3_setAlong 19 = .ok (.isub, 1) := by decide +kernel
theorem dX3_setAlong_20 : decode cX3_setAlong 20 = .ok (.istore_n 3, 1) := by decide +kernel
theorem dX3_setAlong_21 : decode cX3_setAlong 21 = .ok (.aload_n 0, 1) := by decide +kernel
theorem dX3_setAlong_22 : decode cX3_setAlong 22 = .ok (.getfield 24, 3) := by decide +kernel
theorem dX3_setAlong_25 : decode cX3_setAlong 25 = .ok (.bipush 6, 2) := by decide +kernel
theorem dX3_setAlong_27 : decode cX3_setAlong 27 = .ok (.invokevirtual 49, 3) := by decide +kernel
theorem dX3_setAlong_30 : decode cX3_setAlong 30 = .ok (.iconst 1, 1) := by decide +kernel
theorem dX3_setAlong_31 : decode cX3_setAlong 31 = .ok (.if_icmp .ne 7, 3) := by decide +kernel
theorem dX3_setAlong_34 : decode cX3_setAlong 34 = .ok (.iconst 1, 1) := by decide +kernel
theorem dX3_setAlong_35 : decode cX3_setAlong 35 = .ok (.goto 4, 3) := by decide +kernel
theorem dX3_setAlong_38 : decode cX3_setAlong 38 = .ok (.iconst 0, 1) := by decide +kernel
theorem dX3_setAlong_39 : decode cX3_setAlong 39 = .ok (.istore 4, 2) := by decide +kernel
theorem dX3_setAlong_41 : decode cX3_setAlong 41 = .ok (.iconst 0, 1) := by decide +kernel
theorem dX3_setAlong_42 : decode cX3_setAlong 42 = .ok (.istore 5, 2) := by decide +kernel
theorem dX3_setAlong_44 : decode cX3_setAlong 44 = .ok (.iconst 0, 1) := by decide +kernel
theorem dX3_setAlong_45 : decode cX3_setAlong 45 = .ok (.istore 6, 2) := by decide +kernel
theorem dX3_setAlong_47 : decode cX3_setAlong 47 = .ok (.iload 6, 2) := by decide +kernel
theorem dX3_setAlong_49 : decode cX3_setAlong 49 = .ok (.iload_n 3, 1) := by decide +kernel
theorem dX3_setAlong_50 : decode cX3_setAlong 50 = .ok (.if_icmp .ge 119, 3) := by decide +kernel
theorem dX3_setAlong_53 : decode cX3_setAlong 53 = .ok (.iload_n 2, 1) := by decide +kernel
theorem dX3_setAlong_54 : decode cX3_setAlong 54 = .ok (.iload 6, 2) := by decide +kernel
theorem dX3_setAlong_56 : decode cX3_setAlong 56 = .ok (.iadd, 1) := by decide +kernel
theorem dX3_setAlong_57 : decode cX3_setAlong 57 = .ok (.istore 7, 2) := by decide +kernel
theorem dX3_setAlong_59 : decode cX3_setAlong 59 = .ok (.iload 5, 2) := by decide +kernel
theorem dX3_setAlong_61 : decode cX3_setAlong 61 = .ok (.aload_n 0, 1) := by decide +kernel
theorem dX3_setAlong_62 : decode cX3_setAlong 62 = .ok (.getfield 28, 3) := by decide +kernel
theorem dX3_setAlong_65 : decode cX3_setAlong 65 = .ok (.getfield 80, 3) := by decide +kernel
theorem dX3_setAlong_68 : decode cX3_setAlong 68 = .ok (.iload 7, 2) := by decide +kernel
theorem dX3_setAlong_70 : decode cX3_setAlong 70 = .ok (.iaload, 1) := by decide +kernel
theorem dX3_setAlong_71 : decode cX3_setAlong 71 = .ok (.iadd, 1) := by decide +kernel
theorem dX3_setAlong_72 : decode cX3_setAlong 72 = .ok (.aload_n 0, 1) := by decide +kernel
theorem dX3_setAlong_73 : decode cX3_setAlong 73 = .ok (.aload_n 0, 1) := by decide +kernel
theorem dX3_setAlong_74 : decode cX3_setAlong 74 = .ok (.getfield 32, 3) := by decide +kernel
theorem dX3_setAlong_77 : decode cX3_setAlong 77 = .ok (.getfield 83, 3) := by decide +kernel
theorem dX3_setAlong_80 : decode cX3_setAlong 80 = .ok (.iload_n 1, 1) := by decide +kernel
theorem dX3_setAlong_81 : decode cX3_setAlong 81 = .ok (.iaload, 1) := by decide +kernel
theorem dX3_setAlong_82 : decode cX3_setAlong 82 = .ok (.iload 6, 2) := by decide +kernel
theorem dX3_setAlong_84 : decode cX3_setAlong 84 = .ok (.iload_n 3, 1) := by decide +kernel
theorem dX3_setAlong_85 : decode cX3_setAlong 85 = .ok (.invokevirtual 86, 3) := by decide +kernel
theorem dX3_setAlong_88 : decode cX3_setAlong 88 = .ok (.iadd, 1) := by decide +kernel
theorem dX3_setAlong_89 : decode cX3_setAlong 89 = .ok (.istore 8, 2) := by decide +kernel
theorem dX3_setAlong_91 : decode cX3_setAlong 91 = .ok (.aload_n 0, 1) := by decide +kernel
theorem dX3_setAlong_92 : decode cX3_setAlong 92 = .ok (.getfield 32, 3) := by decide +kernel
theorem dX3_setAlong_95 : decode cX3_setAlong 95 = .ok (.getfield 58, 3) := by decide +kernel
theorem dX3_setAlong_98 : decode cX3_setAlong 98 = .ok (.iload 7, 2) := by decide +kernel
theorem dX3_setAlong_100 : decode cX3_setAlong 100 = .ok (.iaload, 1) := by decide +kernel
theorem dX3_setAlong_101 : decode cX3_setAlong 101 = .ok (.istore 9, 2) := by decide +kernel
theorem dX3_setAlong_103 : decode cX3_setAlong 103 = .ok (.aload_n 0, 1) := by decide +kernel
theorem dX3_setAlong_104 : decode cX3_setAlong 104 = .ok (.getfield 9, 3) := by decide +kernel
theorem dX3_setAlong_107 : decode cX3_setAlong 107 = .ok (.iload 7, 2) := by decide +kernel
theorem dX3_setAlong_109 : decode cX3_setAlong 109 = .ok (.iload 4, 2) := by decide +kernel
theorem dX3_setAlong_111 : decode cX3_setAlong 111 = .ok (.ifCond .eq 20, 3) := by decide +kernel
theorem dX3_setAlong_114 : decode cX3_setAlong 114 = .ok (.aload_n 0, 1) := by decide +kernel
theorem dX3_setAlong_115 : decode cX3_setAlong 115 = .ok (.getfield 24, 3) := by decide +kernel
theorem dX3_setAlong_118 : decode cX3_setAlong 118 = .ok (.iconst 0, 1) := by decide +kernel
theorem dX3_setAlong_119 : decode cX3_setAlong 119 = .ok (.invokevirtual 49, 3) := by decide +kernel
theorem dX3_setAlong_122 : decode cX3_setAlong 122 = .ok (.iload 8, 2) := by decide +kernel
theorem dX3_setAlong_124 : decode cX3_setAlong 124 = .ok (.isub, 1) := by decide +kernel
theorem dX3_setAlong_125 : decode cX3_setAlong 125 = .ok (.iload 9, 2) := by decide +kernel
theorem dX3_setAlong_127 : decode cX3_setAlong 127 = .ok (.isub, 1) := by decide +kernel
theorem dX3_setAlong_128 : decode cX3_setAlong 128 = .ok (.goto 5, 3) := by decide +kernel
theorem dX3_setAlong_131 : decode cX3_setAlong 131 = .ok (.iload 8, 2) := by decide +kernel
theorem dX3_setAlong_133 : decode cX3_setAlong 133 = .ok (.iastore, 1) := by decide +kernel
theorem dX3_setAlong_134 : decode cX3_setAlong 134 = .ok (.iload 5, 2) := by decide +kernel
theorem dX3_setAlong_136 : decode cX3_setAlong 136 = .ok (.iload 9, 2) := by decide +kernel
theorem dX3_setAlong_138 : decode cX3_setAlong 138 = .ok (.iconst 2, 1) := by decide +kernel
theorem dX3_setAlong_139 : decode cX3_setAlong 139 = .ok (.aload_n 0, 1) := by decide +kernel
theorem dX3_setAlong_140 : decode cX3_setAlong 140 = .ok (.getfield 28, 3) := by decide +kernel
theorem dX3_setAlong_143 : decode cX3_setAlong 143 = .ok (.getfield 80, 3) := by decide +kernel
theorem dX3_setAlong_146 : decode cX3_setAlong 146 = .ok (.iload 7, 2) := by decide +kernel
theorem dX3_setAlong_148 : decode cX3_setAlong 148 = .ok (.iaload, 1) := by decide +kernel
theorem dX3_setAlong_149 : decode cX3_setAlong 149 = .ok (.imul, 1) := by decide +kernel
theorem dX3_setAlong_150 : decode cX3_setAlong 150 = .ok (.iadd, 1) := by decide +kernel
theorem dX3_setAlong_151 : decode cX3_setAlong 151 = .ok (.aload_n 0, 1) := by decide +kernel
theorem dX3_setAlong_152 : decode cX3_setAlong 152 = .ok (.getfield 24, 3) := by decide +kernel
theorem dX3_setAlong_155 : decode cX3_setAlong 155 = .ok (.iconst 1, 1) := by decide +kernel
theorem dX3_setAlong_156 : decode cX3_setAlong 156 = .ok (.invokevirtual 49, 3) := by decide +kernel
theorem dX3_setAlong_159 : decode cX3_setAlong 159 = .ok (.iadd, 1) := by decide +kernel
theorem dX3_setAlong_160 : decode cX3_setAlong 160 = .ok (.iadd, 1) := by decide +kernel
theorem dX3_setAlong_161 : decode cX3_setAlong 161 = .ok (.istore 5, 2) := by decide +kernel
theorem dX3_setAlong_163 : decode cX3_setAlong 163 = .ok (.iinc 6 1, 3) := by decide +kernel
theorem dX3_setAlong_166 : decode cX3_setAlong 166 = .ok (.goto (-119), 3) := by decide +kernel
theorem dX3_setAlong_169 : decode cX3_setAlong 169 = .ok (.return_, 1) := by decide +kernel
theorem dX3_shift_0 : decode cX3_shift 0 = .ok (.aload_n 0, 1) := by decide +kernel
theorem dX3_shift_1 : decode cX3_shift 1 = .ok (.getfield 24, 3) := by decide +kernel
theorem dX3_shift_4 : decode cX3_shift 4 = .ok (.iconst 4, 1) := by decide +kernel
theorem dX3_shift_5 : decode cX3_shift 5 = .ok (.invokevirtual 49, 3) := by decide +kernel
theorem dX3_shift_8 : decode cX3_shift 8 = .ok (.istore 4, 2) := by decide +kernel
theorem dX3_shift_10 : decode cX3_shift 10 = .ok (.iload 4, 2) := by decide +kernel
theorem dX3_shift_12 : decode cX3_shift 12 = .ok (.iconst 3, 1) := by decide +kernel
theorem dX3_shift_13 : decode cX3_shift 13 = .ok (.if_icmp .lt 25, 3) := by decide +kernel
theorem dX3_shift_16 : decode cX3_shift 16 = .ok (.iload_n 1, 1) := by decide +kernel
theorem dX3_shift_17 : decode cX3_shift 17 = .ok (.ifCond .lt 8, 3) := by decide +kernel
theorem dX3_shift_20 : decode cX3_shift 20 = .ok (.iload_n 3, 1) := by decide +kernel
theorem dX3_shift_21 : decode cX3_shift 21 = .ok (.iconst 1, 1) := by decide +kernel
theorem dX3_shift_22 : decode cX3_shift 22 = .ok (.if_icmp .gt 16, 3) := by decide +kernel
theorem dX3_shift_25 : decode cX3_shift 25 = .ok (.iload 4, 2) := by decide +kernel
theorem dX3_shift_27 : decode cX3_shift 27 = .ok (.iconst 3, 1) := by decide +kernel
theorem dX3_shift_28 : decode cX3_shift 28 = .ok (.if_icmp .ne 7, 3) := by decide +kernel
theorem dX3_shift_31 : decode cX3_shift 31 = .ok (.iconst 0, 1) := by decide +kernel
theorem dX3_shift_32 : decode cX3_shift 32 = .ok (.goto 4, 3) := by decide +kernel
theorem dX3_shift_35 : decode cX3_shift 35 = .ok (.iconst 2, 1) := by decide +kernel
theorem dX3_shift_36 : decode cX3_shift 36 = .ok (.istore 4, 2) := by decide +kernel
theorem dX3_shift_38 : decode cX3_shift 38 = .ok (.iload 4, 2) := by decide +kernel
theorem dX3_shift_40 : decode cX3_shift 40 = .ok (.tableswitch 105 1 5 #[36, 38, 44, 63, 85], 36) := by decide +kernel
theorem dX3_shift_76 : decode cX3_shift 76 = .ok (.iload_n 1, 1) := by decide +kernel
theorem dX3_shift_77 : decode cX3_shift 77 = .ok (.ireturn, 1) := by decide +kernel
theorem dX3_shift_78 : decode cX3_shift 78 = .ok (.iload_n 1, 1) := by decide +kernel
theorem dX3_shift_79 : decode cX3_shift 79 = .ok (.iconst 2, 1) := by decide +kernel
theorem dX3_shift_80 : decode cX3_shift 80 = .ok (.invokestatic 90, 3) := by decide +kernel
theorem dX3_shift_83 : decode cX3_shift 83 = .ok (.ireturn, 1) := by decide +kernel
theorem dX3_shift_84 : decode cX3_shift 84 = .ok (.iload_n 3, 1) := by decide +kernel
theorem dX3_shift_85 : decode cX3_shift 85 = .ok (.iconst 1, 1) := by decide +kernel
theorem dX3_shift_86 : decode cX3_shift 86 = .ok (.if_icmp .le 15, 3) := by decide +kernel
theorem dX3_shift_89 : decode cX3_shift 89 = .ok (.iload_n 1, 1) := by decide +kernel
theorem dX3_shift_90 : decode cX3_shift 90 = .ok (.iload_n 2, 1) := by decide +kernel
theorem dX3_shift_91 : decode cX3_shift 91 = .ok (.imul, 1) := by decide +kernel
theorem dX3_shift_92 : decode cX3_shift 92 = .ok (.iload_n 3, 1) := by decide +kernel
theorem dX3_shift_93 : decode cX3_shift 93 = .ok (.iconst 1, 1) := by decide +kernel
theorem dX3_shift_94 : decode cX3_shift 94 = .ok (.isub, 1) := by decide +kernel
theorem dX3_shift_95 : decode cX3_shift 95 = .ok (.invokestatic 90, 3) := by decide +kernel
theorem dX3_shift_98 : decode cX3_shift 98 = .ok (.goto 4, 3) := by decide +kernel
theorem dX3_shift_101 : decode cX3_shift 101 = .ok (.iconst 0, 1) := by decide +kernel
theorem dX3_shift_102 : decode cX3_shift 102 = .ok (.ireturn, 1) := by decide +kernel
theorem dX3_shift_103 : decode cX3_shift 103 = .ok (.iload_n 3, 1) := by decide +kernel
theorem dX3_shift_104 : decode cX3_shift 104 = .ok (.ifCond .le 19, 3) := by decide +kernel
theorem dX3_shift_107 : decode cX3_shift 107 = .ok (.iload_n 1, 1) := by decide +kernel
theorem dX3_shift_108 : decode cX3_shift 108 = .ok (.iconst 2, 1) := by decide +kernel
theorem dX3_shift_109 : decode cX3_shift 109 = .ok (.iload_n 2, 1) := by decide +kernel
theorem dX3_shift_110 : decode cX3_shift 110 = .ok (.imul, 1) := by decide +kernel
theorem dX3_shift_111 : decode cX3_shift 111 = .ok (.iconst 1, 1) := by decide +kernel
theorem dX3_shift_112 : decode cX3_shift 112 = .ok (.iadd, 1) := by decide +kernel
theorem dX3_shift_113 : decode cX3_shift 113 = .ok (.imul, 1) := by decide +kernel
theorem dX3_shift_114 : decode cX3_shift 114 = .ok (.iconst 2, 1) := by decide +kernel
theorem dX3_shift_115 : decode cX3_shift 115 = .ok (.iload_n 3, 1) := by decide +kernel
theorem dX3_shift_116 : decode cX3_shift 116 = .ok (.imul, 1) := by decide +kernel
theorem dX3_shift_117 : decode cX3_shift 117 = .ok (.invokestatic 90, 3) := by decide +kernel
theorem dX3_shift_120 : decode cX3_shift 120 = .ok (.goto 4, 3) := by decide +kernel
theorem dX3_shift_123 : decode cX3_shift 123 = .ok (.iconst 0, 1) := by decide +kernel
theorem dX3_shift_124 : decode cX3_shift 124 = .ok (.ireturn, 1) := by decide +kernel
theorem dX3_shift_125 : decode cX3_shift 125 = .ok (.iload_n 3, 1) := by decide +kernel
theorem dX3_shift_126 : decode cX3_shift 126 = .ok (.ifCond .le 17, 3) := by decide +kernel
theorem dX3_shift_129 : decode cX3_shift 129 = .ok (.iload_n 1, 1) := by decide +kernel
theorem dX3_shift_130 : decode cX3_shift 130 = .ok (.iload_n 2, 1) := by decide +kernel
theorem dX3_shift_131 : decode cX3_shift 131 = .ok (.iconst 1, 1) := by decide +kernel
theorem dX3_shift_132 : decode cX3_shift 132 = .ok (.iadd, 1) := by decide +kernel
theorem dX3_shift_133 : decode cX3_shift 133 = .ok (.imul, 1) := by decide +kernel
theorem dX3_shift_134 : decode cX3_shift 134 = .ok (.iload_n 3, 1) := by decide +kernel
theorem dX3_shift_135 : decode cX3_shift 135 = .ok (.iconst 1, 1) := by decide +kernel
theorem dX3_shift_136 : decode cX3_shift 136 = .ok (.iadd, 1) := by decide +kernel
theorem dX3_shift_137 : decode cX3_shift 137 = .ok (.invokestatic 90, 3) := by decide +kernel
theorem dX3_shift_140 : decode cX3_shift 140 = .ok (.goto 4, 3) := by decide +kernel
theorem dX3_shift_143 : decode cX3_shift 143 = .ok (.iconst 0, 1) := by decide +kernel
theorem dX3_shift_144 : decode cX3_shift 144 = .ok (.ireturn, 1) := by decide +kernel
theorem dX3_shift_145 : decode cX3_shift 145 = .ok (.iconst 0, 1) := by decide +kernel
theorem dX3_shift_146 : decode cX3_shift 146 = .ok (.ireturn, 1) := by decide +kernel
theorem dX3_setAcross_0 : decode cX3_setAcross 0 = .ok (.aload_n 0, 1) := by decide +kernel
theorem dX3_setAcross_1 : decode cX3_setAcross 1 = .ok (.getfield 32, 3) := by decide +kernel
theorem dX3_setAcross_4 : decode cX3_setAcross 4 = .ok (.getfield 76, 3) := by decide +kernel
theorem dX3_setAcross_7 : decode cX3_setAcross 7 = .ok (.iload_n 1, 1) := by decide +kernel
theorem dX3_setAcross_8 : decode cX3_setAcross 8 = .ok (.iaload, 1) := by decide +kernel
theorem dX3_setAcross_9 : decode cX3_setAcross 9 = .ok (.istore_n 3, 1) := by decide +kernel
theorem dX3_setAcross_10 : decode cX3_setAcross 10 = .ok (.aload_n 0, 1) := by decide +kernel
theorem dX3_setAcross_11 : decode cX3_setAcross 11 = .ok (.getfield 32, 3) := by decide +kernel
theorem dX3_setAcross_14 : decode cX3_setAcross 14 = .ok (.iload_n 1, 1) := by decide +kernel
theorem dX3_setAcross_15 : decode cX3_setAcross 15 = .ok (.invokevirtual 79, 3) := by decide +kernel
theorem dX3_setAcross_18 : decode cX3_setAcross 18 = .ok (.istore 4, 2) := by decide +kernel
theorem dX3_setAcross_20 : decode cX3_setAcross 20 = .ok (.iconst 0, 1) := by decide +kernel
theorem dX3_setAcross_21 : decode cX3_setAcross 21 = .ok (.istore 5, 2) := by decide +kernel
theorem dX3_setAcross_23 : decode cX3_setAcross 23 = .ok (.bipush (-49), 2) := by decide +kernel
theorem dX3_setAcross_25 : decode cX3_setAcross 25 = .ok (.istore 6, 2) := by decide +kernel
theorem dX3_setAcross_27 : decode cX3_setAcross 27 = .ok (.iconst 0, 1) := by decide +kernel
theorem dX3_setAcross_28 : decode cX3_setAcross 28 = .ok (.istore 7, 2) := by decide +kernel
theorem dX3_setAcross_30 : decode cX3_setAcross 30 = .ok (.iload_n 3, 1) := by decide +kernel
theorem dX3_setAcross_31 : decode cX3_setAcross 31 = .ok (.istore 8, 2) := by decide +kernel
theorem dX3_setAcross_33 : decode cX3_setAcross 33 = .ok (.iload 8, 2) := by decide +kernel
theorem dX3_setAcross_35 : decode cX3_setAcross 35 = .ok (.iload 4, 2) := by decide +kernel
theorem dX3_setAcross_37 : decode cX3_setAcross 37 = .ok (.if_icmp .ge 86, 3) := by decide +kernel
theorem dX3_setAcross_40 : decode cX3_setAcross 40 = .ok (.aload_n 0, 1) := by decide +kernel
theorem dX3_setAcross_41 : decode cX3_setAcross 41 = .ok (.getfield 28, 3) := by decide +kernel
theorem dX3_setAcross_44 : decode cX3_setAcross 44 = .ok (.getfield 66, 3) := by decide +kernel
theorem dX3_setAcross_47 : decode cX3_setAcross 47 = .ok (.iload 8, 2) := by decide +kernel
theorem dX3_setAcross_49 : decode cX3_setAcross 49 = .ok (.iaload, 1) := by decide +kernel
theorem dX3_setAcross_50 : decode cX3_setAcross 50 = .ok (.istore 9, 2) := by decide +kernel
theorem dX3_setAcross_52 : decode cX3_setAcross 52 = .ok (.iload 5, 2) := by decide +kernel
theorem dX3_setAcross_54 : decode cX3_setAcross 54 = .ok (.aload_n 0, 1) := by decide +kernel
theorem dX3_setAcross_55 : decode cX3_setAcross 55 = .ok (.getfield 24, 3) := by decide +kernel
theorem dX3_setAcross_58 : decode cX3_setAcross 58 = .ok (.iload 9, 2) := by decide +kernel
theorem dX3_setAcross_60 : decode cX3_setAcross 60 = .ok (.bipush 7, 2) := by decide +kernel
theorem dX3_setAcross_62 : decode cX3_setAcross 62 = .ok (.invokevirtual 69, 3) := by decide +kernel
theorem dX3_setAcross_65 : decode cX3_setAcross 65 = .ok (.invokestatic 95, 3) := by decide +kernel
theorem dX3_setAcross_68 : decode cX3_setAcross 68 = .ok (.istore 5, 2) := by decide +kernel
theorem dX3_setAcross_70 : decode cX3_setAcross 70 = .ok (.aload_n 0, 1) := by decide +kernel
theorem dX3_setAcross_71 : decode cX3_setAcross 71 = .ok (.getfield 24, 3) := by decide +kernel
theorem dX3_setAcross_74 : decode cX3_setAcross 74 = .ok (.iload 9, 2) := by decide +kernel
theorem dX3_setAcross_76 : decode cX3_setAcross 76 = .ok (.invokevirtual 98, 3) := by decide +kernel
theorem dX3_setAcross_79 : decode cX3_setAcross 79 = .ok (.iconst 3, 1) := by decide +kernel
theorem dX3_setAcross_80 : decode cX3_setAcross 80 = .ok (.if_icmp .ne 37, 3) := by decide +kernel
theorem dX3_setAcross_83 : decode cX3_setAcross 83 = .ok (.iload 6, 2) := by decide +kernel
theorem dX3_setAcross_85 : decode cX3_setAcross 85 = .ok (.aload_n 0, 1) := by decide +kernel
theorem dX3_setAcross_86 : decode cX3_setAcross 86 = .ok (.getfield 24, 3) := by decide +kernel
theorem dX3_setAcross_89 : decode cX3_setAcross 89 = .ok (.iload 9, 2) := by decide +kernel
theorem dX3_setAcross_91 : decode cX3_setAcross 91 = .ok (.invokevirtual 101, 3) := by decide +kernel
theorem dX3_setAcross_94 : decode cX3_setAcross 94 = .ok (.invokestatic 95, 3) := by decide +kernel
theorem dX3_setAcross_97 : decode cX3_setAcross 97 = .ok (.istore 6, 2) := by decide +kernel
theorem dX3_setAcross_99 : decode cX3_setAcross 99 = .ok (.iload 7, 2) := by decide +kernel
theorem dX3_setAcross_101 : decode cX3_setAcross 101 = .ok (.aload_n 0, 1) := by decide +kernel
theorem dX3_setAcross_102 : decode cX3_setAcross 102 = .ok (.getfield 24, 3) := by decide +kernel
theorem dX3_setAcross_105 : decode cX3_setAcross 105 = .ok (.iload 9, 2) := by decide +kernel
theorem dX3_setAcross_107 : decode cX3_setAcross 107 = .ok (.bipush 8, 2) := by decide +kernel
theorem dX3_setAcross_109 : decode cX3_setAcross 109 = .ok (.invokevirtual 69, 3) := by decide +kernel
theorem dX3_setAcross_112 : decode cX3_setAcross 112 = .ok (.invokestatic 95, 3) := by decide +kernel
theorem dX3_setAcross_115 : decode cX3_setAcross 115 = .ok (.istore 7, 2) := by decide +kernel
theorem dX3_setAcross_117 : decode cX3_setAcross 117 = .ok (.iinc 8 1, 3) := by decide +kernel
theorem dX3_setAcross_120 : decode cX3_setAcross 120 = .ok (.goto (-87), 3) := by decide +kernel
theorem dX3_setAcross_123 : decode cX3_setAcross 123 = .ok (.aload_n 0, 1) := by decide +kernel
theorem dX3_setAcross_124 : decode cX3_setAcross 124 = .ok (.getfield 18, 3) := by decide +kernel
theorem dX3_setAcross_127 : decode cX3_setAcross 127 = .ok (.iload_n 1, 1) := by decide +kernel
theorem dX3_setAcross_128 : decode cX3_setAcross 128 = .ok (.iload_n 2, 1) := by decide +kernel
theorem dX3_setAcross_129 : decode cX3_setAcross 129 = .ok (.iastore, 1) := by decide +kernel
theorem dX3_setAcross_130 : decode cX3_setAcross 130 = .ok (.aload_n 0, 1) := by decide +kernel
theorem dX3_setAcross_131 : decode cX3_setAcross 131 = .ok (.getfield 21, 3) := by decide +kernel
theorem dX3_setAcross_134 : decode cX3_setAcross 134 = .ok (.iload_n 1, 1) := by decide +kernel
theorem dX3_setAcross_135 : decode cX3_setAcross 135 = .ok (.iload 5, 2) := by decide +kernel
theorem dX3_setAcross_137 : decode cX3_setAcross 137 = .ok (.iload 6, 2) := by decide +kernel
theorem dX3_setAcross_139 : decode cX3_setAcross 139 = .ok (.iload 7, 2) := by decide +kernel
theorem dX3_setAcross_141 : decode cX3_setAcross 141 = .ok (.iadd, 1) := by decide +kernel
theorem dX3_setAcross_142 : decode cX3_setAcross 142 = .ok (.invokestatic 95, 3) := by decide +kernel
theorem dX3_setAcross_145 : decode cX3_setAcross 145 = .ok (.iastore, 1) := by decide +kernel
theorem dX3_setAcross_146 : decode cX3_setAcross 146 = .ok (.iload_n 3, 1) := by decide +kernel
theorem dX3_setAcross_147 : decode cX3_setAcross 147 = .ok (.istore 8, 2) := by decide +kernel
theorem dX3_setAcross_149 : decode cX3_setAcross 149 = .ok (.iload 8, 2) := by decide +kernel
theorem dX3_setAcross_151 : decode cX3_setAcross 151 = .ok (.iload 4, 2) := by decide +kernel
theorem dX3_setAcross_153 : decode cX3_setAcross 153 = .ok (.if_icmp .ge 40, 3) := by decide +kernel
theorem dX3_setAcross_156 : decode cX3_setAcross 156 = .ok (.aload_n 0, 1) := by decide +kernel
theorem dX3_setAcross_157 : decode cX3_setAcross 157 = .ok (.getfield 15, 3) := by decide +kernel
theorem dX3_setAcross_160 : decode cX3_setAcross 160 = .ok (.iload 8, 2) := by decide +kernel
theorem dX3_setAcross_162 : decode cX3_setAcross 162 = .ok (.iload_n 2, 1) := by decide +kernel
theorem dX3_setAcross_163 : decode cX3_setAcross 163 = .ok (.aload_n 0, 1) := by decide +kernel
theorem dX3_setAcross_164 : decode cX3_setAcross 164 = .ok (.aload_n 0, 1) := by decide +kernel
theorem dX3_setAcross_165 : decode cX3_setAcross 165 = .ok (.getfield 28, 3) := by decide +kernel
theorem dX3_setAcross_168 : decode cX3_setAcross 168 = .ok (.getfield 66, 3) := by decide +kernel
theorem dX3_setAcross_171 : decode cX3_setAcross 171 = .ok (.iload 8, 2) := by decide +kernel
theorem dX3_setAcross_173 : decode cX3_setAcross 173 = .ok (.iaload, 1) := by decide +kernel
theorem dX3_setAcross_174 : decode cX3_setAcross 174 = .ok (.aload_n 0, 1) := by decide +kernel
theorem dX3_setAcross_175 : decode cX3_setAcross 175 = .ok (.getfield 21, 3) := by decide +kernel
theorem dX3_setAcross_178 : decode cX3_setAcross 178 = .ok (.iload_n 1, 1) := by decide +kernel
theorem dX3_setAcross_179 : decode cX3_setAcross 179 = .ok (.iaload, 1) := by decide +kernel
theorem dX3_setAcross_180 : decode cX3_setAcross 180 = .ok (.iload 6, 2) := by decide +kernel
theorem dX3_setAcross_182 : decode cX3_setAcross 182 = .ok (.invokevirtual 104, 3) := by decide +kernel
theorem dX3_setAcross_185 : decode cX3_setAcross 185 = .ok (.iadd, 1) := by decide +kernel
theorem dX3_setAcross_186 : decode cX3_setAcross 186 = .ok (.iastore, 1) := by decide +kernel
theorem dX3_setAcross_187 : decode cX3_setAcross 187 = .ok (.iinc 8 1, 3) := by decide +kernel
theorem dX3_setAcross_190 : decode cX3_setAcross 190 = .ok (.goto (-41), 3) := by decide +kernel
theorem dX3_setAcross_193 : decode cX3_setAcross 193 = .ok (.return_, 1) := by decide +kernel
theorem dX3_lowered_0 : decode cX3_lowered 0 = .ok (.iload_n 2, 1) := by decide +kernel
theorem dX3_lowered_1 : decode cX3_lowered 1 = .ok (.aload_n 0, 1) := by decide +kernel
theorem dX3_lowered_2 : decode cX3_lowered 2 = .ok (.getfield 24, 3) := by decide +kernel
theorem dX3_lowered_5 : decode cX3_lowered 5 = .ok (.iload_n 1, 1) := by decide +kernel
theorem dX3_lowered_6 : decode cX3_lowered 6 = .ok (.bipush 7, 2) := by decide +kernel
theorem dX3_lowered_8 : decode cX3_lowered 8 = .ok (.invokevirtual 69, 3) := by decide +kernel
theorem dX3_lowered_11 : decode cX3_lowered 11 = .ok (.isub, 1) := by decide +kernel
theorem dX3_lowered_12 : decode cX3_lowered 12 = .ok (.istore 4, 2) := by decide +kernel
theorem dX3_lowered_14 : decode cX3_lowered 14 = .ok (.aload_n 0, 1) := by decide +kernel
theorem dX3_lowered_15 : decode cX3_lowered 15 = .ok (.getfield 24, 3) := by decide +kernel
theorem dX3_lowered_18 : decode cX3_lowered 18 = .ok (.iload_n 1, 1) := by decide +kernel
theorem dX3_lowered_19 : decode cX3_lowered 19 = .ok (.invokevirtual 98, 3) := by decide +kernel
theorem dX3_lowered_22 : decode cX3_lowered 22 = .ok (.tableswitch 47 1 3 #[26, 29, 36], 26) := by decide +kernel
theorem dX3_lowered_48 : decode cX3_lowered 48 = .ok (.iload 4, 2) := by decide +kernel
theorem dX3_lowered_50 : decode cX3_lowered 50 = .ok (.ireturn, 1) := by decide +kernel
theorem dX3_lowered_51 : decode cX3_lowered 51 = .ok (.iload 4, 2) := by decide +kernel
theorem dX3_lowered_53 : decode cX3_lowered 53 = .ok (.iconst 2, 1) := by decide +kernel
theorem dX3_lowered_54 : decode cX3_lowered 54 = .ok (.invokestatic 90, 3) := by decide +kernel
theorem dX3_lowered_57 : decode cX3_lowered 57 = .ok (.ireturn, 1) := by decide +kernel
theorem dX3_lowered_58 : decode cX3_lowered 58 = .ok (.iload_n 3, 1) := by decide +kernel
theorem dX3_lowered_59 : decode cX3_lowered 59 = .ok (.aload_n 0, 1) := by decide +kernel
theorem dX3_lowered_60 : decode cX3_lowered 60 = .ok (.getfield 24, 3) := by decide +kernel
theorem dX3_lowered_63 : decode cX3_lowered 63 = .ok (.iload_n 1, 1) := by decide +kernel
theorem dX3_lowered_64 : decode cX3_lowered 64 = .ok (.invokevirtual 101, 3) := by decide +kernel
theorem dX3_lowered_67 : decode cX3_lowered 67 = .ok (.isub, 1) := by decide +kernel
theorem dX3_lowered_68 : decode cX3_lowered 68 = .ok (.ireturn, 1) := by decide +kernel
theorem dX3_lowered_69 : decode cX3_lowered 69 = .ok (.iconst 0, 1) := by decide +kernel
theorem dX3_lowered_70 : decode cX3_lowered 70 = .ok (.ireturn, 1) := by decide +kernel
theorem dX4_init_0 : decode cX4_init 0 = .ok (.aload_n 0, 1) := by decide +kernel
theorem dX4_init_1 : decode cX4_init 1 = .ok (.invokespecial 3, 3) := by decide +kernel
theorem dX4_init_4 : decode cX4_init 4 = .ok (.aload_n 0, 1) := by decide +kernel
theorem dX4_init_5 : decode cX4_init 5 = .ok (.bipush 7, 2) := by decide +kernel
theorem dX4_init_7 : decode cX4_init 7 = .ok (.newarray .int, 2) := by decide +kernel
theorem dX4_init_9 : decode cX4_init 9 = .ok (.putfield 9, 3) := by decide +kernel
theorem dX4_init_12 : decode cX4_init 12 = .ok (.aload_n 0, 1) := by decide +kernel
theorem dX4_init_13 : decode cX4_init 13 = .ok (.sipush 176, 3) := by decide +kernel
theorem dX4_init_16 : decode cX4_init 16 = .ok (.newarray .int, 2) := by decide +kernel
theorem dX4_init_18 : decode cX4_init 18 = .ok (.putfield 15, 3) := by decide +kernel
theorem dX4_init_21 : decode cX4_init 21 = .ok (.getstatic 18, 3) := by decide +kernel
theorem dX4_init_24 : decode cX4_init 24 = .ok (.iconst 0, 1) := by decide +kernel
theorem dX4_init_25 : decode cX4_init 25 = .ok (.aload_n 0, 1) := by decide +kernel
theorem dX4_init_26 : decode cX4_init 26 = .ok (.getfield 9, 3) := by decide +kernel
theorem dX4_init_29 : decode cX4_init 29 = .ok (.iconst 0, 1) := by decide +kernel
theorem dX4_init_30 : decode cX4_init 30 = .ok (.bipush 7, 2) := by decide +kernel
theorem dX4_init_32 : decode cX4_init 32 = .ok (.invokestatic 21, 3) := by decide +kernel
theorem dX4_init_35 : decode cX4_init 35 = .ok (.return_, 1) := by decide +kernel
theorem dX4_has_0 : decode cX4_has 0 = .ok (.iload_n 1, 1) := by decide +kernel
theorem dX4_has_1 : decode cX4_has 1 = .ok (.ifCond .lt 15, 3) := by decide +kernel
theorem dX4_has_4 : decode cX4_has 4 = .ok (.iload_n 1, 1) := by decide +kernel
theorem dX4_has_5 : decode cX4_has 5 = .ok (.aload_n 0, 1) := by decide +kernel
theorem dX4_has_6 : decode cX4_has 6 = .ok (.getfield 27, 3) := by decide +kernel
theorem dX4_has_9 : decode cX4_has 9 = .ok (.if_icmp .ge 7, 3) := by decide +kernel
theorem dX4_has_12 : decode cX4_has 12 = .ok (.iconst 1, 1) := by decide +kernel
theorem dX4_has_13 : decode cX4_has 13 = .ok (.goto 4, 3) := by decide +kernel
theorem dX4_has_16 : decode cX4_has 16 = .ok (.iconst 0, 1) := by decide +kernel
theorem dX4_has_17 : decode cX4_has 17 = .ok (.ireturn, 1) := by decide +kernel
theorem dX4_number_0 : decode cX4_number 0 = .ok (.iload_n 1, 1) := by decide +kernel
theorem dX4_number_1 : decode cX4_number 1 = .ok (.ifCond .lt 18, 3) := by decide +kernel
theorem dX4_number_4 : decode cX4_number 4 = .ok (.iload_n 1, 1) := by decide +kernel
theorem dX4_number_5 : decode cX4_number 5 = .ok (.bipush 7, 2) := by decide +kernel
theorem dX4_number_7 : decode cX4_number 7 = .ok (.if_icmp .ge 12, 3) := by decide +kernel
theorem dX4_number_10 : decode cX4_number 10 = .ok (.aload_n 0, 1) := by decide +kernel
theorem dX4_number_11 : decode cX4_number 11 = .ok (.getfield 9, 3) := by decide +kernel
theorem dX4_number_14 : decode cX4_number 14 = .ok (.iload_n 1, 1) := by decide +kernel
theorem dX4_number_15 : decode cX4_number 15 = .ok (.iaload, 1) := by decide +kernel
theorem dX4_number_16 : decode cX4_number 16 = .ok (.goto 4, 3) := by decide +kernel
theorem dX4_number_19 : decode cX4_number 19 = .ok (.iconst 0, 1) := by decide +kernel
theorem dX4_number_20 : decode cX4_number 20 = .ok (.ireturn, 1) := by decide +kernel
theorem dX4_setNumber_0 : decode cX4_setNumber 0 = .ok (.iload_n 1, 1) := by decide +kernel
theorem dX4_setNumber_1 : decode cX4_setNumber 1 = .ok (.ifCond .lt 16, 3) := by decide +kernel
theorem dX4_setNumber_4 : decode cX4_setNumber 4 = .ok (.iload_n 1, 1) := by decide +kernel
theorem dX4_setNumber_5 : decode cX4_setNumber 5 = .ok (.bipush 7, 2) := by decide +kernel
theorem dX4_setNumber_7 : decode cX4_setNumber 7 = .ok (.if_icmp .ge 10, 3) := by decide +kernel
theorem dX4_setNumber_10 : decode cX4_setNumber 10 = .ok (.aload_n 0, 1) := by decide +kernel
theorem dX4_setNumber_11 : decode cX4_setNumber 11 = .ok (.getfield 9, 3) := by decide +kernel
theorem dX4_setNumber_14 : decode cX4_setNumber 14 = .ok (.iload_n 1, 1) := by decide +kernel
theorem dX4_setNumber_15 : decode cX4_setNumber 15 = .ok (.iload_n 2, 1) := by decide +kernel
theorem dX4_setNumber_16 : decode cX4_setNumber 16 = .ok (.iastore, 1) := by decide +kernel
theorem dX4_setNumber_17 : decode cX4_setNumber 17 = .ok (.return_, 1) := by decide +kernel
theorem dX4_property_0 : decode cX4_property 0 = .ok (.iload_n 1, 1) := by decide +kernel
theorem dX4_property_1 : decode cX4_property 1 = .ok (.ifCond .lt 23, 3) := by decide +kernel
theorem dX4_property_4 : decode cX4_property 4 = .ok (.iload_n 1, 1) := by decide +kernel
theorem dX4_property_5 : decode cX4_property 5 = .ok (.bipush 16, 2) := by decide +kernel
theorem dX4_property_7 : decode cX4_property 7 = .ok (.if_icmp .ge 17, 3) := by decide +kernel
theorem dX4_property_10 : decode cX4_property 10 = .ok (.iload_n 2, 1) := by decide +kernel
theorem dX4_property_11 : decode cX4_property 11 = .ok (.ifCond .lt 13, 3) := by decide +kernel
theorem dX4_property_14 : decode cX4_property 14 = .ok (.iload_n 2, 1) := by decide +kernel
theorem dX4_property_15 : decode cX4_property 15 = .ok (.bipush 11, 2) := by decide +kernel
theorem dX4_property_17 : decode cX4_property 17 = .ok (.if_icmp .ge 7, 3) := by decide +kernel
theorem dX4_property_20 : decode cX4_property 20 = .ok (.iconst 1, 1) := by decide +kernel
theorem dX4_property_21 : decode cX4_property 21 = .ok (.goto 4, 3) := by decide +kernel
theorem dX4_property_24 : decode cX4_property 24 = .ok (.iconst 0, 1) := by decide +kernel
theorem dX4_property_25 : decode cX4_property 25 = .ok (.istore_n 3, 1) := by decide +kernel
theorem dX4_property_26 : decode cX4_property 26 = .ok (.iload_n 3, 1) := by decide +kernel
theorem dX4_property_27 : decode cX4_property 27 = .ok (.ifCond .eq 17, 3) := by decide +kernel
theorem dX4_property_30 : decode cX4_property 30 = .ok (.aload_n 0, 1) := by decide +kernel
theorem dX4_property_31 : decode cX4_property 31 = .ok (.getfield 15, 3) := by decide +kernel
theorem dX4_property_34 : decode cX4_property 34 = .ok (.iload_n 1, 1) := by decide +kernel
theorem dX4_property_35 : decode cX4_property 35 = .ok (.bipush 11, 2) := by decide +kernel
theorem dX4_property_37 : decode cX4_property 37 = .ok (.imul, 1) := by decide +kernel
theorem dX4_property_38 : decode cX4_property 38 = .ok (.iload_n 2, 1) := by decide +kernel
theorem dX4_property_39 : decode cX4_property 39 = .ok (.iadd, 1) := by decide +kernel
theorem dX4_property_40 : decode cX4_property 40 = .ok (.iaload, 1) := by decide +kernel
theorem dX4_property_41 : decode cX4_property 41 = .ok (.goto 4, 3) := by decide +kernel
theorem dX4_property_44 : decode cX4_property 44 = .ok (.iconst 0, 1) := by decide +kernel
theorem dX4_property_45 : decode cX4_property 45 = .ok (.ireturn, 1) := by decide +kernel
theorem dX4_put_0 : decode cX4_put 0 = .ok (.iload_n 1, 1) := by decide +kernel
theorem dX4_put_1 : decode cX4_put 1 = .ok (.ifCond .lt 31, 3) := by decide +kernel
theorem dX4_put_4 : decode cX4_put 4 = .ok (.iload_n 1, 1) := by decide +kernel
theorem dX4_put_5 : decode cX4_put 5 = .ok (.bipush 16, 2) := by decide +kernel
theorem dX4_put_7 : decode cX4_put 7 = .ok (.if_icmp .ge 25, 3) := by decide +kernel
theorem dX4_put_10 : decode cX4_put 10 = .ok (.iload_n 2, 1) := by decide +kernel
theorem dX4_put_11 : decode cX4_put 11 = .ok (.ifCond .lt 21, 3) := by decide +kernel
theorem dX4_put_14 : decode cX4_put 14 = .ok (.iload_n 2, 1) := by decide +kernel
theorem dX4_put_15 : decode cX4_put 15 = .ok (.bipush 11, 2) := by decide +kernel
theorem dX4_put_17 : decode cX4_put 17 = .ok (.if_icmp .ge 15, 3) := by decide +kernel
theorem dX4_put_20 : decode cX4_put 20 = .ok (.aload_n 0, 1) := by decide +kernel
theorem dX4_put_21 : decode cX4_put 21 = .ok (.getfield 15, 3) := by decide +kernel
theorem dX4_put_24 : decode cX4_put 24 = .ok (.iload_n 1, 1) := by decide +kernel
theorem dX4_put_25 : decode cX4_put 25 = .ok (.bipush 11, 2) := by decide +kernel
theorem dX4_put_27 : decode cX4_put 27 = .ok (.imul, 1) := by decide +kernel
theorem dX4_put_28 : decode cX4_put 28 = .ok (.iload_n 2, 1) := by decide +kernel
theorem dX4_put_29 : decode cX4_put 29 = .ok (.iadd, 1) := by decide +kernel
theorem dX4_put_30 : decode cX4_put 30 = .ok (.iload_n 3, 1) := by decide +kernel
theorem dX4_put_31 : decode cX4_put 31 = .ok (.iastore, 1) := by decide +kernel
theorem dX4_put_32 : decode cX4_put 32 = .ok (.return_, 1) := by decide +kernel
theorem dX4_greatest_0 : decode cX4_greatest 0 = .ok (.aload_n 0, 1) := by decide +kernel
theorem dX4_greatest_1 : decode cX4_greatest 1 = .ok (.iload_n 1, 1) := by decide +kernel
theorem dX4_greatest_2 : decode cX4_greatest 2 = .ok (.iconst 3, 1) := by decide +kernel
theorem dX4_greatest_3 : decode cX4_greatest 3 = .ok (.invokevirtual 31, 3) := by decide +kernel
theorem dX4_greatest_6 : decode cX4_greatest 6 = .ok (.aload_n 0, 1) := by decide +kernel
theorem dX4_greatest_7 : decode cX4_greatest 7 = .ok (.iload_n 1, 1) := by decide +kernel
theorem dX4_greatest_8 : decode cX4_greatest 8 = .ok (.iconst 4, 1) := by decide +kernel
theorem dX4_greatest_9 : decode cX4_greatest 9 = .ok (.invokevirtual 31, 3) := by decide +kernel
theorem dX4_greatest_12 : decode cX4_greatest 12 = .ok (.invokestatic 35, 3) := by decide +kernel
theorem dX4_greatest_15 : decode cX4_greatest 15 = .ok (.ireturn, 1) := by decide +kernel
theorem dX4_wish_0 : decode cX4_wish 0 = .ok (.aload_n 0, 1) := by decide +kernel
theorem dX4_wish_1 : decode cX4_wish 1 = .ok (.iload_n 1, 1) := by decide +kernel
theorem dX4_wish_2 : decode cX4_wish 2 = .ok (.iconst 0, 1) := by decide +kernel
theorem dX4_wish_3 : decode cX4_wish 3 = .ok (.invokevirtual 31, 3) := by decide +kernel
theorem dX4_wish_6 : decode cX4_wish 6 = .ok (.aload_n 0, 1) := by decide +kernel
theorem dX4_wish_7 : decode cX4_wish 7 = .ok (.iload_n 1, 1) := by decide +kernel
theorem dX4_wish_8 : decode cX4_wish 8 = .ok (.iconst 3, 1) := by decide +kernel
theorem dX4_wish_9 : decode cX4_wish 9 = .ok (.invokevirtual 31, 3) := by decide +kernel
theorem dX4_wish_12 : decode cX4_wish 12 = .ok (.invokestatic 35, 3) := by decide +kernel
theorem dX4_wish_15 : decode cX4_wish 15 = .ok (.aload_n 0, 1) := by decide +kernel
theorem dX4_wish_16 : decode cX4_wish 16 = .ok (.iload_n 1, 1) := by decide +kernel
theorem dX4_wish_17 : decode cX4_wish 17 = .ok (.invokevirtual 40, 3) := by decide +kernel
theorem dX4_wish_20 : decode cX4_wish 20 = .ok (.invokestatic 44, 3) := by decide +kernel
theorem dX4_wish_23 : decode cX4_wish 23 = .ok (.ireturn, 1) := by decide +kernel
theorem dX4_above_0 : decode cX4_above 0 = .ok (.aload_n 0, 1) := by decide +kernel
theorem dX4_above_1 : decode cX4_above 1 = .ok (.iload_n 1, 1) := by decide +kernel
theorem dX4_above_2 : decode cX4_above 2 = .ok (.bipush 7, 2) := by decide +kernel
theorem dX4_above_4 : decode cX4_above 4 = .ok (.invokevirtual 31, 3) := by decide +kernel
theorem dX4_above_7 : decode cX4_above 7 = .ok (.aload_n 0, 1) := by decide +kernel
theorem dX4_above_8 : decode cX4_above 8 = .ok (.iload_n 1, 1) := by decide +kernel
theorem dX4_above_9 : decode cX4_above 9 = .ok (.bipush 8, 2) := by decide +kernel
theorem dX4_above_11 : decode cX4_above 11 = .ok (.invokevirtual 31, 3) := by decide +kernel
theorem dX4_above_14 : decode cX4_above 14 = .ok (.isub, 1) := by decide +kernel
theorem dX4_above_15 : decode cX4_above 15 = .ok (.ireturn, 1) := by decide +kernel
theorem dX4_wayAcross_0 : decode cX4_wayAcross 0 = .ok (.aload_n 0, 1) := by decide +kernel
theorem dX4_wayAcross_1 : decode cX4_wayAcross 1 = .ok (.iload_n 1, 1) := by decide +kernel
theorem dX4_wayAcross_2 : decode cX4_wayAcross 2 = .ok (.bipush 9, 2) := by decide +kernel
theorem dX4_wayAcross_4 : decode cX4_wayAcross 4 = .ok (.invokevirtual 31, 3) := by decide +kernel
theorem dX4_wayAcross_7 : decode cX4_wayAcross 7 = .ok (.istore_n 2, 1) := by decide +kernel
theorem dX4_wayAcross_8 : decode cX4_wayAcross 8 = .ok (.iload_n 2, 1) := by decide +kernel
theorem dX4_wayAcross_9 : decode cX4_wayAcross 9 = .ok (.iconst 4, 1) := by decide +kernel
theorem dX4_wayAcross_10 : decode cX4_wayAcross 10 = .ok (.if_icmp .ne 11, 3) := by decide +kernel
theorem dX4_wayAcross_13 : decode cX4_wayAcross 13 = .ok (.aload_n 0, 1) := by decide +kernel
theorem dX4_wayAcross_14 : decode cX4_wayAcross 14 = .ok (.iconst 5, 1) := by decide +kernel
theorem dX4_wayAcross_15 : decode cX4_wayAcross 15 = .ok (.invokevirtual 47, 3) := by decide +kernel
theorem dX4_wayAcross_18 : decode cX4_wayAcross 18 = .ok (.goto 4, 3) := by decide +kernel
theorem dX4_wayAcross_21 : decode cX4_wayAcross 21 = .ok (.iload_n 2, 1) := by decide +kernel
theorem dX4_wayAcross_22 : decode cX4_wayAcross 22 = .ok (.ireturn, 1) := by decide +kernel
theorem dX4_append_0 : decode cX4_append 0 = .ok (.iconst 0, 1) := by decide +kernel
theorem dX4_append_1 : decode cX4_append 1 = .ok (.istore_n 2, 1) := by decide +kernel
theorem dX4_append_2 : decode cX4_append 2 = .ok (.iload_n 2, 1) := by decide +kernel
theorem dX4_append_3 : decode cX4_append 3 = .ok (.bipush 10, 2) := by decide +kernel
theorem dX4_append_5 : decode cX4_append 5 = .ok (.if_icmp .ge 27, 3) := by decide +kernel
theorem dX4_append_8 : decode cX4_append 8 = .ok (.iload_n 2, 1) := by decide +kernel
theorem dX4_append_9 : decode cX4_append 9 = .ok (.aload_n 1, 1) := by decide +kernel
theorem dX4_append_10 : decode cX4_append 10 = .ok (.arraylength, 1) := by decide +kernel
theorem dX4_append_11 : decode cX4_append 11 = .ok (.if_icmp .ge 21, 3) := by decide +kernel
theorem dX4_append_14 : decode cX4_append 14 = .ok (.aload_n 0, 1) := by decide +kernel
theorem dX4_append_15 : decode cX4_append 15 = .ok (.aload_n 0, 1) := by decide +kernel
theorem dX4_append_16 : decode cX4_append 16 = .ok (.getfield 27, 3) := by decide +kernel
theorem dX4_append_19 : decode cX4_append 19 = .ok (.iload_n 2, 1) := by decide +kernel
theorem dX4_append_20 : decode cX4_append 20 = .ok (.aload_n 1, 1) := by decide +kernel
theorem dX4_append_21 : decode cX4_append 21 = .ok (.iload_n 2, 1) := by decide +kernel
theorem dX4_append_22 : decode cX4_append 22 = .ok (.iaload, 1) := by decide +kernel
theorem dX4_append_23 : decode cX4_append 23 = .ok (.invokevirtual 50, 3) := by decide +kernel
theorem dX4_append_26 : decode cX4_append 26 = .ok (.iinc 2 1, 3) := by decide +kernel
theorem dX4_append_29 : decode cX4_append 29 = .ok (.goto (-27), 3) := by decide +kernel
theorem dX4_append_32 : decode cX4_append 32 = .ok (.aload_n 0, 1) := by decide +kernel
theorem dX4_append_33 : decode cX4_append 33 = .ok (.aload_n 0, 1) := by decide +kernel
theorem dX4_append_34 : decode cX4_append 34 = .ok (.getfield 27, 3) := by decide +kernel
theorem dX4_append_37 : decode cX4_append 37 = .ok (.bipush 10, 2) := by decide +kernel
theorem dX4_append_39 : decode cX4_append 39 = .ok (.iconst 0, 1) := by decide +kernel
theorem dX4_append_40 : decode cX4_append 40 = .ok (.invokevirtual 50, 3) := by decide +kernel
theorem dX4_append_43 : decode cX4_append 43 = .ok (.aload_n 0, 1) := by decide +kernel
theorem dX4_append_44 : decode cX4_append 44 = .ok (.dup, 1) := by decide +kernel
theorem dX4_append_45 : decode cX4_append 45 = .ok (.getfield 27, 3) := by decide +kernel
theorem dX4_append_48 : decode cX4_append 48 = .ok (.iconst 1, 1) := by decide +kernel
theorem dX4_append_49 : decode cX4_append 49 = .ok (.iadd, 1) := by decide +kernel
theorem dX4_append_50 : decode cX4_append 50 = .ok (.putfield 27, 3) := by decide +kernel
theorem dX4_append_53 : decode cX4_append 53 = .ok (.return_, 1) := by decide +kernel
theorem dX4_carry_0 : decode cX4_carry 0 = .ok (.iload_n 1, 1) := by decide +kernel
theorem dX4_carry_1 : decode cX4_carry 1 = .ok (.istore_n 3, 1) := by decide +kernel
theorem dX4_carry_2 : decode cX4_carry 2 = .ok (.iload_n 3, 1) := by decide +kernel
theorem dX4_carry_3 : decode cX4_carry 3 = .ok (.iload_n 2, 1) := by decide +kernel
theorem dX4_carry_4 : decode cX4_carry 4 = .ok (.if_icmp .ge 17, 3) := by decide +kernel
theorem dX4_carry_7 : decode cX4_carry 7 = .ok (.aload_n 0, 1) := by decide +kernel
theorem dX4_carry_8 : decode cX4_carry 8 = .ok (.iload_n 3, 1) := by decide +kernel
theorem dX4_carry_9 : decode cX4_carry 9 = .ok (.iload_n 3, 1) := by decide +kernel
theorem dX4_carry_10 : decode cX4_carry 10 = .ok (.iconst 1, 1) := by decide +kernel
theorem dX4_carry_11 : decode cX4_carry 11 = .ok (.iadd, 1) := by decide +kernel
theorem dX4_carry_12 : decode cX4_carry 12 = .ok (.invokevirtual 54, 3) := by decide +kernel
theorem dX4_carry_15 : decode cX4_carry 15 = .ok (.iinc 3 1, 3) := by decide +kernel
theorem dX4_carry_18 : decode cX4_carry 18 = .ok (.goto (-16), 3) := by decide +kernel
theorem dX4_carry_21 : decode cX4_carry 21 = .ok (.iload_n 1, 1) := by decide +kernel
theorem dX4_carry_22 : decode cX4_carry 22 = .ok (.istore_n 3, 1) := by decide +kernel
theorem dX4_carry_23 : decode cX4_carry 23 = .ok (.iload_n 3, 1) := by decide +kernel
theorem dX4_carry_24 : decode cX4_carry 24 = .ok (.iload_n 2, 1) := by decide +kernel
theorem dX4_carry_25 : decode cX4_carry 25 = .ok (.if_icmp .le 17, 3) := by decide +kernel
theorem dX4_carry_28 : decode cX4_carry 28 = .ok (.aload_n 0, 1) := by decide +kernel
theorem dX4_carry_29 : decode cX4_carry 29 = .ok (.iload_n 3, 1) := by decide +kernel
theorem dX4_carry_30 : decode cX4_carry 30 = .ok (.iload_n 3, 1) := by decide +kernel
theorem dX4_carry_31 : decode cX4_carry 31 = .ok (.iconst 1, 1) := by decide +kernel
theorem dX4_carry_32 : decode cX4_carry 32 = .ok (.isub, 1) := by decide +kernel
theorem dX4_carry_33 : decode cX4_carry 33 = .ok (.invokevirtual 54, 3) := by decide +kernel
theorem dX4_carry_36 : decode cX4_carry 36 = .ok (.iinc 3 (-1), 3) := by decide +kernel
theorem dX4_carry_39 : decode cX4_carry 39 = .ok (.goto (-16), 3) := by decide +kernel
theorem dX4_carry_42 : decode cX4_carry 42 = .ok (.return_, 1) := by decide +kernel
theorem dX4_swap_0 : decode cX4_swap 0 = .ok (.iconst 0, 1) := by decide +kernel
theorem dX4_swap_1 : decode cX4_swap 1 = .ok (.istore_n 3, 1) := by decide +kernel
theorem dX4_swap_2 : decode cX4_swap 2 = .ok (.iload_n 3, 1) := by decide +kernel
theorem dX4_swap_3 : decode cX4_swap 3 = .ok (.bipush 11, 2) := by decide +kernel
theorem dX4_swap_5 : decode cX4_swap 5 = .ok (.if_icmp .ge 37, 3) := by decide +kernel
theorem dX4_swap_8 : decode cX4_swap 8 = .ok (.aload_n 0, 1) := by decide +kernel
theorem dX4_swap_9 : decode cX4_swap 9 = .ok (.iload_n 1, 1) := by decide +kernel
theorem dX4_swap_10 : decode cX4_swap 10 = .ok (.iload_n 3, 1) := by decide +kernel
end
section
theorem dX4_swap_11 : decode cX4_swap 11 = .ok (.invokevirtual 31, 3) := by decide +kernel
theorem dX4_swap_14 : decode cX4_swap 14 = .ok (.istore 4, 2) := by decide +kernel
theorem dX4_swap_16 : decode cX4_swap 16 = .ok (.aload_n 0, 1) := by decide +kernel
theorem dX4_swap_17 : decode cX4_swap 17 = .ok (.iload_n 1, 1) := by decide +kernel
theorem dX4_swap_18 : decode cX4_swap 18 = .ok (.iload_n 3, 1) := by decide +kernel
theorem dX4_swap_19 : decode cX4_swap 19 = .ok (.aload_n 0, 1) := by decide +kernel
theorem dX4_swap_20 : decode cX4_swap 20 = .ok (.iload_n 2, 1) := by decide +kernel
theorem dX4_swap_21 : decode cX4_swap 21 = .ok (.iload_n 3, 1) := by decide +kernel
theorem dX4_swap_22 : decode cX4_swap 22 = .ok (.invokevirtual 31, 3) := by decide +kernel
theorem dX4_swap_25 : decode cX4_swap 25 = .ok (.invokevirtual 50, 3) := by decide +kernel
theorem dX4_swap_28 : decode cX4_swap 28 = .ok (.aload_n 0, 1) := by decide +kernel
theorem dX4_swap_29 : decode cX4_swap 29 = .ok (.iload_n 2, 1) := by decide +kernel
theorem dX4_swap_30 : decode cX4_swap 30 = .ok (.iload_n 3, 1) := by decide +kernel
theorem dX4_swap_31 : decode cX4_swap 31 = .ok (.iload 4, 2) := by decide +kernel
theorem dX4_swap_33 : decode cX4_swap 33 = .ok (.invokevirtual 50, 3) := by decide +kernel
theorem dX4_swap_36 : decode cX4_swap 36 = .ok (.iinc 3 1, 3) := by decide +kernel
theorem dX4_swap_39 : decode cX4_swap 39 = .ok (.goto (-37), 3) := by decide +kernel
theorem dX4_swap_42 : decode cX4_swap 42 = .ok (.return_, 1) := by decide +kernel
theorem dX5_init_0 : decode cX5_init 0 = .ok (.aload_n 0, 1) := by decide +kernel
theorem dX5_init_1 : decode cX5_init 1 = .ok (.invokespecial 3, 3) := by decide +kernel
theorem dX5_init_4 : decode cX5_init 4 = .ok (.aload_n 0, 1) := by decide +kernel
theorem dX5_init_5 : decode cX5_init 5 = .ok (.bipush 80, 2) := by decide +kernel
theorem dX5_init_7 : decode cX5_init 7 = .ok (.newarray .byte, 2) := by decide +kernel
theorem dX5_init_9 : decode cX5_init 9 = .ok (.putfield 9, 3) := by decide +kernel
theorem dX5_init_12 : decode cX5_init 12 = .ok (.aload_n 0, 1) := by decide +kernel
theorem dX5_init_13 : decode cX5_init 13 = .ok (.bipush 10, 2) := by decide +kernel
theorem dX5_init_15 : decode cX5_init 15 = .ok (.newarray .int, 2) := by decide +kernel
theorem dX5_init_17 : decode cX5_init 17 = .ok (.putfield 15, 3) := by decide +kernel
theorem dX5_init_20 : decode cX5_init 20 = .ok (.return_, 1) := by decide +kernel
theorem dX5_append_0 : decode cX5_append 0 = .ok (.aload_n 0, 1) := by decide +kernel
theorem dX5_append_1 : decode cX5_append 1 = .ok (.getfield 19, 3) := by decide +kernel
theorem dX5_append_4 : decode cX5_append 4 = .ok (.ifCond .lt 12, 3) := by decide +kernel
theorem dX5_append_7 : decode cX5_append 7 = .ok (.aload_n 0, 1) := by decide +kernel
theorem dX5_append_8 : decode cX5_append 8 = .ok (.getfield 19, 3) := by decide +kernel
theorem dX5_append_11 : decode cX5_append 11 = .ok (.bipush 80, 2) := by decide +kernel
theorem dX5_append_13 : decode cX5_append 13 = .ok (.if_icmp .lt 5, 3) := by decide +kernel
theorem dX5_append_16 : decode cX5_append 16 = .ok (.iconst 0, 1) := by decide +kernel
theorem dX5_append_17 : decode cX5_append 17 = .ok (.ireturn, 1) := by decide +kernel
theorem dX5_append_18 : decode cX5_append 18 = .ok (.aload_n 0, 1) := by decide +kernel
theorem dX5_append_19 : decode cX5_append 19 = .ok (.getfield 9, 3) := by decide +kernel
theorem dX5_append_22 : decode cX5_append 22 = .ok (.aload_n 0, 1) := by decide +kernel
theorem dX5_append_23 : decode cX5_append 23 = .ok (.getfield 19, 3) := by decide +kernel
theorem dX5_append_26 : decode cX5_append 26 = .ok (.iload_n 1, 1) := by decide +kernel
theorem dX5_append_27 : decode cX5_append 27 = .ok (.i2b, 1) := by decide +kernel
theorem dX5_append_28 : decode cX5_append 28 = .ok (.bastore, 1) := by decide +kernel
theorem dX5_append_29 : decode cX5_append 29 = .ok (.aload_n 0, 1) := by decide +kernel
theorem dX5_append_30 : decode cX5_append 30 = .ok (.dup, 1) := by decide +kernel
theorem dX5_append_31 : decode cX5_append 31 = .ok (.getfield 19, 3) := by decide +kernel
theorem dX5_append_34 : decode cX5_append 34 = .ok (.iconst 1, 1) := by decide +kernel
theorem dX5_append_35 : decode cX5_append 35 = .ok (.iadd, 1) := by decide +kernel
theorem dX5_append_36 : decode cX5_append 36 = .ok (.putfield 19, 3) := by decide +kernel
theorem dX5_append_39 : decode cX5_append 39 = .ok (.iconst 1, 1) := by decide +kernel
theorem dX5_append_40 : decode cX5_append 40 = .ok (.ireturn, 1) := by decide +kernel
theorem dX5_byteAt_0 : decode cX5_byteAt 0 = .ok (.iload_n 1, 1) := by decide +kernel
theorem dX5_byteAt_1 : decode cX5_byteAt 1 = .ok (.ifCond .lt 26, 3) := by decide +kernel
theorem dX5_byteAt_4 : decode cX5_byteAt 4 = .ok (.iload_n 1, 1) := by decide +kernel
theorem dX5_byteAt_5 : decode cX5_byteAt 5 = .ok (.aload_n 0, 1) := by decide +kernel
theorem dX5_byteAt_6 : decode cX5_byteAt 6 = .ok (.getfield 19, 3) := by decide +kernel
theorem dX5_byteAt_9 : decode cX5_byteAt 9 = .ok (.if_icmp .ge 18, 3) := by decide +kernel
theorem dX5_byteAt_12 : decode cX5_byteAt 12 = .ok (.iload_n 1, 1) := by decide +kernel
theorem dX5_byteAt_13 : decode cX5_byteAt 13 = .ok (.bipush 80, 2) := by decide +kernel
theorem dX5_byteAt_15 : decode cX5_byteAt 15 = .ok (.if_icmp .ge 12, 3) := by decide +kernel
theorem dX5_byteAt_18 : decode cX5_byteAt 18 = .ok (.aload_n 0, 1) := by decide +kernel
theorem dX5_byteAt_19 : decode cX5_byteAt 19 = .ok (.getfield 9, 3) := by decide +kernel
theorem dX5_byteAt_22 : decode cX5_byteAt 22 = .ok (.iload_n 1, 1) := by decide +kernel
theorem dX5_byteAt_23 : decode cX5_byteAt 23 = .ok (.baload, 1) := by decide +kernel
theorem dX5_byteAt_24 : decode cX5_byteAt 24 = .ok (.goto 4, 3) := by decide +kernel
theorem dX5_byteAt_27 : decode cX5_byteAt 27 = .ok (.iconst (-1), 1) := by decide +kernel
theorem dX5_byteAt_28 : decode cX5_byteAt 28 = .ok (.ireturn, 1) := by decide +kernel
theorem dX5_read_0 : decode cX5_read 0 = .ok (.getstatic 23, 3) := by decide +kernel
theorem dX5_read_3 : decode cX5_read 3 = .ok (.iconst 0, 1) := by decide +kernel
theorem dX5_read_4 : decode cX5_read 4 = .ok (.aload_n 0, 1) := by decide +kernel
theorem dX5_read_5 : decode cX5_read 5 = .ok (.getfield 15, 3) := by decide +kernel
theorem dX5_read_8 : decode cX5_read 8 = .ok (.iconst 0, 1) := by decide +kernel
theorem dX5_read_9 : decode cX5_read 9 = .ok (.bipush 10, 2) := by decide +kernel
theorem dX5_read_11 : decode cX5_read 11 = .ok (.invokestatic 26, 3) := by decide +kernel
theorem dX5_read_14 : decode cX5_read 14 = .ok (.aload_n 0, 1) := by decide +kernel
theorem dX5_read_15 : decode cX5_read 15 = .ok (.iconst 0, 1) := by decide +kernel
theorem dX5_read_16 : decode cX5_read 16 = .ok (.putfield 32, 3) := by decide +kernel
theorem dX5_read_19 : decode cX5_read 19 = .ok (.aload_n 0, 1) := by decide +kernel
theorem dX5_read_20 : decode cX5_read 20 = .ok (.iconst 0, 1) := by decide +kernel
theorem dX5_read_21 : decode cX5_read 21 = .ok (.putfield 35, 3) := by decide +kernel
theorem dX5_read_24 : decode cX5_read 24 = .ok (.aload_n 0, 1) := by decide +kernel
theorem dX5_read_25 : decode cX5_read 25 = .ok (.iconst 0, 1) := by decide +kernel
theorem dX5_read_26 : decode cX5_read 26 = .ok (.invokevirtual 38, 3) := by decide +kernel
theorem dX5_read_29 : decode cX5_read 29 = .ok (.istore_n 1, 1) := by decide +kernel
theorem dX5_read_30 : decode cX5_read 30 = .ok (.iconst 0, 1) := by decide +kernel
theorem dX5_read_31 : decode cX5_read 31 = .ok (.istore_n 2, 1) := by decide +kernel
theorem dX5_read_32 : decode cX5_read 32 = .ok (.iload_n 2, 1) := by decide +kernel
theorem dX5_read_33 : decode cX5_read 33 = .ok (.bipush 80, 2) := by decide +kernel
theorem dX5_read_35 : decode cX5_read 35 = .ok (.if_icmp .ge 46, 3) := by decide +kernel
theorem dX5_read_38 : decode cX5_read 38 = .ok (.iload_n 1, 1) := by decide +kernel
theorem dX5_read_39 : decode cX5_read 39 = .ok (.ifCond .ge 42, 3) := by decide +kernel
theorem dX5_read_42 : decode cX5_read 42 = .ok (.aload_n 0, 1) := by decide +kernel
theorem dX5_read_43 : decode cX5_read 43 = .ok (.getfield 32, 3) := by decide +kernel
theorem dX5_read_46 : decode cX5_read 46 = .ok (.aload_n 0, 1) := by decide +kernel
theorem dX5_read_47 : decode cX5_read 47 = .ok (.getfield 19, 3) := by decide +kernel
theorem dX5_read_50 : decode cX5_read 50 = .ok (.if_icmp .ge 31, 3) := by decide +kernel
theorem dX5_read_53 : decode cX5_read 53 = .ok (.aload_n 0, 1) := by decide +kernel
theorem dX5_read_54 : decode cX5_read 54 = .ok (.invokevirtual 42, 3) := by decide +kernel
theorem dX5_read_57 : decode cX5_read 57 = .ok (.istore_n 3, 1) := by decide +kernel
theorem dX5_read_58 : decode cX5_read 58 = .ok (.iload_n 3, 1) := by decide +kernel
theorem dX5_read_59 : decode cX5_read 59 = .ok (.ifCond .ge 10, 3) := by decide +kernel
theorem dX5_read_62 : decode cX5_read 62 = .ok (.aload_n 0, 1) := by decide +kernel
theorem dX5_read_63 : decode cX5_read 63 = .ok (.getfield 32, 3) := by decide +kernel
theorem dX5_read_66 : decode cX5_read 66 = .ok (.goto 8, 3) := by decide +kernel
theorem dX5_read_69 : decode cX5_read 69 = .ok (.aload_n 0, 1) := by decide +kernel
theorem dX5_read_70 : decode cX5_read 70 = .ok (.iload_n 3, 1) := by decide +kernel
theorem dX5_read_71 : decode cX5_read 71 = .ok (.invokevirtual 38, 3) := by decide +kernel
theorem dX5_read_74 : decode cX5_read 74 = .ok (.istore_n 1, 1) := by decide +kernel
theorem dX5_read_75 : decode cX5_read 75 = .ok (.iinc 2 1, 3) := by decide +kernel
theorem dX5_read_78 : decode cX5_read 78 = .ok (.goto (-46), 3) := by decide +kernel
theorem dX5_read_81 : decode cX5_read 81 = .ok (.iload_n 1, 1) := by decide +kernel
theorem dX5_read_82 : decode cX5_read 82 = .ok (.ireturn, 1) := by decide +kernel
theorem dX5_readNumber_0 : decode cX5_readNumber 0 = .ok (.aload_n 0, 1) := by decide +kernel
theorem dX5_readNumber_1 : decode cX5_readNumber 1 = .ok (.invokevirtual 46, 3) := by decide +kernel
theorem dX5_readNumber_4 : decode cX5_readNumber 4 = .ok (.aload_n 0, 1) := by decide +kernel
theorem dX5_readNumber_5 : decode cX5_readNumber 5 = .ok (.getfield 32, 3) := by decide +kernel
theorem dX5_readNumber_8 : decode cX5_readNumber 8 = .ok (.istore_n 2, 1) := by decide +kernel
theorem dX5_readNumber_9 : decode cX5_readNumber 9 = .ok (.iload_n 1, 1) := by decide +kernel
theorem dX5_readNumber_10 : decode cX5_readNumber 10 = .ok (.bipush 6, 2) := by decide +kernel
theorem dX5_readNumber_12 : decode cX5_readNumber 12 = .ok (.if_icmp .ne 20, 3) := by decide +kernel
theorem dX5_readNumber_15 : decode cX5_readNumber 15 = .ok (.aload_n 0, 1) := by decide +kernel
theorem dX5_readNumber_16 : decode cX5_readNumber 16 = .ok (.aload_n 0, 1) := by decide +kernel
theorem dX5_readNumber_17 : decode cX5_readNumber 17 = .ok (.getfield 32, 3) := by decide +kernel
theorem dX5_readNumber_20 : decode cX5_readNumber 20 = .ok (.invokevirtual 49, 3) := by decide +kernel
theorem dX5_readNumber_23 : decode cX5_readNumber 23 = .ok (.bipush 45, 2) := by decide +kernel
theorem dX5_readNumber_25 : decode cX5_readNumber 25 = .ok (.if_icmp .ne 7, 3) := by decide +kernel
theorem dX5_readNumber_28 : decode cX5_readNumber 28 = .ok (.iconst 1, 1) := by decide +kernel
theorem dX5_readNumber_29 : decode cX5_readNumber 29 = .ok (.goto 4, 3) := by decide +kernel
theorem dX5_readNumber_32 : decode cX5_readNumber 32 = .ok (.iconst 0, 1) := by decide +kernel
theorem dX5_readNumber_33 : decode cX5_readNumber 33 = .ok (.istore_n 3, 1) := by decide +kernel
theorem dX5_readNumber_34 : decode cX5_readNumber 34 = .ok (.iload_n 3, 1) := by decide +kernel
theorem dX5_readNumber_35 : decode cX5_readNumber 35 = .ok (.ifCond .eq 13, 3) := by decide +kernel
theorem dX5_readNumber_38 : decode cX5_readNumber 38 = .ok (.aload_n 0, 1) := by decide +kernel
theorem dX5_readNumber_39 : decode cX5_readNumber 39 = .ok (.dup, 1) := by decide +kernel
theorem dX5_readNumber_40 : decode cX5_readNumber 40 = .ok (.getfield 32, 3) := by decide +kernel
theorem dX5_readNumber_43 : decode cX5_readNumber 43 = .ok (.iconst 1, 1) := by decide +kernel
theorem dX5_readNumber_44 : decode cX5_readNumber 44 = .ok (.iadd, 1) := by decide +kernel
theorem dX5_readNumber_45 : decode cX5_readNumber 45 = .ok (.putfield 32, 3) := by decide +kernel
theorem dX5_readNumber_48 : decode cX5_readNumber 48 = .ok (.aload_n 0, 1) := by decide +kernel
theorem dX5_readNumber_49 : decode cX5_readNumber 49 = .ok (.getfield 32, 3) := by decide +kernel
theorem dX5_readNumber_52 : decode cX5_readNumber 52 = .ok (.istore 4, 2) := by decide +kernel
theorem dX5_readNumber_54 : decode cX5_readNumber 54 = .ok (.iconst 0, 1) := by decide +kernel
theorem dX5_readNumber_55 : decode cX5_readNumber 55 = .ok (.istore 5, 2) := by decide +kernel
theorem dX5_readNumber_57 : decode cX5_readNumber 57 = .ok (.aload_n 0, 1) := by decide +kernel
theorem dX5_readNumber_58 : decode cX5_readNumber 58 = .ok (.getfield 32, 3) := by decide +kernel
theorem dX5_readNumber_61 : decode cX5_readNumber 61 = .ok (.iload 4, 2) := by decide +kernel
theorem dX5_readNumber_63 : decode cX5_readNumber 63 = .ok (.iconst 3, 1) := by decide +kernel
theorem dX5_readNumber_64 : decode cX5_readNumber 64 = .ok (.iadd, 1) := by decide +kernel
theorem dX5_readNumber_65 : decode cX5_readNumber 65 = .ok (.if_icmp .ge 49, 3) := by decide +kernel
theorem dX5_readNumber_68 : decode cX5_readNumber 68 = .ok (.aload_n 0, 1) := by decide +kernel
theorem dX5_readNumber_69 : decode cX5_readNumber 69 = .ok (.aload_n 0, 1) := by decide +kernel
theorem dX5_readNumber_70 : decode cX5_readNumber 70 = .ok (.getfield 32, 3) := by decide +kernel
theorem dX5_readNumber_73 : decode cX5_readNumber 73 = .ok (.invokevirtual 49, 3) := by decide +kernel
theorem dX5_readNumber_76 : decode cX5_readNumber 76 = .ok (.invokestatic 52, 3) := by decide +kernel
theorem dX5_readNumber_79 : decode cX5_readNumber 79 = .ok (.ifCond .eq 35, 3) := by decide +kernel
theorem dX5_readNumber_82 : decode cX5_readNumber 82 = .ok (.iload 5, 2) := by decide +kernel
theorem dX5_readNumber_84 : decode cX5_readNumber 84 = .ok (.bipush 10, 2) := by decide +kernel
theorem dX5_readNumber_86 : decode cX5_readNumber 86 = .ok (.imul, 1) := by decide +kernel
theorem dX5_readNumber_87 : decode cX5_readNumber 87 = .ok (.aload_n 0, 1) := by decide +kernel
theorem dX5_readNumber_88 : decode cX5_readNumber 88 = .ok (.aload_n 0, 1) := by decide +kernel
theorem dX5_readNumber_89 : decode cX5_readNumber 89 = .ok (.getfield 32, 3) := by decide +kernel
theorem dX5_readNumber_92 : decode cX5_readNumber 92 = .ok (.invokevirtual 49, 3) := by decide +kernel
theorem dX5_readNumber_95 : decode cX5_readNumber 95 = .ok (.iadd, 1) := by decide +kernel
theorem dX5_readNumber_96 : decode cX5_readNumber 96 = .ok (.bipush 48, 2) := by decide +kernel
theorem dX5_readNumber_98 : decode cX5_readNumber 98 = .ok (.isub, 1) := by decide +kernel
theorem dX5_readNumber_99 : decode cX5_readNumber 99 = .ok (.istore 5, 2) := by decide +kernel
theorem dX5_readNumber_101 : decode cX5_readNumber 101 = .ok (.aload_n 0, 1) := by decide +kernel
theorem dX5_readNumber_102 : decode cX5_readNumber 102 = .ok (.dup, 1) := by decide +kernel
theorem dX5_readNumber_103 : decode cX5_readNumber 103 = .ok (.getfield 32, 3) := by decide +kernel
theorem dX5_readNumber_106 : decode cX5_readNumber 106 = .ok (.iconst 1, 1) := by decide +kernel
theorem dX5_readNumber_107 : decode cX5_readNumber 107 = .ok (.iadd, 1) := by decide +kernel
theorem dX5_readNumber_108 : decode cX5_readNumber 108 = .ok (.putfield 32, 3) := by decide +kernel
theorem dX5_readNumber_111 : decode cX5_readNumber 111 = .ok (.goto (-54), 3) := by decide +kernel
theorem dX5_readNumber_114 : decode cX5_readNumber 114 = .ok (.aload_n 0, 1) := by decide +kernel
theorem dX5_readNumber_115 : decode cX5_readNumber 115 = .ok (.getfield 32, 3) := by decide +kernel
theorem dX5_readNumber_118 : decode cX5_readNumber 118 = .ok (.iload 4, 2) := by decide +kernel
theorem dX5_readNumber_120 : decode cX5_readNumber 120 = .ok (.if_icmp .ne 8, 3) := by decide +kernel
theorem dX5_readNumber_123 : decode cX5_readNumber 123 = .ok (.aload_n 0, 1) := by decide +kernel
theorem dX5_readNumber_124 : decode cX5_readNumber 124 = .ok (.getfield 32, 3) := by decide +kernel
theorem dX5_readNumber_127 : decode cX5_readNumber 127 = .ok (.ireturn, 1) := by decide +kernel
theorem dX5_readNumber_128 : decode cX5_readNumber 128 = .ok (.iload_n 3, 1) := by decide +kernel
theorem dX5_readNumber_129 : decode cX5_readNumber 129 = .ok (.ifCond .eq 9, 3) := by decide +kernel
theorem dX5_readNumber_132 : decode cX5_readNumber 132 = .ok (.iload 5, 2) := by decide +kernel
theorem dX5_readNumber_134 : decode cX5_readNumber 134 = .ok (.ineg, 1) := by decide +kernel
theorem dX5_readNumber_135 : decode cX5_readNumber 135 = .ok (.goto 5, 3) := by decide +kernel
theorem dX5_readNumber_138 : decode cX5_readNumber 138 = .ok (.iload 5, 2) := by decide +kernel
theorem dX5_readNumber_140 : decode cX5_readNumber 140 = .ok (.istore 5, 2) := by decide +kernel
theorem dX5_readNumber_142 : decode cX5_readNumber 142 = .ok (.iload_n 1, 1) := by decide +kernel
theorem dX5_readNumber_143 : decode cX5_readNumber 143 = .ok (.ifCond .lt 29, 3) := by decide +kernel
theorem dX5_readNumber_146 : decode cX5_readNumber 146 = .ok (.iload_n 1, 1) := by decide +kernel
theorem dX5_readNumber_147 : decode cX5_readNumber 147 = .ok (.bipush 10, 2) := by decide +kernel
theorem dX5_readNumber_149 : decode cX5_readNumber 149 = .ok (.if_icmp .ge 23, 3) := by decide +kernel
theorem dX5_readNumber_152 : decode cX5_readNumber 152 = .ok (.iload 5, 2) := by decide +kernel
theorem dX5_readNumber_154 : decode cX5_readNumber 154 = .ok (.getstatic 56, 3) := by decide +kernel
theorem dX5_readNumber_157 : decode cX5_readNumber 157 = .ok (.iload_n 1, 1) := by decide +kernel
theorem dX5_readNumber_158 : decode cX5_readNumber 158 = .ok (.iaload, 1) := by decide +kernel
theorem dX5_readNumber_159 : decode cX5_readNumber 159 = .ok (.if_icmp .lt 13, 3) := by decide +kernel
theorem dX5_readNumber_162 : decode cX5_readNumber 162 = .ok (.iload 5, 2) := by decide +kernel
theorem dX5_readNumber_164 : decode cX5_readNumber 164 = .ok (.getstatic 59, 3) := by decide +kernel
theorem dX5_readNumber_167 : decode cX5_readNumber 167 = .ok (.iload_n 1, 1) := by decide +kernel
theorem dX5_readNumber_168 : decode cX5_readNumber 168 = .ok (.iaload, 1) := by decide +kernel
theorem dX5_readNumber_169 : decode cX5_readNumber 169 = .ok (.if_icmp .le 5, 3) := by decide +kernel
theorem dX5_readNumber_172 : decode cX5_readNumber 172 = .ok (.iload_n 2, 1) := by decide +kernel
theorem dX5_readNumber_173 : decode cX5_readNumber 173 = .ok (.ireturn, 1) := by decide +kernel
theorem dX5_readNumber_174 : decode cX5_readNumber 174 = .ok (.aload_n 0, 1) := by decide +kernel
theorem dX5_readNumber_175 : decode cX5_readNumber 175 = .ok (.aload_n 0, 1) := by decide +kernel
theorem dX5_readNumber_176 : decode cX5_readNumber 176 = .ok (.getfield 32, 3) := by decide +kernel
theorem dX5_readNumber_179 : decode cX5_readNumber 179 = .ok (.invokevirtual 49, 3) := by decide +kernel
theorem dX5_readNumber_182 : decode cX5_readNumber 182 = .ok (.invokestatic 52, 3) := by decide +kernel
theorem dX5_readNumber_185 : decode cX5_readNumber 185 = .ok (.ifCond .eq 8, 3) := by decide +kernel
theorem dX5_readNumber_188 : decode cX5_readNumber 188 = .ok (.aload_n 0, 1) := by decide +kernel
theorem dX5_readNumber_189 : decode cX5_readNumber 189 = .ok (.getfield 32, 3) := by decide +kernel
theorem dX5_readNumber_192 : decode cX5_readNumber 192 = .ok (.ireturn, 1) := by decide +kernel
theorem dX5_readNumber_193 : decode cX5_readNumber 193 = .ok (.aload_n 0, 1) := by decide +kernel
theorem dX5_readNumber_194 : decode cX5_readNumber 194 = .ok (.getfield 15, 3) := by decide +kernel
theorem dX5_readNumber_197 : decode cX5_readNumber 197 = .ok (.iload_n 1, 1) := by decide +kernel
theorem dX5_readNumber_198 : decode cX5_readNumber 198 = .ok (.iload 5, 2) := by decide +kernel
theorem dX5_readNumber_200 : decode cX5_readNumber 200 = .ok (.iastore, 1) := by decide +kernel
theorem dX5_readNumber_201 : decode cX5_readNumber 201 = .ok (.aload_n 0, 1) := by decide +kernel
theorem dX5_readNumber_202 : decode cX5_readNumber 202 = .ok (.invokevirtual 46, 3) := by decide +kernel
theorem dX5_readNumber_205 : decode cX5_readNumber 205 = .ok (.iconst (-1), 1) := by decide +kernel
theorem dX5_readNumber_206 : decode cX5_readNumber 206 = .ok (.ireturn, 1) := by decide +kernel
theorem dX5_readWord_0 : decode cX5_readWord 0 = .ok (.aload_n 0, 1) := by decide +kernel
theorem dX5_readWord_1 : decode cX5_readWord 1 = .ok (.getfield 32, 3) := by decide +kernel
theorem dX5_readWord_4 : decode cX5_readWord 4 = .ok (.istore_n 1, 1) := by decide +kernel
theorem dX5_readWord_5 : decode cX5_readWord 5 = .ok (.iload_n 1, 1) := by decide +kernel
theorem dX5_readWord_6 : decode cX5_readWord 6 = .ok (.aload_n 0, 1) := by decide +kernel
theorem dX5_readWord_7 : decode cX5_readWord 7 = .ok (.getfield 19, 3) := by decide +kernel
theorem dX5_readWord_10 : decode cX5_readWord 10 = .ok (.if_icmp .ge 20, 3) := by decide +kernel
theorem dX5_readWord_13 : decode cX5_readWord 13 = .ok (.aload_n 0, 1) := by decide +kernel
theorem dX5_readWord_14 : decode cX5_readWord 14 = .ok (.iload_n 1, 1) := by decide +kernel
theorem dX5_readWord_15 : decode cX5_readWord 15 = .ok (.invokevirtual 49, 3) := by decide +kernel
theorem dX5_readWord_18 : decode cX5_readWord 18 = .ok (.invokestatic 62, 3) := by decide +kernel
theorem dX5_readWord_21 : decode cX5_readWord 21 = .ok (.ifCond .eq 9, 3) := by decide +kernel
theorem dX5_readWord_24 : decode cX5_readWord 24 = .ok (.iinc 1 1, 3) := by decide +kernel
theorem dX5_readWord_27 : decode cX5_readWord 27 = .ok (.goto (-22), 3) := by decide +kernel
theorem dX5_readWord_30 : decode cX5_readWord 30 = .ok (.iconst 1, 1) := by decide +kernel
theorem dX5_readWord_31 : decode cX5_readWord 31 = .ok (.istore_n 2, 1) := by decide +kernel
theorem dX5_readWord_32 : decode cX5_readWord 32 = .ok (.iload_n 2, 1) := by decide +kernel
theorem dX5_readWord_33 : decode cX5_readWord 33 = .ok (.bipush 10, 2) := by decide +kernel
theorem dX5_readWord_35 : decode cX5_readWord 35 = .ok (.if_icmp .ge 61, 3) := by decide +kernel
theorem dX5_readWord_38 : decode cX5_readWord 38 = .ok (.aload_n 0, 1) := by decide +kernel
theorem dX5_readWord_39 : decode cX5_readWord 39 = .ok (.getfield 35, 3) := by decide +kernel
theorem dX5_readWord_42 : decode cX5_readWord 42 = .ok (.iload_n 2, 1) := by decide +kernel
theorem dX5_readWord_43 : decode cX5_readWord 43 = .ok (.ishr, 1) := by decide +kernel
theorem dX5_readWord_44 : decode cX5_readWord 44 = .ok (.iconst 1, 1) := by decide +kernel
theorem dX5_readWord_45 : decode cX5_readWord 45 = .ok (.iand, 1) := by decide +kernel
theorem dX5_readWord_46 : decode cX5_readWord 46 = .ok (.ifCond .ne 7, 3) := by decide +kernel
theorem dX5_readWord_49 : decode cX5_readWord 49 = .ok (.iconst 1, 1) := by decide +kernel
theorem dX5_readWord_50 : decode cX5_readWord 50 = .ok (.goto 4, 3) := by decide +kernel
theorem dX5_readWord_53 : decode cX5_readWord 53 = .ok (.iconst 0, 1) := by decide +kernel
theorem dX5_readWord_54 : decode cX5_readWord 54 = .ok (.istore_n 3, 1) := by decide +kernel
theorem dX5_readWord_55 : decode cX5_readWord 55 = .ok (.iload_n 3, 1) := by decide +kernel
theorem dX5_readWord_56 : decode cX5_readWord 56 = .ok (.ifCond .eq 34, 3) := by decide +kernel
theorem dX5_readWord_59 : decode cX5_readWord 59 = .ok (.aload_n 0, 1) := by decide +kernel
theorem dX5_readWord_60 : decode cX5_readWord 60 = .ok (.iload_n 2, 1) := by decide +kernel
theorem dX5_readWord_61 : decode cX5_readWord 61 = .ok (.invokestatic 65, 3) := by decide +kernel
theorem dX5_readWord_64 : decode cX5_readWord 64 = .ok (.iload_n 1, 1) := by decide +kernel
theorem dX5_readWord_65 : decode cX5_readWord 65 = .ok (.invokevirtual 69, 3) := by decide +kernel
theorem dX5_readWord_68 : decode cX5_readWord 68 = .ok (.ifCond .eq 22, 3) := by decide +kernel
theorem dX5_readWord_71 : decode cX5_readWord 71 = .ok (.aload_n 0, 1) := by decide +kernel
theorem dX5_readWord_72 : decode cX5_readWord 72 = .ok (.dup, 1) := by decide +kernel
theorem dX5_readWord_73 : decode cX5_readWord 73 = .ok (.getfield 35, 3) := by decide +kernel
theorem dX5_readWord_76 : decode cX5_readWord 76 = .ok (.iconst 1, 1) := by decide +kernel
theorem dX5_readWord_77 : decode cX5_readWord 77 = .ok (.iload_n 2, 1) := by decide +kernel
theorem dX5_readWord_78 : decode cX5_readWord 78 = .ok (.ishl, 1) := by decide +kernel
theorem dX5_readWord_79 : decode cX5_readWord 79 = .ok (.ior, 1) := by decide +kernel
theorem dX5_readWord_80 : decode cX5_readWord 80 = .ok (.putfield 35, 3) := by decide +kernel
theorem dX5_readWord_83 : decode cX5_readWord 83 = .ok (.aload_n 0, 1) := by decide +kernel
theorem dX5_readWord_84 : decode cX5_readWord 84 = .ok (.iload_n 1, 1) := by decide +kernel
theorem dX5_readWord_85 : decode cX5_readWord 85 = .ok (.putfield 32, 3) := by decide +kernel
theorem dX5_readWord_88 : decode cX5_readWord 88 = .ok (.iload_n 2, 1) := by decide +kernel
theorem dX5_readWord_89 : decode cX5_readWord 89 = .ok (.ireturn, 1) := by decide +kernel
theorem dX5_readWord_90 : decode cX5_readWord 90 = .ok (.iinc 2 1, 3) := by decide +kernel
theorem dX5_readWord_93 : decode cX5_readWord 93 = .ok (.goto (-61), 3) := by decide +kernel
theorem dX5_readWord_96 : decode cX5_readWord 96 = .ok (.iconst (-1), 1) := by decide +kernel
theorem dX5_readWord_97 : decode cX5_readWord 97 = .ok (.ireturn, 1) := by decide +kernel
theorem dX5_stands_0 : decode cX5_stands 0 = .ok (.aload_n 1, 1) := by decide +kernel
theorem dX5_stands_1 : decode cX5_stands 1 = .ok (.invokevirtual 73, 3) := by decide +kernel
theorem dX5_stands_4 : decode cX5_stands 4 = .ok (.iload_n 2, 1) := by decide +kernel
theorem dX5_stands_5 : decode cX5_stands 5 = .ok (.aload_n 0, 1) := by decide +kernel
theorem dX5_stands_6 : decode cX5_stands 6 = .ok (.getfield 32, 3) := by decide +kernel
theorem dX5_stands_9 : decode cX5_stands 9 = .ok (.isub, 1) := by decide +kernel
theorem dX5_stands_10 : decode cX5_stands 10 = .ok (.if_icmp .eq 5, 3) := by decide +kernel
theorem dX5_stands_13 : decode cX5_stands 13 = .ok (.iconst 0, 1) := by decide +kernel
theorem dX5_stands_14 : decode cX5_stands 14 = .ok (.ireturn, 1) := by decide +kernel
theorem dX5_stands_15 : decode cX5_stands 15 = .ok (.iconst 0, 1) := by decide +kernel
theorem dX5_stands_16 : decode cX5_stands 16 = .ok (.istore_n 3, 1) := by decide +kernel
theorem dX5_stands_17 : decode cX5_stands 17 = .ok (.iload_n 3, 1) := by decide +kernel
theorem dX5_stands_18 : decode cX5_stands 18 = .ok (.aload_n 1, 1) := by decide +kernel
theorem dX5_stands_19 : decode cX5_stands 19 = .ok (.invokevirtual 73, 3) := by decide +kernel
theorem dX5_stands_22 : decode cX5_stands 22 = .ok (.if_icmp .ge 29, 3) := by decide +kernel
theorem dX5_stands_25 : decode cX5_stands 25 = .ok (.aload_n 1, 1) := by decide +kernel
theorem dX5_stands_26 : decode cX5_stands 26 = .ok (.iload_n 3, 1) := by decide +kernel
theorem dX5_stands_27 : decode cX5_stands 27 = .ok (.invokevirtual 77, 3) := by decide +kernel
theorem dX5_stands_30 : decode cX5_stands 30 = .ok (.aload_n 0, 1) := by decide +kernel
theorem dX5_stands_31 : decode cX5_stands 31 = .ok (.aload_n 0, 1) := by decide +kernel
theorem dX5_stands_32 : decode cX5_stands 32 = .ok (.getfield 32, 3) := by decide +kernel
theorem dX5_stands_35 : decode cX5_stands 35 = .ok (.iload_n 3, 1) := by decide +kernel
theorem dX5_stands_36 : decode cX5_stands 36 = .ok (.iadd, 1) := by decide +kernel
theorem dX5_stands_37 : decode cX5_stands 37 = .ok (.invokevirtual 49, 3) := by decide +kernel
theorem dX5_stands_40 : decode cX5_stands 40 = .ok (.if_icmp .eq 5, 3) := by decide +kernel
theorem dX5_stands_43 : decode cX5_stands 43 = .ok (.iconst 0, 1) := by decide +kernel
theorem dX5_stands_44 : decode cX5_stands 44 = .ok (.ireturn, 1) := by decide +kernel
theorem dX5_stands_45 : decode cX5_stands 45 = .ok (.iinc 3 1, 3) := by decide +kernel
theorem dX5_stands_48 : decode cX5_stands 48 = .ok (.goto (-31), 3) := by decide +kernel
theorem dX5_stands_51 : decode cX5_stands 51 = .ok (.iconst 1, 1) := by decide +kernel
theorem dX5_stands_52 : decode cX5_stands 52 = .ok (.ireturn, 1) := by decide +kernel
theorem dX5_skipBlanks_0 : decode cX5_skipBlanks 0 = .ok (.aload_n 0, 1) := by decide +kernel
theorem dX5_skipBlanks_1 : decode cX5_skipBlanks 1 = .ok (.getfield 32, 3) := by decide +kernel
theorem dX5_skipBlanks_4 : decode cX5_skipBlanks 4 = .ok (.aload_n 0, 1) := by decide +kernel
theorem dX5_skipBlanks_5 : decode cX5_skipBlanks 5 = .ok (.getfield 19, 3) := by decide +kernel
theorem dX5_skipBlanks_8 : decode cX5_skipBlanks 8 = .ok (.if_icmp .ge 29, 3) := by decide +kernel
theorem dX5_skipBlanks_11 : decode cX5_skipBlanks 11 = .ok (.aload_n 0, 1) := by decide +kernel
theorem dX5_skipBlanks_12 : decode cX5_skipBlanks 12 = .ok (.aload_n 0, 1) := by decide +kernel
theorem dX5_skipBlanks_13 : decode cX5_skipBlanks 13 = .ok (.getfield 32, 3) := by decide +kernel
theorem dX5_skipBlanks_16 : decode cX5_skipBlanks 16 = .ok (.invokevirtual 49, 3) := by decide +kernel
theorem dX5_skipBlanks_19 : decode cX5_skipBlanks 19 = .ok (.bipush 32, 2) := by decide +kernel
theorem dX5_skipBlanks_21 : decode cX5_skipBlanks 21 = .ok (.if_icmp .ne 16, 3) := by decide +kernel
theorem dX5_skipBlanks_24 : decode cX5_skipBlanks 24 = .ok (.aload_n 0, 1) := by decide +kernel
theorem dX5_skipBlanks_25 : decode cX5_skipBlanks 25 = .ok (.dup, 1) := by decide +kernel
theorem dX5_skipBlanks_26 : decode cX5_skipBlanks 26 = .ok (.getfield 32, 3) := by decide +kernel
theorem dX5_skipBlanks_29 : decode cX5_skipBlanks 29 = .ok (.iconst 1, 1) := by decide +kernel
theorem dX5_skipBlanks_30 : decode cX5_skipBlanks 30 = .ok (.iadd, 1) := by decide +kernel
theorem dX5_skipBlanks_31 : decode cX5_skipBlanks 31 = .ok (.putfield 32, 3) := by decide +kernel
theorem dX5_skipBlanks_34 : decode cX5_skipBlanks 34 = .ok (.goto (-34), 3) := by decide +kernel
theorem dX5_skipBlanks_37 : decode cX5_skipBlanks 37 = .ok (.return_, 1) := by decide +kernel
theorem dX5_isDigit_0 : decode cX5_isDigit 0 = .ok (.iload_n 0, 1) := by decide +kernel
theorem dX5_isDigit_1 : decode cX5_isDigit 1 = .ok (.bipush 48, 2) := by decide +kernel
theorem dX5_isDigit_3 : decode cX5_isDigit 3 = .ok (.if_icmp .lt 13, 3) := by decide +kernel
theorem dX5_isDigit_6 : decode cX5_isDigit 6 = .ok (.iload_n 0, 1) := by decide +kernel
theorem dX5_isDigit_7 : decode cX5_isDigit 7 = .ok (.bipush 57, 2) := by decide +kernel
theorem dX5_isDigit_9 : decode cX5_isDigit 9 = .ok (.if_icmp .gt 7, 3) := by decide +kernel
theorem dX5_isDigit_12 : decode cX5_isDigit 12 = .ok (.iconst 1, 1) := by decide +kernel
theorem dX5_isDigit_13 : decode cX5_isDigit 13 = .ok (.goto 4, 3) := by decide +kernel
theorem dX5_isDigit_16 : decode cX5_isDigit 16 = .ok (.iconst 0, 1) := by decide +kernel
theorem dX5_isDigit_17 : decode cX5_isDigit 17 = .ok (.ireturn, 1) := by decide +kernel
theorem dX5_isLetter_0 : decode cX5_isLetter 0 = .ok (.iload_n 0, 1) := by decide +kernel
theorem dX5_isLetter_1 : decode cX5_isLetter 1 = .ok (.bipush 97, 2) := by decide +kernel
theorem dX5_isLetter_3 : decode cX5_isLetter 3 = .ok (.if_icmp .lt 13, 3) := by decide +kernel
theorem dX5_isLetter_6 : decode cX5_isLetter 6 = .ok (.iload_n 0, 1) := by decide +kernel
theorem dX5_isLetter_7 : decode cX5_isLetter 7 = .ok (.bipush 122, 2) := by decide +kernel
theorem dX5_isLetter_9 : decode cX5_isLetter 9 = .ok (.if_icmp .gt 7, 3) := by decide +kernel
theorem dX5_isLetter_12 : decode cX5_isLetter 12 = .ok (.iconst 1, 1) := by decide +kernel
theorem dX5_isLetter_13 : decode cX5_isLetter 13 = .ok (.goto 4, 3) := by decide +kernel
theorem dX5_isLetter_16 : decode cX5_isLetter 16 = .ok (.iconst 0, 1) := by decide +kernel
theorem dX5_isLetter_17 : decode cX5_isLetter 17 = .ok (.ireturn, 1) := by decide +kernel
theorem dX5_word_0 : decode cX5_word 0 = .ok (.iload_n 0, 1) := by decide +kernel
theorem dX5_word_1 : decode cX5_word 1 = .ok (.tableswitch 71 1 8 #[47, 50, 53, 56, 59, 62, 65, 68], 47) := by decide +kernel
theorem dX5_word_48 : decode cX5_word 48 = .ok (.ldc 81, 2) := by decide +kernel
theorem dX5_word_50 : decode cX5_word 50 = .ok (.areturn, 1) := by decide +kernel
theorem dX5_word_51 : decode cX5_word 51 = .ok (.ldc 83, 2) := by decide +kernel
theorem dX5_word_53 : decode cX5_word 53 = .ok (.areturn, 1) := by decide +kernel
theorem dX5_word_54 : decode cX5_word 54 = .ok (.ldc 85, 2) := by decide +kernel
theorem dX5_word_56 : decode cX5_word 56 = .ok (.areturn, 1) := by decide +kernel
theorem dX5_word_57 : decode cX5_word 57 = .ok (.ldc 87, 2) := by decide +kernel
theorem dX5_word_59 : decode cX5_word 59 = .ok (.areturn, 1) := by decide +kernel
theorem dX5_word_60 : decode cX5_word 60 = .ok (.ldc 89, 2) := by decide +kernel
theorem dX5_word_62 : decode cX5_word 62 = .ok (.areturn, 1) := by decide +kernel
theorem dX5_word_63 : decode cX5_word 63 = .ok (.ldc 91, 2) := by decide +kernel
theorem dX5_word_65 : decode cX5_word 65 = .ok (.areturn, 1) := by decide +kernel
theorem dX5_word_66 : decode cX5_word 66 = .ok (.ldc 93, 2) := by decide +kernel
theorem dX5_word_68 : decode cX5_word 68 = .ok (.areturn, 1) := by decide +kernel
theorem dX5_word_69 : decode cX5_word 69 = .ok (.ldc 95, 2) := by decide +kernel
theorem dX5_word_71 : decode cX5_word 71 = .ok (.areturn, 1) := by decide +kernel
theorem dX5_word_72 : decode cX5_word 72 = .ok (.ldc 97, 2) := by decide +kernel
theorem dX5_word_74 : decode cX5_word 74 = .ok (.areturn, 1) := by decide +kernel
theorem dX6_init_0 : decode cX6_init 0 = .ok (.aload_n 0, 1) := by decide +kernel
theorem dX6_init_1 : decode cX6_init 1 = .ok (.invokespecial 1, 3) := by decide +kernel
theorem dX6_init_4 : decode cX6_init 4 = .ok (.aload_n 0, 1) := by decide +kernel
theorem dX6_init_5 : decode cX6_init 5 = .ok (.new 7, 3) := by decide +kernel
theorem dX6_init_8 : decode cX6_init 8 = .ok (.dup, 1) := by decide +kernel
theorem dX6_init_9 : decode cX6_init 9 = .ok (.invokespecial 9, 3) := by decide +kernel
theorem dX6_init_12 : decode cX6_init 12 = .ok (.putfield 10, 3) := by decide +kernel
theorem dX6_init_15 : decode cX6_init 15 = .ok (.aload_n 0, 1) := by decide +kernel
theorem dX6_init_16 : decode cX6_init 16 = .ok (.new 16, 3) := by decide +kernel
theorem dX6_init_19 : decode cX6_init 19 = .ok (.dup, 1) := by decide +kernel
theorem dX6_init_20 : decode cX6_init 20 = .ok (.invokespecial 18, 3) := by decide +kernel
theorem dX6_init_23 : decode cX6_init 23 = .ok (.putfield 19, 3) := by decide +kernel
theorem dX6_init_26 : decode cX6_init 26 = .ok (.aload_n 0, 1) := by decide +kernel
theorem dX6_init_27 : decode cX6_init 27 = .ok (.new 23, 3) := by decide +kernel
theorem dX6_init_30 : decode cX6_init 30 = .ok (.dup, 1) := by decide +kernel
theorem dX6_init_31 : decode cX6_init 31 = .ok (.invokespecial 25, 3) := by decide +kernel
theorem dX6_init_34 : decode cX6_init 34 = .ok (.putfield 26, 3) := by decide +kernel
theorem dX6_init_37 : decode cX6_init 37 = .ok (.aload_n 0, 1) := by decide +kernel
theorem dX6_init_38 : decode cX6_init 38 = .ok (.new 30, 3) := by decide +kernel
theorem dX6_init_41 : decode cX6_init 41 = .ok (.dup, 1) := by decide +kernel
theorem dX6_init_42 : decode cX6_init 42 = .ok (.aload_n 0, 1) := by decide +kernel
theorem dX6_init_43 : decode cX6_init 43 = .ok (.getfield 19, 3) := by decide +kernel
theorem dX6_init_46 : decode cX6_init 46 = .ok (.invokespecial 32, 3) := by decide +kernel
theorem dX6_init_49 : decode cX6_init 49 = .ok (.putfield 35, 3) := by decide +kernel
theorem dX6_init_52 : decode cX6_init 52 = .ok (.aload_n 0, 1) := by decide +kernel
theorem dX6_init_53 : decode cX6_init 53 = .ok (.new 39, 3) := by decide +kernel
theorem dX6_init_56 : decode cX6_init 56 = .ok (.dup, 1) := by decide +kernel
theorem dX6_init_57 : decode cX6_init 57 = .ok (.aload_n 0, 1) := by decide +kernel
theorem dX6_init_58 : decode cX6_init 58 = .ok (.getfield 19, 3) := by decide +kernel
theorem dX6_init_61 : decode cX6_init 61 = .ok (.aload_n 0, 1) := by decide +kernel
theorem dX6_init_62 : decode cX6_init 62 = .ok (.getfield 35, 3) := by decide +kernel
theorem dX6_init_65 : decode cX6_init 65 = .ok (.invokespecial 41, 3) := by decide +kernel
theorem dX6_init_68 : decode cX6_init 68 = .ok (.putfield 44, 3) := by decide +kernel
theorem dX6_init_71 : decode cX6_init 71 = .ok (.aload_n 0, 1) := by decide +kernel
theorem dX6_init_72 : decode cX6_init 72 = .ok (.new 48, 3) := by decide +kernel
theorem dX6_init_75 : decode cX6_init 75 = .ok (.dup, 1) := by decide +kernel
theorem dX6_init_76 : decode cX6_init 76 = .ok (.aload_n 0, 1) := by decide +kernel
theorem dX6_init_77 : decode cX6_init 77 = .ok (.getfield 19, 3) := by decide +kernel
theorem dX6_init_80 : decode cX6_init 80 = .ok (.aload_n 0, 1) := by decide +kernel
theorem dX6_init_81 : decode cX6_init 81 = .ok (.getfield 35, 3) := by decide +kernel
theorem dX6_init_84 : decode cX6_init 84 = .ok (.aload_n 0, 1) := by decide +kernel
theorem dX6_init_85 : decode cX6_init 85 = .ok (.getfield 44, 3) := by decide +kernel
theorem dX6_init_88 : decode cX6_init 88 = .ok (.invokespecial 50, 3) := by decide +kernel
theorem dX6_init_91 : decode cX6_init 91 = .ok (.putfield 53, 3) := by decide +kernel
theorem dX6_init_94 : decode cX6_init 94 = .ok (.aload_n 0, 1) := by decide +kernel
theorem dX6_init_95 : decode cX6_init 95 = .ok (.new 39, 3) := by decide +kernel
theorem dX6_init_98 : decode cX6_init 98 = .ok (.dup, 1) := by decide +kernel
theorem dX6_init_99 : decode cX6_init 99 = .ok (.aload_n 0, 1) := by decide +kernel
theorem dX6_init_100 : decode cX6_init 100 = .ok (.getfield 19, 3) := by decide +kernel
theorem dX6_init_103 : decode cX6_init 103 = .ok (.aload_n 0, 1) := by decide +kernel
theorem dX6_init_104 : decode cX6_init 104 = .ok (.getfield 35, 3) := by decide +kernel
theorem dX6_init_107 : decode cX6_init 107 = .ok (.invokespecial 41, 3) := by decide +kernel
theorem dX6_init_110 : decode cX6_init 110 = .ok (.putfield 57, 3) := by decide +kernel
theorem dX6_init_113 : decode cX6_init 113 = .ok (.aload_n 0, 1) := by decide +kernel
theorem dX6_init_114 : decode cX6_init 114 = .ok (.iconst 0, 1) := by decide +kernel
theorem dX6_init_115 : decode cX6_init 115 = .ok (.putfield 60, 3) := by decide +kernel
theorem dX6_init_118 : decode cX6_init 118 = .ok (.return_, 1) := by decide +kernel
theorem dX6_type_0 : decode cX6_type 0 = .ok (.iload_n 1, 1) := by decide +kernel
theorem dX6_type_1 : decode cX6_type 1 = .ok (.ifCond .lt 9, 3) := by decide +kernel
theorem dX6_type_4 : decode cX6_type 4 = .ok (.iload_n 1, 1) := by decide +kernel
theorem dX6_type_5 : decode cX6_type 5 = .ok (.bipush 127, 2) := by decide +kernel
theorem dX6_type_7 : decode cX6_type 7 = .ok (.if_icmp .le 7, 3) := by decide +kernel
theorem dX6_type_10 : decode cX6_type 10 = .ok (.sipush (-1002), 3) := by decide +kernel
theorem dX6_type_13 : decode cX6_type 13 = .ok (.ireturn, 1) := by decide +kernel
theorem dX6_type_14 : decode cX6_type 14 = .ok (.aload_n 0, 1) := by decide +kernel
theorem dX6_type_15 : decode cX6_type 15 = .ok (.getfield 10, 3) := by decide +kernel
theorem dX6_type_18 : decode cX6_type 18 = .ok (.iload_n 1, 1) := by decide +kernel
theorem dX6_type_19 : decode cX6_type 19 = .ok (.invokevirtual 64, 3) := by decide +kernel
theorem dX6_type_22 : decode cX6_type 22 = .ok (.ifCond .eq 13, 3) := by decide +kernel
theorem dX6_type_25 : decode cX6_type 25 = .ok (.aload_n 0, 1) := by decide +kernel
theorem dX6_type_26 : decode cX6_type 26 = .ok (.getfield 10, 3) := by decide +kernel
theorem dX6_type_29 : decode cX6_type 29 = .ok (.getfield 68, 3) := by decide +kernel
theorem dX6_type_32 : decode cX6_type 32 = .ok (.goto 6, 3) := by decide +kernel
theorem dX6_type_35 : decode cX6_type 35 = .ok (.sipush (-1004), 3) := by decide +kernel
theorem dX6_type_38 : decode cX6_type 38 = .ok (.ireturn, 1) := by decide +kernel
theorem dX6_clear_0 : decode cX6_clear 0 = .ok (.aload_n 0, 1) := by decide +kernel
theorem dX6_clear_1 : decode cX6_clear 1 = .ok (.getfield 10, 3) := by decide +kernel
theorem dX6_clear_4 : decode cX6_clear 4 = .ok (.getfield 68, 3) := by decide +kernel
theorem dX6_clear_7 : decode cX6_clear 7 = .ok (.istore_n 1, 1) := by decide +kernel
theorem dX6_clear_8 : decode cX6_clear 8 = .ok (.aload_n 0, 1) := by decide +kernel
theorem dX6_clear_9 : decode cX6_clear 9 = .ok (.getfield 10, 3) := by decide +kernel
theorem dX6_clear_12 : decode cX6_clear 12 = .ok (.iconst 0, 1) := by decide +kernel
theorem dX6_clear_13 : decode cX6_clear 13 = .ok (.putfield 68, 3) := by decide +kernel
theorem dX6_clear_16 : decode cX6_clear 16 = .ok (.iload_n 1, 1) := by decide +kernel
theorem dX6_clear_17 : decode cX6_clear 17 = .ok (.ireturn, 1) := by decide +kernel
theorem dX6_insert_0 : decode cX6_insert 0 = .ok (.iload_n 1, 1) := by decide +kernel
theorem dX6_insert_1 : decode cX6_insert 1 = .ok (.ifCond .lt 14, 3) := by decide +kernel
theorem dX6_insert_4 : decode cX6_insert 4 = .ok (.iload_n 1, 1) := by decide +kernel
theorem dX6_insert_5 : decode cX6_insert 5 = .ok (.aload_n 0, 1) := by decide +kernel
theorem dX6_insert_6 : decode cX6_insert 6 = .ok (.getfield 19, 3) := by decide +kernel
theorem dX6_insert_9 : decode cX6_insert 9 = .ok (.getfield 72, 3) := by decide +kernel
theorem dX6_insert_12 : decode cX6_insert 12 = .ok (.if_icmp .le 7, 3) := by decide +kernel
theorem dX6_insert_15 : decode cX6_insert 15 = .ok (.sipush (-1002), 3) := by decide +kernel
theorem dX6_insert_18 : decode cX6_insert 18 = .ok (.ireturn, 1) := by decide +kernel
theorem dX6_insert_19 : decode cX6_insert 19 = .ok (.aload_n 0, 1) := by decide +kernel
theorem dX6_insert_20 : decode cX6_insert 20 = .ok (.getfield 10, 3) := by decide +kernel
theorem dX6_insert_23 : decode cX6_insert 23 = .ok (.invokevirtual 75, 3) := by decide +kernel
theorem dX6_insert_26 : decode cX6_insert 26 = .ok (.istore_n 2, 1) := by decide +kernel
theorem dX6_insert_27 : decode cX6_insert 27 = .ok (.iload_n 2, 1) := by decide +kernel
theorem dX6_insert_28 : decode cX6_insert 28 = .ok (.ifCond .lt 9, 3) := by decide +kernel
theorem dX6_insert_31 : decode cX6_insert 31 = .ok (.sipush (-2000), 3) := by decide +kernel
theorem dX6_insert_34 : decode cX6_insert 34 = .ok (.iload_n 2, 1) := by decide +kernel
theorem dX6_insert_35 : decode cX6_insert 35 = .ok (.isub, 1) := by decide +kernel
theorem dX6_insert_36 : decode cX6_insert 36 = .ok (.ireturn, 1) := by decide +kernel
theorem dX6_insert_37 : decode cX6_insert 37 = .ok (.aload_n 0, 1) := by decide +kernel
theorem dX6_insert_38 : decode cX6_insert 38 = .ok (.getfield 19, 3) := by decide +kernel
theorem dX6_insert_41 : decode cX6_insert 41 = .ok (.getfield 72, 3) := by decide +kernel
theorem dX6_insert_44 : decode cX6_insert 44 = .ok (.bipush 16, 2) := by decide +kernel
theorem dX6_insert_46 : decode cX6_insert 46 = .ok (.if_icmp .lt 7, 3) := by decide +kernel
theorem dX6_insert_49 : decode cX6_insert 49 = .ok (.sipush (-1004), 3) := by decide +kernel
theorem dX6_insert_52 : decode cX6_insert 52 = .ok (.ireturn, 1) := by decide +kernel
theorem dX6_insert_53 : decode cX6_insert 53 = .ok (.aload_n 0, 1) := by decide +kernel
theorem dX6_insert_54 : decode cX6_insert 54 = .ok (.invokevirtual 79, 3) := by decide +kernel
theorem dX6_insert_57 : decode cX6_insert 57 = .ok (.aload_n 0, 1) := by decide +kernel
theorem dX6_insert_58 : decode cX6_insert 58 = .ok (.getfield 19, 3) := by decide +kernel
theorem dX6_insert_61 : decode cX6_insert 61 = .ok (.aload_n 0, 1) := by decide +kernel
theorem dX6_insert_62 : decode cX6_insert 62 = .ok (.getfield 10, 3) := by decide +kernel
theorem dX6_insert_65 : decode cX6_insert 65 = .ok (.getfield 82, 3) := by decide +kernel
theorem dX6_insert_68 : decode cX6_insert 68 = .ok (.invokevirtual 86, 3) := by decide +kernel
theorem dX6_insert_71 : decode cX6_insert 71 = .ok (.aload_n 0, 1) := by decide +kernel
theorem dX6_insert_72 : decode cX6_insert 72 = .ok (.getfield 19, 3) := by decide +kernel
theorem dX6_insert_75 : decode cX6_insert 75 = .ok (.aload_n 0, 1) := by decide +kernel
theorem dX6_insert_76 : decode cX6_insert 76 = .ok (.getfield 19, 3) := by decide +kernel
theorem dX6_insert_79 : decode cX6_insert 79 = .ok (.getfield 72, 3) := by decide +kernel
theorem dX6_insert_82 : decode cX6_insert 82 = .ok (.iconst 1, 1) := by decide +kernel
theorem dX6_insert_83 : decode cX6_insert 83 = .ok (.isub, 1) := by decide +kernel
theorem dX6_insert_84 : decode cX6_insert 84 = .ok (.iload_n 1, 1) := by decide +kernel
theorem dX6_insert_85 : decode cX6_insert 85 = .ok (.invokevirtual 89, 3) := by decide +kernel
theorem dX6_insert_88 : decode cX6_insert 88 = .ok (.aload_n 0, 1) := by decide +kernel
theorem dX6_insert_89 : decode cX6_insert 89 = .ok (.getfield 19, 3) := by decide +kernel
theorem dX6_insert_92 : decode cX6_insert 92 = .ok (.getfield 72, 3) := by decide +kernel
theorem dX6_insert_95 : decode cX6_insert 95 = .ok (.ireturn, 1) := by decide +kernel
theorem dX6_remove_0 : decode cX6_remove 0 = .ok (.aload_n 0, 1) := by decide +kernel
theorem dX6_remove_1 : decode cX6_remove 1 = .ok (.getfield 19, 3) := by decide +kernel
theorem dX6_remove_4 : decode cX6_remove 4 = .ok (.iload_n 1, 1) := by decide +kernel
theorem dX6_remove_5 : decode cX6_remove 5 = .ok (.invokevirtual 93, 3) := by decide +kernel
theorem dX6_remove_8 : decode cX6_remove 8 = .ok (.ifCond .ne 7, 3) := by decide +kernel
theorem dX6_remove_11 : decode cX6_remove 11 = .ok (.sipush (-1002), 3) := by decide +kernel
theorem dX6_remove_14 : decode cX6_remove 14 = .ok (.ireturn, 1) := by decide +kernel
theorem dX6_remove_15 : decode cX6_remove 15 = .ok (.aload_n 0, 1) := by decide +kernel
theorem dX6_remove_16 : decode cX6_remove 16 = .ok (.invokevirtual 79, 3) := by decide +kernel
theorem dX6_remove_19 : decode cX6_remove 19 = .ok (.aload_n 0, 1) := by decide +kernel
theorem dX6_remove_20 : decode cX6_remove 20 = .ok (.getfield 19, 3) := by decide +kernel
theorem dX6_remove_23 : decode cX6_remove 23 = .ok (.iload_n 1, 1) := by decide +kernel
theorem dX6_remove_24 : decode cX6_remove 24 = .ok (.aload_n 0, 1) := by decide +kernel
theorem dX6_remove_25 : decode cX6_remove 25 = .ok (.getfield 19, 3) := by decide +kernel
theorem dX6_remove_28 : decode cX6_remove 28 = .ok (.getfield 72, 3) := by decide +kernel
theorem dX6_remove_31 : decode cX6_remove 31 = .ok (.iconst 1, 1) := by decide +kernel
theorem dX6_remove_32 : decode cX6_remove 32 = .ok (.isub, 1) := by decide +kernel
theorem dX6_remove_33 : decode cX6_remove 33 = .ok (.invokevirtual 89, 3) := by decide +kernel
theorem dX6_remove_36 : decode cX6_remove 36 = .ok (.aload_n 0, 1) := by decide +kernel
theorem dX6_remove_37 : decode cX6_remove 37 = .ok (.getfield 19, 3) := by decide +kernel
theorem dX6_remove_40 : decode cX6_remove 40 = .ok (.dup, 1) := by decide +kernel
theorem dX6_remove_41 : decode cX6_remove 41 = .ok (.getfield 72, 3) := by decide +kernel
theorem dX6_remove_44 : decode cX6_remove 44 = .ok (.iconst 1, 1) := by decide +kernel
theorem dX6_remove_45 : decode cX6_remove 45 = .ok (.isub, 1) := by decide +kernel
theorem dX6_remove_46 : decode cX6_remove 46 = .ok (.putfield 72, 3) := by decide +kernel
theorem dX6_remove_49 : decode cX6_remove 49 = .ok (.aload_n 0, 1) := by decide +kernel
theorem dX6_remove_50 : decode cX6_remove 50 = .ok (.getfield 19, 3) := by decide +kernel
theorem dX6_remove_53 : decode cX6_remove 53 = .ok (.getfield 72, 3) := by decide +kernel
theorem dX6_remove_56 : decode cX6_remove 56 = .ok (.ireturn, 1) := by decide +kernel
theorem dX6_move_0 : decode cX6_move 0 = .ok (.aload_n 0, 1) := by decide +kernel
theorem dX6_move_1 : decode cX6_move 1 = .ok (.getfield 19, 3) := by decide +kernel
theorem dX6_move_4 : decode cX6_move 4 = .ok (.iload_n 1, 1) := by decide +kernel
theorem dX6_move_5 : decode cX6_move 5 = .ok (.invokevirtual 93, 3) := by decide +kernel
theorem dX6_move_8 : decode cX6_move 8 = .ok (.ifCond .eq 14, 3) := by decide +kernel
theorem dX6_move_11 : decode cX6_move 11 = .ok (.aload_n 0, 1) := by decide +kernel
theorem dX6_move_12 : decode cX6_move 12 = .ok (.getfield 19, 3) := by decide +kernel
theorem dX6_move_15 : decode cX6_move 15 = .ok (.iload_n 2, 1) := by decide +kernel
theorem dX6_move_16 : decode cX6_move 16 = .ok (.invokevirtual 93, 3) := by decide +kernel
theorem dX6_move_19 : decode cX6_move 19 = .ok (.ifCond .ne 7, 3) := by decide +kernel
theorem dX6_move_22 : decode cX6_move 22 = .ok (.sipush (-1002), 3) := by decide +kernel
theorem dX6_move_25 : decode cX6_move 25 = .ok (.ireturn, 1) := by decide +kernel
theorem dX6_move_26 : decode cX6_move 26 = .ok (.aload_n 0, 1) := by decide +kernel
theorem dX6_move_27 : decode cX6_move 27 = .ok (.invokevirtual 79, 3) := by decide +kernel
theorem dX6_move_30 : decode cX6_move 30 = .ok (.aload_n 0, 1) := by decide +kernel
theorem dX6_move_31 : decode cX6_move 31 = .ok (.getfield 19, 3) := by decide +kernel
theorem dX6_move_34 : decode cX6_move 34 = .ok (.iload_n 1, 1) := by decide +kernel
theorem dX6_move_35 : decode cX6_move 35 = .ok (.iload_n 2, 1) := by decide +kernel
theorem dX6_move_36 : decode cX6_move 36 = .ok (.invokevirtual 89, 3) := by decide +kernel
theorem dX6_move_39 : decode cX6_move 39 = .ok (.aload_n 0, 1) := by decide +kernel
theorem dX6_move_40 : decode cX6_move 40 = .ok (.invokevirtual 96, 3) := by decide +kernel
theorem dX6_move_43 : decode cX6_move 43 = .ok (.aload_n 0, 1) := by decide +kernel
theorem dX6_move_44 : decode cX6_move 44 = .ok (.getfield 35, 3) := by decide +kernel
theorem dX6_move_47 : decode cX6_move 47 = .ok (.iload_n 2, 1) := by decide +kernel
theorem dX6_move_48 : decode cX6_move 48 = .ok (.invokevirtual 99, 3) := by decide +kernel
theorem dX6_move_51 : decode cX6_move 51 = .ok (.ireturn, 1) := by decide +kernel
theorem dX6_change_0 : decode cX6_change 0 = .ok (.aload_n 0, 1) := by decide +kernel
theorem dX6_change_1 : decode cX6_change 1 = .ok (.getfield 19, 3) := by decide +kernel
theorem dX6_change_4 : decode cX6_change 4 = .ok (.iload_n 1, 1) := by decide +kernel
theorem dX6_change_5 : decode cX6_change 5 = .ok (.invokevirtual 93, 3) := by decide +kernel
theorem dX6_change_8 : decode cX6_change 8 = .ok (.ifCond .eq 13, 3) := by decide +kernel
theorem dX6_change_11 : decode cX6_change 11 = .ok (.iload_n 2, 1) := by decide +kernel
theorem dX6_change_12 : decode cX6_change 12 = .ok (.ifCond .lt 9, 3) := by decide +kernel
theorem dX6_change_15 : decode cX6_change 15 = .ok (.iload_n 2, 1) := by decide +kernel
theorem dX6_change_16 : decode cX6_change 16 = .ok (.bipush 10, 2) := by decide +kernel
theorem dX6_change_18 : decode cX6_change 18 = .ok (.if_icmp .lt 7, 3) := by decide +kernel
theorem dX6_change_21 : decode cX6_change 21 = .ok (.sipush (-1002), 3) := by decide +kernel
theorem dX6_change_24 : decode cX6_change 24 = .ok (.ireturn, 1) := by decide +kernel
theorem dX6_change_25 : decode cX6_change 25 = .ok (.iload_n 3, 1) := by decide +kernel
theorem dX6_change_26 : decode cX6_change 26 = .ok (.getstatic 103, 3) := by decide +kernel
theorem dX6_change_29 : decode cX6_change 29 = .ok (.iload_n 2, 1) := by decide +kernel
theorem dX6_change_30 : decode cX6_change 30 = .ok (.iaload, 1) := by decide +kernel
theorem dX6_change_31 : decode cX6_change 31 = .ok (.if_icmp .lt 12, 3) := by decide +kernel
theorem dX6_change_34 : decode cX6_change 34 = .ok (.iload_n 3, 1) := by decide +kernel
theorem dX6_change_35 : decode cX6_change 35 = .ok (.getstatic 106, 3) := by decide +kernel
theorem dX6_change_38 : decode cX6_change 38 = .ok (.iload_n 2, 1) := by decide +kernel
theorem dX6_change_39 : decode cX6_change 39 = .ok (.iaload, 1) := by decide +kernel
theorem dX6_change_40 : decode cX6_change 40 = .ok (.if_icmp .le 7, 3) := by decide +kernel
theorem dX6_change_43 : decode cX6_change 43 = .ok (.sipush (-1002), 3) := by decide +kernel
theorem dX6_change_46 : decode cX6_change 46 = .ok (.ireturn, 1) := by decide +kernel
theorem dX6_change_47 : decode cX6_change 47 = .ok (.aload_n 0, 1) := by decide +kernel
theorem dX6_change_48 : decode cX6_change 48 = .ok (.invokevirtual 79, 3) := by decide +kernel
theorem dX6_change_51 : decode cX6_change 51 = .ok (.aload_n 0, 1) := by decide +kernel
theorem dX6_change_52 : decode cX6_change 52 = .ok (.getfield 19, 3) := by decide +kernel
theorem dX6_change_55 : decode cX6_change 55 = .ok (.iload_n 1, 1) := by decide +kernel
theorem dX6_change_56 : decode cX6_change 56 = .ok (.iload_n 2, 1) := by decide +kernel
theorem dX6_change_57 : decode cX6_change 57 = .ok (.invokevirtual 109, 3) := by decide +kernel
theorem dX6_change_60 : decode cX6_change 60 = .ok (.istore 4, 2) := by decide +kernel
theorem dX6_change_62 : decode cX6_change 62 = .ok (.aload_n 0, 1) := by decide +kernel
theorem dX6_change_63 : decode cX6_change 63 = .ok (.getfield 19, 3) := by decide +kernel
theorem dX6_change_66 : decode cX6_change 66 = .ok (.iload_n 1, 1) := by decide +kernel
theorem dX6_change_67 : decode cX6_change 67 = .ok (.iload_n 2, 1) := by decide +kernel
theorem dX6_change_68 : decode cX6_change 68 = .ok (.iload_n 3, 1) := by decide +kernel
theorem dX6_change_69 : decode cX6_change 69 = .ok (.invokevirtual 113, 3) := by decide +kernel
theorem dX6_change_72 : decode cX6_change 72 = .ok (.iload 4, 2) := by decide +kernel
theorem dX6_change_74 : decode cX6_change 74 = .ok (.ireturn, 1) := by decide +kernel
theorem dX6_hide_0 : decode cX6_hide 0 = .ok (.aload_n 0, 1) := by decide +kernel
theorem dX6_hide_1 : decode cX6_hide 1 = .ok (.getfield 19, 3) := by decide +kernel
theorem dX6_hide_4 : decode cX6_hide 4 = .ok (.iload_n 1, 1) := by decide +kernel
theorem dX6_hide_5 : decode cX6_hide 5 = .ok (.invokevirtual 93, 3) := by decide +kernel
theorem dX6_hide_8 : decode cX6_hide 8 = .ok (.ifCond .ne 7, 3) := by decide +kernel
theorem dX6_hide_11 : decode cX6_hide 11 = .ok (.sipush (-1002), 3) := by decide +kernel
theorem dX6_hide_14 : decode cX6_hide 14 = .ok (.ireturn, 1) := by decide +kernel
theorem dX6_hide_15 : decode cX6_hide 15 = .ok (.aload_n 0, 1) := by decide +kernel
theorem dX6_hide_16 : decode cX6_hide 16 = .ok (.invokevirtual 79, 3) := by decide +kernel
theorem dX6_hide_19 : decode cX6_hide 19 = .ok (.iconst 1, 1) := by decide +kernel
theorem dX6_hide_20 : decode cX6_hide 20 = .ok (.aload_n 0, 1) := by decide +kernel
theorem dX6_hide_21 : decode cX6_hide 21 = .ok (.getfield 19, 3) := by decide +kernel
theorem dX6_hide_24 : decode cX6_hide 24 = .ok (.iload_n 1, 1) := by decide +kernel
theorem dX6_hide_25 : decode cX6_hide 25 = .ok (.bipush 10, 2) := by decide +kernel
theorem dX6_hide_27 : decode cX6_hide 27 = .ok (.invokevirtual 109, 3) := by decide +kernel
theorem dX6_hide_30 : decode cX6_hide 30 = .ok (.isub, 1) := by decide +kernel
theorem dX6_hide_31 : decode cX6_hide 31 = .ok (.istore_n 2, 1) := by decide +kernel
theorem dX6_hide_32 : decode cX6_hide 32 = .ok (.aload_n 0, 1) := by decide +kernel
theorem dX6_hide_33 : decode cX6_hide 33 = .ok (.getfield 19, 3) := by decide +kernel
theorem dX6_hide_36 : decode cX6_hide 36 = .ok (.iload_n 1, 1) := by decide +kernel
theorem dX6_hide_37 : decode cX6_hide 37 = .ok (.bipush 10, 2) := by decide +kernel
theorem dX6_hide_39 : decode cX6_hide 39 = .ok (.iload_n 2, 1) := by decide +kernel
theorem dX6_hide_40 : decode cX6_hide 40 = .ok (.invokevirtual 113, 3) := by decide +kernel
theorem dX6_hide_43 : decode cX6_hide 43 = .ok (.iload_n 2, 1) := by decide +kernel
theorem dX6_hide_44 : decode cX6_hide 44 = .ok (.ireturn, 1) := by decide +kernel
theorem dX6_set_0 : decode cX6_set 0 = .ok (.iload_n 1, 1) := by decide +kernel
theorem dX6_set_1 : decode cX6_set 1 = .ok (.ifCond .lt 9, 3) := by decide +kernel
theorem dX6_set_4 : decode cX6_set 4 = .ok (.iload_n 1, 1) := by decide +kernel
theorem dX6_set_5 : decode cX6_set 5 = .ok (.bipush 7, 2) := by decide +kernel
theorem dX6_set_7 : decode cX6_set 7 = .ok (.if_icmp .lt 7, 3) := by decide +kernel
theorem dX6_set_10 : decode cX6_set 10 = .ok (.sipush (-1002), 3) := by decide +kernel
theorem dX6_set_13 : decode cX6_set 13 = .ok (.ireturn, 1) := by decide +kernel
theorem dX6_set_14 : decode cX6_set 14 = .ok (.iload_n 2, 1) := by decide +kernel
theorem dX6_set_15 : decode cX6_set 15 = .ok (.getstatic 117, 3) := by decide +kernel
theorem dX6_set_18 : decode cX6_set 18 = .ok (.iload_n 1, 1) := by decide +kernel
theorem dX6_set_19 : decode cX6_set 19 = .ok (.iaload, 1) := by decide +kernel
theorem dX6_set_20 : decode cX6_set 20 = .ok (.if_icmp .lt 12, 3) := by decide +kernel
theorem dX6_set_23 : decode cX6_set 23 = .ok (.iload_n 2, 1) := by decide +kernel
theorem dX6_set_24 : decode cX6_set 24 = .ok (.getstatic 120, 3) := by decide +kernel
theorem dX6_set_27 : decode cX6_set 27 = .ok (.iload_n 1, 1) := by decide +kernel
theorem dX6_set_28 : decode cX6_set 28 = .ok (.iaload, 1) := by decide +kernel
theorem dX6_set_29 : decode cX6_set 29 = .ok (.if_icmp .le 7, 3) := by decide +kernel
theorem dX6_set_32 : decode cX6_set 32 = .ok (.sipush (-1002), 3) := by decide +kernel
theorem dX6_set_35 : decode cX6_set 35 = .ok (.ireturn, 1) := by decide +kernel
theorem dX6_set_36 : decode cX6_set 36 = .ok (.aload_n 0, 1) := by decide +kernel
theorem dX6_set_37 : decode cX6_set 37 = .ok (.invokevirtual 79, 3) := by decide +kernel
theorem dX6_set_40 : decode cX6_set 40 = .ok (.aload_n 0, 1) := by decide +kernel
theorem dX6_set_41 : decode cX6_set 41 = .ok (.getfield 19, 3) := by decide +kernel
theorem dX6_set_44 : decode cX6_set 44 = .ok (.iload_n 1, 1) := by decide +kernel
theorem dX6_set_45 : decode cX6_set 45 = .ok (.invokevirtual 123, 3) := by decide +kernel
theorem dX6_set_48 : decode cX6_set 48 = .ok (.istore_n 3, 1) := by decide +kernel
theorem dX6_set_49 : decode cX6_set 49 = .ok (.aload_n 0, 1) := by decide +kernel
theorem dX6_set_50 : decode cX6_set 50 = .ok (.getfield 19, 3) := by decide +kernel
theorem dX6_set_53 : decode cX6_set 53 = .ok (.iload_n 1, 1) := by decide +kernel
theorem dX6_set_54 : decode cX6_set 54 = .ok (.iload_n 2, 1) := by decide +kernel
theorem dX6_set_55 : decode cX6_set 55 = .ok (.invokevirtual 126, 3) := by decide +kernel
theorem dX6_set_58 : decode cX6_set 58 = .ok (.iload_n 3, 1) := by decide +kernel
theorem dX6_set_59 : decode cX6_set 59 = .ok (.ireturn, 1) := by decide +kernel
theorem dX6_undo_0 : decode cX6_undo 0 = .ok (.aload_n 0, 1) := by decide +kernel
theorem dX6_undo_1 : decode cX6_undo 1 = .ok (.getfield 26, 3) := by decide +kernel
theorem dX6_undo_4 : decode cX6_undo 4 = .ok (.getfield 129, 3) := by decide +kernel
theorem dX6_undo_7 : decode cX6_undo 7 = .ok (.ifCond .ne 7, 3) := by decide +kernel
theorem dX6_undo_10 : decode cX6_undo 10 = .ok (.sipush (-1003), 3) := by decide +kernel
theorem dX6_undo_13 : decode cX6_undo 13 = .ok (.ireturn, 1) := by decide +kernel
theorem dX6_undo_14 : decode cX6_undo 14 = .ok (.aload_n 0, 1) := by decide +kernel
theorem dX6_undo_15 : decode cX6_undo 15 = .ok (.getfield 26, 3) := by decide +kernel
theorem dX6_undo_18 : decode cX6_undo 18 = .ok (.aload_n 0, 1) := by decide +kernel
theorem dX6_undo_19 : decode cX6_undo 19 = .ok (.getfield 19, 3) := by decide +kernel
theorem dX6_undo_22 : decode cX6_undo 22 = .ok (.invokevirtual 132, 3) := by decide +kernel
theorem dX6_undo_25 : decode cX6_undo 25 = .ok (.aload_n 0, 1) := by decide +kernel
theorem dX6_undo_26 : decode cX6_undo 26 = .ok (.iconst 0, 1) := by decide +kernel
theorem dX6_undo_27 : decode cX6_undo 27 = .ok (.putfield 60, 3) := by decide +kernel
theorem dX6_undo_30 : decode cX6_undo 30 = .ok (.aload_n 0, 1) := by decide +kernel
theorem dX6_undo_31 : decode cX6_undo 31 = .ok (.getfield 26, 3) := by decide +kernel
theorem dX6_undo_34 : decode cX6_undo 34 = .ok (.getfield 129, 3) := by decide +kernel
theorem dX6_undo_37 : decode cX6_undo 37 = .ok (.ireturn, 1) := by decide +kernel
theorem dX6_item_0 : decode cX6_item 0 = .ok (.aload_n 0, 1) := by decide +kernel
theorem dX6_item_1 : decode cX6_item 1 = .ok (.getfield 19, 3) := by decide +kernel
theorem dX6_item_4 : decode cX6_item 4 = .ok (.iload_n 1, 1) := by decide +kernel
theorem dX6_item_5 : decode cX6_item 5 = .ok (.invokevirtual 93, 3) := by decide +kernel
theorem dX6_item_8 : decode cX6_item 8 = .ok (.ifCond .eq 13, 3) := by decide +kernel
theorem dX6_item_11 : decode cX6_item 11 = .ok (.iload_n 2, 1) := by decide +kernel
theorem dX6_item_12 : decode cX6_item 12 = .ok (.ifCond .lt 9, 3) := by decide +kernel
theorem dX6_item_15 : decode cX6_item 15 = .ok (.iload_n 2, 1) := by decide +kernel
theorem dX6_item_16 : decode cX6_item 16 = .ok (.bipush 11, 2) := by decide +kernel
theorem dX6_item_18 : decode cX6_item 18 = .ok (.if_icmp .le 7, 3) := by decide +kernel
theorem dX6_item_21 : decode cX6_item 21 = .ok (.sipush (-1002), 3) := by decide +kernel
theorem dX6_item_24 : decode cX6_item 24 = .ok (.ireturn, 1) := by decide +kernel
theorem dX6_item_25 : decode cX6_item 25 = .ok (.iload_n 2, 1) := by decide +kernel
theorem dX6_item_26 : decode cX6_item 26 = .ok (.bipush 11, 2) := by decide +kernel
theorem dX6_item_28 : decode cX6_item 28 = .ok (.if_icmp .ne 14, 3) := by decide +kernel
theorem dX6_item_31 : decode cX6_item 31 = .ok (.aload_n 0, 1) := by decide +kernel
theorem dX6_item_32 : decode cX6_item 32 = .ok (.getfield 19, 3) := by decide +kernel
theorem dX6_item_35 : decode cX6_item 35 = .ok (.iload_n 1, 1) := by decide +kernel
theorem dX6_item_36 : decode cX6_item 36 = .ok (.invokevirtual 135, 3) := by decide +kernel
theorem dX6_item_39 : decode cX6_item 39 = .ok (.goto 12, 3) := by decide +kernel
theorem dX6_item_42 : decode cX6_item 42 = .ok (.aload_n 0, 1) := by decide +kernel
theorem dX6_item_43 : decode cX6_item 43 = .ok (.getfield 19, 3) := by decide +kernel
theorem dX6_item_46 : decode cX6_item 46 = .ok (.iload_n 1, 1) := by decide +kernel
theorem dX6_item_47 : decode cX6_item 47 = .ok (.iload_n 2, 1) := by decide +kernel
theorem dX6_item_48 : decode cX6_item 48 = .ok (.invokevirtual 109, 3) := by decide +kernel
theorem dX6_item_51 : decode cX6_item 51 = .ok (.ireturn, 1) := by decide +kernel
theorem dX6_lies_0 : decode cX6_lies 0 = .ok (.aload_n 0, 1) := by decide +kernel
theorem dX6_lies_1 : decode cX6_lies 1 = .ok (.getfield 19, 3) := by decide +kernel
theorem dX6_lies_4 : decode cX6_lies 4 = .ok (.iload_n 1, 1) := by decide +kernel
theorem dX6_lies_5 : decode cX6_lies 5 = .ok (.invokevirtual 93, 3) := by decide +kernel
theorem dX6_lies_8 : decode cX6_lies 8 = .ok (.ifCond .eq 13, 3) := by decide +kernel
theorem dX6_lies_11 : decode cX6_lies 11 = .ok (.iload_n 2, 1) := by decide +kernel
theorem dX6_lies_12 : decode cX6_lies 12 = .ok (.ifCond .lt 9, 3) := by decide +kernel
theorem dX6_lies_15 : decode cX6_lies 15 = .ok (.iload_n 2, 1) := by decide +kernel
theorem dX6_lies_16 : decode cX6_lies 16 = .ok (.bipush 7, 2) := by decide +kernel
theorem dX6_lies_18 : decode cX6_lies 18 = .ok (.if_icmp .le 7, 3) := by decide +kernel
theorem dX6_lies_21 : decode cX6_lies 21 = .ok (.sipush (-1002), 3) := by decide +kernel
theorem dX6_lies_24 : decode cX6_lies 24 = .ok (.ireturn, 1) := by decide +kernel
theorem dX6_lies_25 : decode cX6_lies 25 = .ok (.aload_n 0, 1) := by decide +kernel
theorem dX6_lies_26 : decode cX6_lies 26 = .ok (.getfield 19, 3) := by decide +kernel
theorem dX6_lies_29 : decode cX6_lies 29 = .ok (.iload_n 1, 1) := by decide +kernel
theorem dX6_lies_30 : decode cX6_lies 30 = .ok (.bipush 10, 2) := by decide +kernel
theorem dX6_lies_32 : decode cX6_lies 32 = .ok (.invokevirtual 109, 3) := by decide +kernel
theorem dX6_lies_35 : decode cX6_lies 35 = .ok (.ifCond .eq 7, 3) := by decide +kernel
theorem dX6_lies_38 : decode cX6_lies 38 = .ok (.sipush (-1003), 3) := by decide +kernel
theorem dX6_lies_41 : decode cX6_lies 41 = .ok (.ireturn, 1) := by decide +kernel
theorem dX6_lies_42 : decode cX6_lies 42 = .ok (.aload_n 0, 1) := by decide +kernel
theorem dX6_lies_43 : decode cX6_lies 43 = .ok (.invokevirtual 96, 3) := by decide +kernel
theorem dX6_lies_46 : decode cX6_lies 46 = .ok (.aload_n 0, 1) := by decide +kernel
theorem dX6_lies_47 : decode cX6_lies 47 = .ok (.aload_n 0, 1) := by decide +kernel
theorem dX6_lies_48 : decode cX6_lies 48 = .ok (.getfield 35, 3) := by decide +kernel
theorem dX6_lies_51 : decode cX6_lies 51 = .ok (.iload_n 1, 1) := by decide +kernel
theorem dX6_lies_52 : decode cX6_lies 52 = .ok (.invokevirtual 99, 3) := by decide +kernel
theorem dX6_lies_55 : decode cX6_lies 55 = .ok (.iload_n 2, 1) := by decide +kernel
theorem dX6_lies_56 : decode cX6_lies 56 = .ok (.invokevirtual 138, 3) := by decide +kernel
theorem dX6_lies_59 : decode cX6_lies 59 = .ok (.ireturn, 1) := by decide +kernel
theorem dX6_ordered_0 : decode cX6_ordered 0 = .ok (.iload_n 1, 1) := by decide +kernel
theorem dX6_ordered_1 : decode cX6_ordered 1 = .ok (.ifCond .ge 7, 3) := by decide +kernel
theorem dX6_ordered_4 : decode cX6_ordered 4 = .ok (.sipush (-1002), 3) := by decide +kernel
theorem dX6_ordered_7 : decode cX6_ordered 7 = .ok (.ireturn, 1) := by decide +kernel
theorem dX6_ordered_8 : decode cX6_ordered 8 = .ok (.aload_n 0, 1) := by decide +kernel
theorem dX6_ordered_9 : decode cX6_ordered 9 = .ok (.invokevirtual 96, 3) := by decide +kernel
theorem dX6_ordered_12 : decode cX6_ordered 12 = .ok (.iload_n 1, 1) := by decide +kernel
theorem dX6_ordered_13 : decode cX6_ordered 13 = .ok (.aload_n 0, 1) := by decide +kernel
theorem dX6_ordered_14 : decode cX6_ordered 14 = .ok (.getfield 35, 3) := by decide +kernel
theorem dX6_ordered_17 : decode cX6_ordered 17 = .ok (.getfield 141, 3) := by decide +kernel
theorem dX6_ordered_20 : decode cX6_ordered 20 = .ok (.if_icmp .ge 14, 3) := by decide +kernel
theorem dX6_ordered_23 : decode cX6_ordered 23 = .ok (.aload_n 0, 1) := by decide +kernel
theorem dX6_ordered_24 : decode cX6_ordered 24 = .ok (.getfield 35, 3) := by decide +kernel
theorem dX6_ordered_27 : decode cX6_ordered 27 = .ok (.iload_n 1, 1) := by decide +kernel
theorem dX6_ordered_28 : decode cX6_ordered 28 = .ok (.invokevirtual 144, 3) := by decide +kernel
theorem dX6_ordered_31 : decode cX6_ordered 31 = .ok (.goto 6, 3) := by decide +kernel
theorem dX6_ordered_34 : decode cX6_ordered 34 = .ok (.sipush (-1001), 3) := by decide +kernel
theorem dX6_ordered_37 : decode cX6_ordered 37 = .ok (.ireturn, 1) := by decide +kernel
theorem dX6_line_0 : decode cX6_line 0 = .ok (.iload_n 1, 1) := by decide +kernel
theorem dX6_line_1 : decode cX6_line 1 = .ok (.ifCond .lt 13, 3) := by decide +kernel
theorem dX6_line_4 : decode cX6_line 4 = .ok (.iload_n 2, 1) := by decide +kernel
theorem dX6_line_5 : decode cX6_line 5 = .ok (.ifCond .lt 9, 3) := by decide +kernel
theorem dX6_line_8 : decode cX6_line 8 = .ok (.iload_n 2, 1) := by decide +kernel
theorem dX6_line_9 : decode cX6_line 9 = .ok (.bipush 7, 2) := by decide +kernel
theorem dX6_line_11 : decode cX6_line 11 = .ok (.if_icmp .le 7, 3) := by decide +kernel
theorem dX6_line_14 : decode cX6_line 14 = .ok (.sipush (-1002), 3) := by decide +kernel
theorem dX6_line_17 : decode cX6_line 17 = .ok (.ireturn, 1) := by decide +kernel
theorem dX6_line_18 : decode cX6_line 18 = .ok (.aload_n 0, 1) := by decide +kernel
theorem dX6_line_19 : decode cX6_line 19 = .ok (.invokevirtual 96, 3) := by decide +kernel
theorem dX6_line_22 : decode cX6_line 22 = .ok (.iload_n 1, 1) := by decide +kernel
theorem dX6_line_23 : decode cX6_line 23 = .ok (.aload_n 0, 1) := by decide +kernel
theorem dX6_line_24 : decode cX6_line 24 = .ok (.getfield 44, 3) := by decide +kernel
theorem dX6_line_27 : decode cX6_line 27 = .ok (.getfield 147, 3) := by decide +kernel
theorem dX6_line_30 : decode cX6_line 30 = .ok (.if_icmp .ge 12, 3) := by decide +kernel
theorem dX6_line_33 : decode cX6_line 33 = .ok (.aload_n 0, 1) := by decide +kernel
theorem dX6_line_34 : decode cX6_line 34 = .ok (.iload_n 1, 1) := by decide +kernel
theorem dX6_line_35 : decode cX6_line 35 = .ok (.iload_n 2, 1) := by decide +kernel
theorem dX6_line_36 : decode cX6_line 36 = .ok (.invokevirtual 149, 3) := by decide +kernel
theorem dX6_line_39 : decode cX6_line 39 = .ok (.goto 6, 3) := by decide +kernel
theorem dX6_line_42 : decode cX6_line 42 = .ok (.sipush (-1001), 3) := by decide +kernel
theorem dX6_line_45 : decode cX6_line 45 = .ok (.ireturn, 1) := by decide +kernel
theorem dX6_at_0 : decode cX6_at 0 = .ok (.iload_n 1, 1) := by decide +kernel
theorem dX6_at_1 : decode cX6_at 1 = .ok (.sipush (-2000), 3) := by decide +kernel
theorem dX6_at_4 : decode cX6_at 4 = .ok (.if_icmp .lt 21, 3) := by decide +kernel
theorem dX6_at_7 : decode cX6_at 7 = .ok (.iload_n 1, 1) := by decide +kernel
theorem dX6_at_8 : decode cX6_at 8 = .ok (.sipush 2000, 3) := by decide +kernel
theorem dX6_at_11 : decode cX6_at 11 = .ok (.if_icmp .gt 14, 3) := by decide +kernel
theorem dX6_at_14 : decode cX6_at 14 = .ok (.iload_n 2, 1) := by decide +kernel
theorem dX6_at_15 : decode cX6_at 15 = .ok (.ifCond .lt 10, 3) := by decide +kernel
theorem dX6_at_18 : decode cX6_at 18 = .ok (.iload_n 2, 1) := by decide +kernel
theorem dX6_at_19 : decode cX6_at 19 = .ok (.sipush 5000, 3) := by decide +kernel
theorem dX6_at_22 : decode cX6_at 22 = .ok (.if_icmp .le 7, 3) := by decide +kernel
theorem dX6_at_25 : decode cX6_at 25 = .ok (.sipush (-1002), 3) := by decide +kernel
theorem dX6_at_28 : decode cX6_at 28 = .ok (.ireturn, 1) := by decide +kernel
theorem dX6_at_29 : decode cX6_at 29 = .ok (.aload_n 0, 1) := by decide +kernel
theorem dX6_at_30 : decode cX6_at 30 = .ok (.invokevirtual 96, 3) := by decide +kernel
theorem dX6_at_33 : decode cX6_at 33 = .ok (.aload_n 0, 1) := by decide +kernel
theorem dX6_at_34 : decode cX6_at 34 = .ok (.getfield 35, 3) := by decide +kernel
theorem dX6_at_37 : decode cX6_at 37 = .ok (.getfield 141, 3) := by decide +kernel
theorem dX6_at_40 : decode cX6_at 40 = .ok (.iconst 1, 1) := by decide +kernel
theorem dX6_at_41 : decode cX6_at 41 = .ok (.isub, 1) := by decide +kernel
theorem dX6_at_42 : decode cX6_at 42 = .ok (.istore_n 3, 1) := by decide +kernel
theorem dX6_at_43 : decode cX6_at 43 = .ok (.iload_n 3, 1) := by decide +kernel
theorem dX6_at_44 : decode cX6_at 44 = .ok (.ifCond .lt 31, 3) := by decide +kernel
theorem dX6_at_47 : decode cX6_at 47 = .ok (.aload_n 0, 1) := by decide +kernel
theorem dX6_at_48 : decode cX6_at 48 = .ok (.getfield 53, 3) := by decide +kernel
theorem dX6_at_51 : decode cX6_at 51 = .ok (.iload_n 3, 1) := by decide +kernel
theorem dX6_at_52 : decode cX6_at 52 = .ok (.iload_n 1, 1) := by decide +kernel
theorem dX6_at_53 : decode cX6_at 53 = .ok (.iload_n 2, 1) := by decide +kernel
theorem dX6_at_54 : decode cX6_at 54 = .ok (.invokevirtual 152, 3) := by decide +kernel
theorem dX6_at_57 : decode cX6_at 57 = .ok (.ifCond .eq 12, 3) := by decide +kernel
theorem dX6_at_60 : decode cX6_at 60 = .ok (.aload_n 0, 1) := by decide +kernel
theorem dX6_at_61 : decode cX6_at 61 = .ok (.getfield 35, 3) := by decide +kernel
theorem dX6_at_64 : decode cX6_at 64 = .ok (.iload_n 3, 1) := by decide +kernel
theorem dX6_at_65 : decode cX6_at 65 = .ok (.invokevirtual 144, 3) := by decide +kernel
theorem dX6_at_68 : decode cX6_at 68 = .ok (.ireturn, 1) := by decide +kernel
theorem dX6_at_69 : decode cX6_at 69 = .ok (.iinc 3 (-1), 3) := by decide +kernel
theorem dX6_at_72 : decode cX6_at 72 = .ok (.goto (-29), 3) := by decide +kernel
theorem dX6_at_75 : decode cX6_at 75 = .ok (.sipush (-1001), 3) := by decide +kernel
theorem dX6_at_78 : decode cX6_at 78 = .ok (.ireturn, 1) := by decide +kernel
theorem dX6_leastWidth_0 : decode cX6_leastWidth 0 = .ok (.iload_n 1, 1) := by decide +kernel
theorem dX6_leastWidth_1 : decode cX6_leastWidth 1 = .ok (.ifCond .ne 18, 3) := by decide +kernel
theorem dX6_leastWidth_4 : decode cX6_leastWidth 4 = .ok (.iload_n 2, 1) := by decide +kernel
theorem dX6_leastWidth_5 : decode cX6_leastWidth 5 = .ok (.iconst 1, 1) := by decide +kernel
theorem dX6_leastWidth_6 : decode cX6_leastWidth 6 = .ok (.if_icmp .lt 13, 3) := by decide +kernel
theorem dX6_leastWidth_9 : decode cX6_leastWidth 9 = .ok (.iload_n 2, 1) := by decide +kernel
theorem dX6_leastWidth_10 : decode cX6_leastWidth 10 = .ok (.bipush 16, 2) := by decide +kernel
theorem dX6_leastWidth_12 : decode cX6_leastWidth 12 = .ok (.if_icmp .gt 7, 3) := by decide +kernel
theorem dX6_leastWidth_15 : decode cX6_leastWidth 15 = .ok (.iconst 1, 1) := by decide +kernel
theorem dX6_leastWidth_16 : decode cX6_leastWidth 16 = .ok (.goto 4, 3) := by decide +kernel
theorem dX6_leastWidth_19 : decode cX6_leastWidth 19 = .ok (.iconst 0, 1) := by decide +kernel
theorem dX6_leastWidth_20 : decode cX6_leastWidth 20 = .ok (.istore_n 3, 1) := by decide +kernel
theorem dX6_leastWidth_21 : decode cX6_leastWidth 21 = .ok (.iload_n 1, 1) := by decide +kernel
theorem dX6_leastWidth_22 : decode cX6_leastWidth 22 = .ok (.iconst 1, 1) := by decide +kernel
theorem dX6_leastWidth_23 : decode cX6_leastWidth 23 = .ok (.if_icmp .ne 11, 3) := by decide +kernel
theorem dX6_leastWidth_26 : decode cX6_leastWidth 26 = .ok (.iload_n 2, 1) := by decide +kernel
theorem dX6_leastWidth_27 : decode cX6_leastWidth 27 = .ok (.ifCond .ne 7, 3) := by decide +kernel
theorem dX6_leastWidth_30 : decode cX6_leastWidth 30 = .ok (.iconst 1, 1) := by decide +kernel
theorem dX6_leastWidth_31 : decode cX6_leastWidth 31 = .ok (.goto 4, 3) := by decide +kernel
theorem dX6_leastWidth_34 : decode cX6_leastWidth 34 = .ok (.iconst 0, 1) := by decide +kernel
theorem dX6_leastWidth_35 : decode cX6_leastWidth 35 = .ok (.istore 4, 2) := by decide +kernel
theorem dX6_leastWidth_37 : decode cX6_leastWidth 37 = .ok (.iload_n 3, 1) := by decide +kernel
theorem dX6_leastWidth_38 : decode cX6_leastWidth 38 = .ok (.ifCond .ne 12, 3) := by decide +kernel
theorem dX6_leastWidth_41 : decode cX6_leastWidth 41 = .ok (.iload 4, 2) := by decide +kernel
theorem dX6_leastWidth_43 : decode cX6_leastWidth 43 = .ok (.ifCond .ne 7, 3) := by decide +kernel
theorem dX6_leastWidth_46 : decode cX6_leastWidth 46 = .ok (.sipush (-1002), 3) := by decide +kernel
theorem dX6_leastWidth_49 : decode cX6_leastWidth 49 = .ok (.ireturn, 1) := by decide +kernel
theorem dX6_leastWidth_50 : decode cX6_leastWidth 50 = .ok (.aload_n 0, 1) := by decide +kernel
theorem dX6_leastWidth_51 : decode cX6_leastWidth 51 = .ok (.getfield 35, 3) := by decide +kernel
theorem dX6_leastWidth_54 : decode cX6_leastWidth 54 = .ok (.invokevirtual 156, 3) := by decide +kernel
theorem dX6_leastWidth_57 : decode cX6_leastWidth 57 = .ok (.bipush 20, 2) := by decide +kernel
theorem dX6_leastWidth_59 : decode cX6_leastWidth 59 = .ok (.istore 5, 2) := by decide +kernel
theorem dX6_leastWidth_61 : decode cX6_leastWidth 61 = .ok (.iload 5, 2) := by decide +kernel
theorem dX6_leastWidth_63 : decode cX6_leastWidth 63 = .ok (.sipush 999, 3) := by decide +kernel
theorem dX6_leastWidth_66 : decode cX6_leastWidth 66 = .ok (.if_icmp .gt 49, 3) := by decide +kernel
theorem dX6_leastWidth_69 : decode cX6_leastWidth 69 = .ok (.aload_n 0, 1) := by decide +kernel
theorem dX6_leastWidth_70 : decode cX6_leastWidth 70 = .ok (.getfield 57, 3) := by decide +kernel
theorem dX6_leastWidth_73 : decode cX6_leastWidth 73 = .ok (.iload 5, 2) := by decide +kernel
theorem dX6_leastWidth_75 : decode cX6_leastWidth 75 = .ok (.invokevirtual 159, 3) := by decide +kernel
theorem dX6_leastWidth_78 : decode cX6_leastWidth 78 = .ok (.iload_n 3, 1) := by decide +kernel
theorem dX6_leastWidth_79 : decode cX6_leastWidth 79 = .ok (.ifCond .eq 17, 3) := by decide +kernel
theorem dX6_leastWidth_82 : decode cX6_leastWidth 82 = .ok (.aload_n 0, 1) := by decide +kernel
theorem dX6_leastWidth_83 : decode cX6_leastWidth 83 = .ok (.getfield 57, 3) := by decide +kernel
theorem dX6_leastWidth_86 : decode cX6_leastWidth 86 = .ok (.getfield 147, 3) := by decide +kernel
theorem dX6_leastWidth_89 : decode cX6_leastWidth 89 = .ok (.iload_n 2, 1) := by decide +kernel
theorem dX6_leastWidth_90 : decode cX6_leastWidth 90 = .ok (.if_icmp .gt 19, 3) := by decide +kernel
theorem dX6_leastWidth_93 : decode cX6_leastWidth 93 = .ok (.goto 13, 3) := by decide +kernel
theorem dX6_leastWidth_96 : decode cX6_leastWidth 96 = .ok (.aload_n 0, 1) := by decide +kernel
theorem dX6_leastWidth_97 : decode cX6_leastWidth 97 = .ok (.getfield 57, 3) := by decide +kernel
theorem dX6_leastWidth_100 : decode cX6_leastWidth 100 = .ok (.invokevirtual 163, 3) := by decide +kernel
theorem dX6_leastWidth_103 : decode cX6_leastWidth 103 = .ok (.ifCond .eq 6, 3) := by decide +kernel
theorem dX6_leastWidth_106 : decode cX6_leastWidth 106 = .ok (.iload 5, 2) := by decide +kernel
theorem dX6_leastWidth_108 : decode cX6_leastWidth 108 = .ok (.ireturn, 1) := by decide +kernel
theorem dX6_leastWidth_109 : decode cX6_leastWidth 109 = .ok (.iinc 5 1, 3) := by decide +kernel
theorem dX6_leastWidth_112 : decode cX6_leastWidth 112 = .ok (.goto (-51), 3) := by decide +kernel
theorem dX6_leastWidth_115 : decode cX6_leastWidth 115 = .ok (.sipush (-1001), 3) := by decide +kernel
theorem dX6_leastWidth_118 : decode cX6_leastWidth 118 = .ok (.ireturn, 1) := by decide +kernel
theorem dX6_count_0 : decode cX6_count 0 = .ok (.iload_n 1, 1) := by decide +kernel
theorem dX6_count_1 : decode cX6_count 1 = .ok (.ifCond .lt 9, 3) := by decide +kernel
theorem dX6_count_4 : decode cX6_count 4 = .ok (.iload_n 1, 1) := by decide +kernel
theorem dX6_count_5 : decode cX6_count 5 = .ok (.bipush 13, 2) := by decide +kernel
theorem dX6_count_7 : decode cX6_count 7 = .ok (.if_icmp .le 7, 3) := by decide +kernel
theorem dX6_count_10 : decode cX6_count 10 = .ok (.sipush (-1002), 3) := by decide +kernel
theorem dX6_count_13 : decode cX6_count 13 = .ok (.ireturn, 1) := by decide +kernel
theorem dX6_count_14 : decode cX6_count 14 = .ok (.aload_n 0, 1) := by decide +kernel
theorem dX6_count_15 : decode cX6_count 15 = .ok (.invokevirtual 96, 3) := by decide +kernel
theorem dX6_count_18 : decode cX6_count 18 = .ok (.aload_n 0, 1) := by decide +kernel
theorem dX6_count_19 : decode cX6_count 19 = .ok (.iload_n 1, 1) := by decide +kernel
theorem dX6_count_20 : decode cX6_count 20 = .ok (.invokevirtual 167, 3) := by decide +kernel
theorem dX6_count_23 : decode cX6_count 23 = .ok (.ireturn, 1) := by decide +kernel
theorem dX6_digest_0 : decode cX6_digest 0 = .ok (.aload_n 0, 1) := by decide +kernel
theorem dX6_digest_1 : decode cX6_digest 1 = .ok (.invokevirtual 96, 3) := by decide +kernel
theorem dX6_digest_4 : decode cX6_digest 4 = .ok (.ldc2_w 170, 3) := by decide +kernel
theorem dX6_digest_7 : decode cX6_digest 7 = .ok (.lstore_n 1, 1) := by decide +kernel
theorem dX6_digest_8 : decode cX6_digest 8 = .ok (.iconst 0, 1) := by decide +kernel
theorem dX6_digest_9 : decode cX6_digest 9 = .ok (.istore_n 3, 1) := by decide +kernel
theorem dX6_digest_10 : decode cX6_digest 10 = .ok (.iload_n 3, 1) := by decide +kernel
theorem dX6_digest_11 : decode cX6_digest 11 = .ok (.bipush 13, 2) := by decide +kernel
theorem dX6_digest_13 : decode cX6_digest 13 = .ok (.if_icmp .gt 22, 3) := by decide +kernel
theorem dX6_digest_16 : decode cX6_digest 16 = .ok (.lload_n 1, 1) := by decide +kernel
theorem dX6_digest_17 : decode cX6_digest 17 = .ok (.ldc2_w 172, 3) := by decide +kernel
theorem dX6_digest_20 : decode cX6_digest 20 = .ok (.lmul, 1) := by decide +kernel
theorem dX6_digest_21 : decode cX6_digest 21 = .ok (.aload_n 0, 1) := by decide +kernel
theorem dX6_digest_22 : decode cX6_digest 22 = .ok (.iload_n 3, 1) := by decide +kernel
theorem dX6_digest_23 : decode cX6_digest 23 = .ok (.invokevirtual 167, 3) := by decide +kernel
theorem dX6_digest_26 : decode cX6_digest 26 = .ok (.i2l, 1) := by decide +kernel
theorem dX6_digest_27 : decode cX6_digest 27 = .ok (.ladd, 1) := by decide +kernel
theorem dX6_digest_28 : decode cX6_digest 28 = .ok (.lstore_n 1, 1) := by decide +kernel
theorem dX6_digest_29 : decode cX6_digest 29 = .ok (.iinc 3 1, 3) := by decide +kernel
theorem dX6_digest_32 : decode cX6_digest 32 = .ok (.goto (-22), 3) := by decide +kernel
theorem dX6_digest_35 : decode cX6_digest 35 = .ok (.iconst 0, 1) := by decide +kernel
theorem dX6_digest_36 : decode cX6_digest 36 = .ok (.istore_n 3, 1) := by decide +kernel
theorem dX6_digest_37 : decode cX6_digest 37 = .ok (.iload_n 3, 1) := by decide +kernel
theorem dX6_digest_38 : decode cX6_digest 38 = .ok (.aload_n 0, 1) := by decide +kernel
theorem dX6_digest_39 : decode cX6_digest 39 = .ok (.getfield 19, 3) := by decide +kernel
theorem dX6_digest_42 : decode cX6_digest 42 = .ok (.getfield 72, 3) := by decide +kernel
theorem dX6_digest_45 : decode cX6_digest 45 = .ok (.if_icmp .ge 16, 3) := by decide +kernel
theorem dX6_digest_48 : decode cX6_digest 48 = .ok (.aload_n 0, 1) := by decide +kernel
theorem dX6_digest_49 : decode cX6_digest 49 = .ok (.lload_n 1, 1) := by decide +kernel
theorem dX6_digest_50 : decode cX6_digest 50 = .ok (.iload_n 3, 1) := by decide +kernel
theorem dX6_digest_51 : decode cX6_digest 51 = .ok (.invokevirtual 174, 3) := by decide +kernel
theorem dX6_digest_54 : decode cX6_digest 54 = .ok (.lstore_n 1, 1) := by decide +kernel
theorem dX6_digest_55 : decode cX6_digest 55 = .ok (.iinc 3 1, 3) := by decide +kernel
theorem dX6_digest_58 : decode cX6_digest 58 = .ok (.goto (-21), 3) := by decide +kernel
theorem dX6_digest_61 : decode cX6_digest 61 = .ok (.iconst 0, 1) := by decide +kernel
theorem dX6_digest_62 : decode cX6_digest 62 = .ok (.istore_n 3, 1) := by decide +kernel
theorem dX6_digest_63 : decode cX6_digest 63 = .ok (.iload_n 3, 1) := by decide +kernel
theorem dX6_digest_64 : decode cX6_digest 64 = .ok (.aload_n 0, 1) := by decide +kernel
theorem dX6_digest_65 : decode cX6_digest 65 = .ok (.getfield 44, 3) := by decide +kernel
theorem dX6_digest_68 : decode cX6_digest 68 = .ok (.getfield 147, 3) := by decide +kernel
theorem dX6_digest_71 : decode cX6_digest 71 = .ok (.if_icmp .ge 40, 3) := by decide +kernel
theorem dX6_digest_74 : decode cX6_digest 74 = .ok (.iconst 0, 1) := by decide +kernel
theorem dX6_digest_75 : decode cX6_digest 75 = .ok (.istore 4, 2) := by decide +kernel
theorem dX6_digest_77 : decode cX6_digest 77 = .ok (.iload 4, 2) := by decide +kernel
theorem dX6_digest_79 : decode cX6_digest 79 = .ok (.bipush 7, 2) := by decide +kernel
theorem dX6_digest_81 : decode cX6_digest 81 = .ok (.if_icmp .gt 24, 3) := by decide +kernel
theorem dX6_digest_84 : decode cX6_digest 84 = .ok (.lload_n 1, 1) := by decide +kernel
theorem dX6_digest_85 : decode cX6_digest 85 = .ok (.ldc2_w 172, 3) := by decide +kernel
theorem dX6_digest_88 : decode cX6_digest 88 = .ok (.lmul, 1) := by decide +kernel
theorem dX6_digest_89 : decode cX6_digest 89 = .ok (.aload_n 0, 1) := by decide +kernel
theorem dX6_digest_90 : decode cX6_digest 90 = .ok (.iload_n 3, 1) := by decide +kernel
theorem dX6_digest_91 : decode cX6_digest 91 = .ok (.iload 4, 2) := by decide +kernel
theorem dX6_digest_93 : decode cX6_digest 93 = .ok (.invokevirtual 149, 3) := by decide +kernel
theorem dX6_digest_96 : decode cX6_digest 96 = .ok (.i2l, 1) := by decide +kernel
theorem dX6_digest_97 : decode cX6_digest 97 = .ok (.ladd, 1) := by decide +kernel
theorem dX6_digest_98 : decode cX6_digest 98 = .ok (.lstore_n 1, 1) := by decide +kernel
theorem dX6_digest_99 : decode cX6_digest 99 = .ok (.iinc 4 1, 3) := by decide +kernel
theorem dX6_digest_102 : decode cX6_digest 102 = .ok (.goto (-25), 3) := by decide +kernel
theorem dX6_digest_105 : decode cX6_digest 105 = .ok (.iinc 3 1, 3) := by decide +kernel
theorem dX6_digest_108 : decode cX6_digest 108 = .ok (.goto (-45), 3) := by decide +kernel
theorem dX6_digest_111 : decode cX6_digest 111 = .ok (.iconst 0, 1) := by decide +kernel
theorem dX6_digest_112 : decode cX6_digest 112 = .ok (.istore_n 3, 1) := by decide +kernel
theorem dX6_digest_113 : decode cX6_digest 113 = .ok (.iload_n 3, 1) := by decide +kernel
theorem dX6_digest_114 : decode cX6_digest 114 = .ok (.aload_n 0, 1) := by decide +kernel
theorem dX6_digest_115 : decode cX6_digest 115 = .ok (.getfield 35, 3) := by decide +kernel
theorem dX6_digest_118 : decode cX6_digest 118 = .ok (.getfield 141, 3) := by decide +kernel
theorem dX6_digest_121 : decode cX6_digest 121 = .ok (.if_icmp .ge 25, 3) := by decide +kernel
theorem dX6_digest_124 : decode cX6_digest 124 = .ok (.lload_n 1, 1) := by decide +kernel
theorem dX6_digest_125 : decode cX6_digest 125 = .ok (.ldc2_w 172, 3) := by decide +kernel
theorem dX6_digest_128 : decode cX6_digest 128 = .ok (.lmul, 1) := by decide +kernel
theorem dX6_digest_129 : decode cX6_digest 129 = .ok (.aload_n 0, 1) := by decide +kernel
theorem dX6_digest_130 : decode cX6_digest 130 = .ok (.getfield 35, 3) := by decide +kernel
theorem dX6_digest_133 : decode cX6_digest 133 = .ok (.iload_n 3, 1) := by decide +kernel
theorem dX6_digest_134 : decode cX6_digest 134 = .ok (.invokevirtual 144, 3) := by decide +kernel
theorem dX6_digest_137 : decode cX6_digest 137 = .ok (.i2l, 1) := by decide +kernel
theorem dX6_digest_138 : decode cX6_digest 138 = .ok (.ladd, 1) := by decide +kernel
theorem dX6_digest_139 : decode cX6_digest 139 = .ok (.lstore_n 1, 1) := by decide +kernel
theorem dX6_digest_140 : decode cX6_digest 140 = .ok (.iinc 3 1, 3) := by decide +kernel
theorem dX6_digest_143 : decode cX6_digest 143 = .ok (.goto (-30), 3) := by decide +kernel
theorem dX6_digest_146 : decode cX6_digest 146 = .ok (.iconst 0, 1) := by decide +kernel
theorem dX6_digest_147 : decode cX6_digest 147 = .ok (.istore_n 3, 1) := by decide +kernel
theorem dX6_digest_148 : decode cX6_digest 148 = .ok (.iload_n 3, 1) := by decide +kernel
theorem dX6_digest_149 : decode cX6_digest 149 = .ok (.aload_n 0, 1) := by decide +kernel
theorem dX6_digest_150 : decode cX6_digest 150 = .ok (.getfield 10, 3) := by decide +kernel
theorem dX6_digest_153 : decode cX6_digest 153 = .ok (.getfield 68, 3) := by decide +kernel
theorem dX6_digest_156 : decode cX6_digest 156 = .ok (.if_icmp .ge 25, 3) := by decide +kernel
theorem dX6_digest_159 : decode cX6_digest 159 = .ok (.lload_n 1, 1) := by decide +kernel
theorem dX6_digest_160 : decode cX6_digest 160 = .ok (.ldc2_w 172, 3) := by decide +kernel
theorem dX6_digest_163 : decode cX6_digest 163 = .ok (.lmul, 1) := by decide +kernel
theorem dX6_digest_164 : decode cX6_digest 164 = .ok (.aload_n 0, 1) := by decide +kernel
theorem dX6_digest_165 : decode cX6_digest 165 = .ok (.getfield 10, 3) := by decide +kernel
theorem dX6_digest_168 : decode cX6_digest 168 = .ok (.iload_n 3, 1) := by decide +kernel
theorem dX6_digest_169 : decode cX6_digest 169 = .ok (.invokevirtual 178, 3) := by decide +kernel
theorem dX6_digest_172 : decode cX6_digest 172 = .ok (.i2l, 1) := by decide +kernel
theorem dX6_digest_173 : decode cX6_digest 173 = .ok (.ladd, 1) := by decide +kernel
theorem dX6_digest_174 : decode cX6_digest 174 = .ok (.lstore_n 1, 1) := by decide +kernel
theorem dX6_digest_175 : decode cX6_digest 175 = .ok (.iinc 3 1, 3) := by decide +kernel
theorem dX6_digest_178 : decode cX6_digest 178 = .ok (.goto (-30), 3) := by decide +kernel
theorem dX6_digest_181 : decode cX6_digest 181 = .ok (.lload_n 1, 1) := by decide +kernel
theorem dX6_digest_182 : decode cX6_digest 182 = .ok (.lreturn, 1) := by decide +kernel
theorem dX6_beforeChange_0 : decode cX6_beforeChange 0 = .ok (.aload_n 0, 1) := by decide +kernel
theorem dX6_beforeChange_1 : decode cX6_beforeChange 1 = .ok (.getfield 26, 3) := by decide +kernel
theorem dX6_beforeChange_4 : decode cX6_beforeChange 4 = .ok (.aload_n 0, 1) := by decide +kernel
theorem dX6_beforeChange_5 : decode cX6_beforeChange 5 = .ok (.getfield 19, 3) := by decide +kernel
theorem dX6_beforeChange_8 : decode cX6_beforeChange 8 = .ok (.invokevirtual 181, 3) := by decide +kernel
theorem dX6_beforeChange_11 : decode cX6_beforeChange 11 = .ok (.aload_n 0, 1) := by decide +kernel
theorem dX6_beforeChange_12 : decode cX6_beforeChange 12 = .ok (.iconst 0, 1) := by decide +kernel
theorem dX6_beforeChange_13 : decode cX6_beforeChange 13 = .ok (.putfield 60, 3) := by decide +kernel
theorem dX6_beforeChange_16 : decode cX6_beforeChange 16 = .ok (.return_, 1) := by decide +kernel
theorem dX6_layOut_0 : decode cX6_layOut 0 = .ok (.aload_n 0, 1) := by decide +kernel
theorem dX6_layOut_1 : decode cX6_layOut 1 = .ok (.getfield 60, 3) := by decide +kernel
theorem dX6_layOut_4 : decode cX6_layOut 4 = .ok (.ifCond .eq 4, 3) := by decide +kernel
theorem dX6_layOut_7 : decode cX6_layOut 7 = .ok (.return_, 1) := by decide +kernel
theorem dX6_layOut_8 : decode cX6_layOut 8 = .ok (.aload_n 0, 1) := by decide +kernel
theorem dX6_layOut_9 : decode cX6_layOut 9 = .ok (.getfield 35, 3) := by decide +kernel
theorem dX6_layOut_12 : decode cX6_layOut 12 = .ok (.invokevirtual 156, 3) := by decide +kernel
theorem dX6_layOut_15 : decode cX6_layOut 15 = .ok (.aload_n 0, 1) := by decide +kernel
theorem dX6_layOut_16 : decode cX6_layOut 16 = .ok (.getfield 44, 3) := by decide +kernel
theorem dX6_layOut_19 : decode cX6_layOut 19 = .ok (.aload_n 0, 1) := by decide +kernel
theorem dX6_layOut_20 : decode cX6_layOut 20 = .ok (.getfield 19, 3) := by decide +kernel
theorem dX6_layOut_23 : decode cX6_layOut 23 = .ok (.iconst 0, 1) := by decide +kernel
theorem dX6_layOut_24 : decode cX6_layOut 24 = .ok (.invokevirtual 123, 3) := by decide +kernel
theorem dX6_layOut_27 : decode cX6_layOut 27 = .ok (.invokevirtual 159, 3) := by decide +kernel
theorem dX6_layOut_30 : decode cX6_layOut 30 = .ok (.aload_n 0, 1) := by decide +kernel
theorem dX6_layOut_31 : decode cX6_layOut 31 = .ok (.getfield 44, 3) := by decide +kernel
theorem dX6_layOut_34 : decode cX6_layOut 34 = .ok (.invokevirtual 184, 3) := by decide +kernel
theorem dX6_layOut_37 : decode cX6_layOut 37 = .ok (.aload_n 0, 1) := by decide +kernel
theorem dX6_layOut_38 : decode cX6_layOut 38 = .ok (.getfield 53, 3) := by decide +kernel
theorem dX6_layOut_41 : decode cX6_layOut 41 = .ok (.invokevirtual 187, 3) := by decide +kernel
theorem dX6_layOut_44 : decode cX6_layOut 44 = .ok (.aload_n 0, 1) := by decide +kernel
theorem dX6_layOut_45 : decode cX6_layOut 45 = .ok (.iconst 1, 1) := by decide +kernel
theorem dX6_layOut_46 : decode cX6_layOut 46 = .ok (.putfield 60, 3) := by decide +kernel
theorem dX6_layOut_49 : decode cX6_layOut 49 = .ok (.return_, 1) := by decide +kernel
theorem dX6_lieAt_0 : decode cX6_lieAt 0 = .ok (.iload_n 1, 1) := by decide +kernel
theorem dX6_lieAt_1 : decode cX6_lieAt 1 = .ok (.ifCond .lt 14, 3) := by decide +kernel
theorem dX6_lieAt_4 : decode cX6_lieAt 4 = .ok (.iload_n 1, 1) := by decide +kernel
theorem dX6_lieAt_5 : decode cX6_lieAt 5 = .ok (.aload_n 0, 1) := by decide +kernel
theorem dX6_lieAt_6 : decode cX6_lieAt 6 = .ok (.getfield 35, 3) := by decide +kernel
theorem dX6_lieAt_9 : decode cX6_lieAt 9 = .ok (.getfield 141, 3) := by decide +kernel
theorem dX6_lieAt_12 : decode cX6_lieAt 12 = .ok (.if_icmp .lt 7, 3) := by decide +kernel
theorem dX6_lieAt_15 : decode cX6_lieAt 15 = .ok (.sipush (-1001), 3) := by decide +kernel
theorem dX6_lieAt_18 : decode cX6_lieAt 18 = .ok (.ireturn, 1) := by decide +kernel
theorem dX6_lieAt_19 : decode cX6_lieAt 19 = .ok (.aload_n 0, 1) := by decide +kernel
theorem dX6_lieAt_20 : decode cX6_lieAt 20 = .ok (.getfield 35, 3) := by decide +kernel
theorem dX6_lieAt_23 : decode cX6_lieAt 23 = .ok (.getfield 190, 3) := by decide +kernel
theorem dX6_lieAt_26 : decode cX6_lieAt 26 = .ok (.iload_n 1, 1) := by decide +kernel
theorem dX6_lieAt_27 : decode cX6_lieAt 27 = .ok (.iaload, 1) := by decide +kernel
theorem dX6_lieAt_28 : decode cX6_lieAt 28 = .ok (.istore_n 3, 1) := by decide +kernel
theorem dX6_lieAt_29 : decode cX6_lieAt 29 = .ok (.iload_n 2, 1) := by decide +kernel
theorem dX6_lieAt_30 : decode cX6_lieAt 30 = .ok (.tableswitch 122 0 6 #[42, 51, 53, 63, 73, 83, 102], 42) := by decide +kernel
theorem dX6_lieAt_72 : decode cX6_lieAt 72 = .ok (.aload_n 0, 1) := by decide +kernel
theorem dX6_lieAt_73 : decode cX6_lieAt 73 = .ok (.getfield 44, 3) := by decide +kernel
theorem dX6_lieAt_76 : decode cX6_lieAt 76 = .ok (.iload_n 1, 1) := by decide +kernel
theorem dX6_lieAt_77 : decode cX6_lieAt 77 = .ok (.invokevirtual 192, 3) := by decide +kernel
theorem dX6_lieAt_80 : decode cX6_lieAt 80 = .ok (.ireturn, 1) := by decide +kernel
theorem dX6_lieAt_81 : decode cX6_lieAt 81 = .ok (.iload_n 1, 1) := by decide +kernel
theorem dX6_lieAt_82 : decode cX6_lieAt 82 = .ok (.ireturn, 1) := by decide +kernel
theorem dX6_lieAt_83 : decode cX6_lieAt 83 = .ok (.aload_n 0, 1) := by decide +kernel
theorem dX6_lieAt_84 : decode cX6_lieAt 84 = .ok (.getfield 53, 3) := by decide +kernel
theorem dX6_lieAt_87 : decode cX6_lieAt 87 = .ok (.getfield 195, 3) := by decide +kernel
theorem dX6_lieAt_90 : decode cX6_lieAt 90 = .ok (.iload_n 1, 1) := by decide +kernel
theorem dX6_lieAt_91 : decode cX6_lieAt 91 = .ok (.iaload, 1) := by decide +kernel
theorem dX6_lieAt_92 : decode cX6_lieAt 92 = .ok (.ireturn, 1) := by decide +kernel
theorem dX6_lieAt_93 : decode cX6_lieAt 93 = .ok (.aload_n 0, 1) := by decide +kernel
theorem dX6_lieAt_94 : decode cX6_lieAt 94 = .ok (.getfield 44, 3) := by decide +kernel
theorem dX6_lieAt_97 : decode cX6_lieAt 97 = .ok (.getfield 198, 3) := by decide +kernel
theorem dX6_lieAt_100 : decode cX6_lieAt 100 = .ok (.iload_n 1, 1) := by decide +kernel
theorem dX6_lieAt_101 : decode cX6_lieAt 101 = .ok (.iaload, 1) := by decide +kernel
theorem dX6_lieAt_102 : decode cX6_lieAt 102 = .ok (.ireturn, 1) := by decide +kernel
theorem dX6_lieAt_103 : decode cX6_lieAt 103 = .ok (.aload_n 0, 1) := by decide +kernel
theorem dX6_lieAt_104 : decode cX6_lieAt 104 = .ok (.getfield 53, 3) := by decide +kernel
theorem dX6_lieAt_107 : decode cX6_lieAt 107 = .ok (.getfield 201, 3) := by decide +kernel
theorem dX6_lieAt_110 : decode cX6_lieAt 110 = .ok (.iload_n 1, 1) := by decide +kernel
theorem dX6_lieAt_111 : decode cX6_lieAt 111 = .ok (.iaload, 1) := by decide +kernel
theorem dX6_lieAt_112 : decode cX6_lieAt 112 = .ok (.ireturn, 1) := by decide +kernel
theorem dX6_lieAt_113 : decode cX6_lieAt 113 = .ok (.aload_n 0, 1) := by decide +kernel
theorem dX6_lieAt_114 : decode cX6_lieAt 114 = .ok (.getfield 53, 3) := by decide +kernel
theorem dX6_lieAt_117 : decode cX6_lieAt 117 = .ok (.getfield 201, 3) := by decide +kernel
theorem dX6_lieAt_120 : decode cX6_lieAt 120 = .ok (.iload_n 1, 1) := by decide +kernel
theorem dX6_lieAt_121 : decode cX6_lieAt 121 = .ok (.iaload, 1) := by decide +kernel
theorem dX6_lieAt_122 : decode cX6_lieAt 122 = .ok (.aload_n 0, 1) := by decide +kernel
theorem dX6_lieAt_123 : decode cX6_lieAt 123 = .ok (.getfield 19, 3) := by decide +kernel
theorem dX6_lieAt_126 : decode cX6_lieAt 126 = .ok (.iload_n 3, 1) := by decide +kernel
theorem dX6_lieAt_127 : decode cX6_lieAt 127 = .ok (.invokevirtual 204, 3) := by decide +kernel
theorem dX6_lieAt_130 : decode cX6_lieAt 130 = .ok (.iadd, 1) := by decide +kernel
theorem dX6_lieAt_131 : decode cX6_lieAt 131 = .ok (.ireturn, 1) := by decide +kernel
theorem dX6_lieAt_132 : decode cX6_lieAt 132 = .ok (.aload_n 0, 1) := by decide +kernel
theorem dX6_lieAt_133 : decode cX6_lieAt 133 = .ok (.getfield 44, 3) := by decide +kernel
theorem dX6_lieAt_136 : decode cX6_lieAt 136 = .ok (.getfield 198, 3) := by decide +kernel
theorem dX6_lieAt_139 : decode cX6_lieAt 139 = .ok (.iload_n 1, 1) := by decide +kernel
theorem dX6_lieAt_140 : decode cX6_lieAt 140 = .ok (.iaload, 1) := by decide +kernel
theorem dX6_lieAt_141 : decode cX6_lieAt 141 = .ok (.aload_n 0, 1) := by decide +kernel
theorem dX6_lieAt_142 : decode cX6_lieAt 142 = .ok (.getfield 35, 3) := by decide +kernel
theorem dX6_lieAt_145 : decode cX6_lieAt 145 = .ok (.getfield 207, 3) := by decide +kernel
theorem dX6_lieAt_148 : decode cX6_lieAt 148 = .ok (.iload_n 1, 1) := by decide +kernel
theorem dX6_lieAt_149 : decode cX6_lieAt 149 = .ok (.iaload, 1) := by decide +kernel
theorem dX6_lieAt_150 : decode cX6_lieAt 150 = .ok (.isub, 1) := by decide +kernel
theorem dX6_lieAt_151 : decode cX6_lieAt 151 = .ok (.ireturn, 1) := by decide +kernel
theorem dX6_lieAt_152 : decode cX6_lieAt 152 = .ok (.aload_n 0, 1) := by decide +kernel
theorem dX6_lieAt_153 : decode cX6_lieAt 153 = .ok (.getfield 44, 3) := by decide +kernel
theorem dX6_lieAt_156 : decode cX6_lieAt 156 = .ok (.getfield 209, 3) := by decide +kernel
theorem dX6_lieAt_159 : decode cX6_lieAt 159 = .ok (.iload_n 1, 1) := by decide +kernel
theorem dX6_lieAt_160 : decode cX6_lieAt 160 = .ok (.iaload, 1) := by decide +kernel
theorem dX6_lieAt_161 : decode cX6_lieAt 161 = .ok (.ireturn, 1) := by decide +kernel
theorem dX6_lineTells_0 : decode cX6_lineTells 0 = .ok (.iload_n 1, 1) := by decide +kernel
theorem dX6_lineTells_1 : decode cX6_lineTells 1 = .ok (.ifCond .lt 20, 3) := by decide +kernel
theorem dX6_lineTells_4 : decode cX6_lineTells 4 = .ok (.iload_n 1, 1) := by decide +kernel
theorem dX6_lineTells_5 : decode cX6_lineTells 5 = .ok (.aload_n 0, 1) := by decide +kernel
theorem dX6_lineTells_6 : decode cX6_lineTells 6 = .ok (.getfield 44, 3) := by decide +kernel
theorem dX6_lineTells_9 : decode cX6_lineTells 9 = .ok (.getfield 147, 3) := by decide +kernel
theorem dX6_lineTells_12 : decode cX6_lineTells 12 = .ok (.if_icmp .ge 9, 3) := by decide +kernel
theorem dX6_lineTells_15 : decode cX6_lineTells 15 = .ok (.iload_n 1, 1) := by decide +kernel
theorem dX6_lineTells_16 : decode cX6_lineTells 16 = .ok (.bipush 16, 2) := by decide +kernel
theorem dX6_lineTells_18 : decode cX6_lineTells 18 = .ok (.if_icmp .lt 7, 3) := by decide +kernel
theorem dX6_lineTells_21 : decode cX6_lineTells 21 = .ok (.sipush (-1001), 3) := by decide +kernel
theorem dX6_lineTells_24 : decode cX6_lineTells 24 = .ok (.ireturn, 1) := by decide +kernel
theorem dX6_lineTells_25 : decode cX6_lineTells 25 = .ok (.iload_n 2, 1) := by decide +kernel
theorem dX6_lineTells_26 : decode cX6_lineTells 26 = .ok (.tableswitch 129 0 6 #[42, 61, 71, 81, 91, 101, 119], 42) := by decide +kernel
theorem dX6_lineTells_68 : decode cX6_lineTells 68 = .ok (.aload_n 0, 1) := by decide +kernel
theorem dX6_lineTells_69 : decode cX6_lineTells 69 = .ok (.getfield 44, 3) := by decide +kernel
theorem dX6_lineTells_72 : decode cX6_lineTells 72 = .ok (.iload_n 1, 1) := by decide +kernel
theorem dX6_lineTells_73 : decode cX6_lineTells 73 = .ok (.invokevirtual 212, 3) := by decide +kernel
theorem dX6_lineTells_76 : decode cX6_lineTells 76 = .ok (.aload_n 0, 1) := by decide +kernel
theorem dX6_lineTells_77 : decode cX6_lineTells 77 = .ok (.getfield 44, 3) := by decide +kernel
theorem dX6_lineTells_80 : decode cX6_lineTells 80 = .ok (.getfield 215, 3) := by decide +kernel
theorem dX6_lineTells_83 : decode cX6_lineTells 83 = .ok (.iload_n 1, 1) := by decide +kernel
theorem dX6_lineTells_84 : decode cX6_lineTells 84 = .ok (.iaload, 1) := by decide +kernel
theorem dX6_lineTells_85 : decode cX6_lineTells 85 = .ok (.isub, 1) := by decide +kernel
theorem dX6_lineTells_86 : decode cX6_lineTells 86 = .ok (.ireturn, 1) := by decide +kernel
theorem dX6_lineTells_87 : decode cX6_lineTells 87 = .ok (.aload_n 0, 1) := by decide +kernel
theorem dX6_lineTells_88 : decode cX6_lineTells 88 = .ok (.getfield 44, 3) := by decide +kernel
theorem dX6_lineTells_91 : decode cX6_lineTells 91 = .ok (.getfield 215, 3) := by decide +kernel
theorem dX6_lineTells_94 : decode cX6_lineTells 94 = .ok (.iload_n 1, 1) := by decide +kernel
theorem dX6_lineTells_95 : decode cX6_lineTells 95 = .ok (.iaload, 1) := by decide +kernel
theorem dX6_lineTells_96 : decode cX6_lineTells 96 = .ok (.ireturn, 1) := by decide +kernel
theorem dX6_lineTells_97 : decode cX6_lineTells 97 = .ok (.aload_n 0, 1) := by decide +kernel
theorem dX6_lineTells_98 : decode cX6_lineTells 98 = .ok (.getfield 53, 3) := by decide +kernel
theorem dX6_lineTells_101 : decode cX6_lineTells 101 = .ok (.getfield 218, 3) := by decide +kernel
theorem dX6_lineTells_104 : decode cX6_lineTells 104 = .ok (.iload_n 1, 1) := by decide +kernel
theorem dX6_lineTells_105 : decode cX6_lineTells 105 = .ok (.iaload, 1) := by decide +kernel
theorem dX6_lineTells_106 : decode cX6_lineTells 106 = .ok (.ireturn, 1) := by decide +kernel
theorem dX6_lineTells_107 : decode cX6_lineTells 107 = .ok (.aload_n 0, 1) := by decide +kernel
theorem dX6_lineTells_108 : decode cX6_lineTells 108 = .ok (.getfield 53, 3) := by decide +kernel
theorem dX6_lineTells_111 : decode cX6_lineTells 111 = .ok (.getfield 221, 3) := by decide +kernel
theorem dX6_lineTells_114 : decode cX6_lineTells 114 = .ok (.iload_n 1, 1) := by decide +kernel
theorem dX6_lineTells_115 : decode cX6_lineTells 115 = .ok (.iaload, 1) := by decide +kernel
theorem dX6_lineTells_116 : decode cX6_lineTells 116 = .ok (.ireturn, 1) := by decide +kernel
theorem dX6_lineTells_117 : decode cX6_lineTells 117 = .ok (.aload_n 0, 1) := by decide +kernel
theorem dX6_lineTells_118 : decode cX6_lineTells 118 = .ok (.getfield 44, 3) := by decide +kernel
theorem dX6_lineTells_121 : decode cX6_lineTells 121 = .ok (.getfield 224, 3) := by decide +kernel
theorem dX6_lineTells_124 : decode cX6_lineTells 124 = .ok (.iload_n 1, 1) := by decide +kernel
theorem dX6_lineTells_125 : decode cX6_lineTells 125 = .ok (.iaload, 1) := by decide +kernel
theorem dX6_lineTells_126 : decode cX6_lineTells 126 = .ok (.ireturn, 1) := by decide +kernel
theorem dX6_lineTells_127 : decode cX6_lineTells 127 = .ok (.aload_n 0, 1) := by decide +kernel
theorem dX6_lineTells_128 : decode cX6_lineTells 128 = .ok (.getfield 44, 3) := by decide +kernel
theorem dX6_lineTells_131 : decode cX6_lineTells 131 = .ok (.getfield 227, 3) := by decide +kernel
theorem dX6_lineTells_134 : decode cX6_lineTells 134 = .ok (.iload_n 1, 1) := by decide +kernel
theorem dX6_lineTells_135 : decode cX6_lineTells 135 = .ok (.baload, 1) := by decide +kernel
theorem dX6_lineTells_136 : decode cX6_lineTells 136 = .ok (.ifCond .eq 7, 3) := by decide +kernel
theorem dX6_lineTells_139 : decode cX6_lineTells 139 = .ok (.iconst 1, 1) := by decide +kernel
theorem dX6_lineTells_140 : decode cX6_lineTells 140 = .ok (.goto 4, 3) := by decide +kernel
theorem dX6_lineTells_143 : decode cX6_lineTells 143 = .ok (.iconst 0, 1) := by decide +kernel
theorem dX6_lineTells_144 : decode cX6_lineTells 144 = .ok (.ireturn, 1) := by decide +kernel
theorem dX6_lineTells_145 : decode cX6_lineTells 145 = .ok (.aload_n 0, 1) := by decide +kernel
theorem dX6_lineTells_146 : decode cX6_lineTells 146 = .ok (.getfield 44, 3) := by decide +kernel
theorem dX6_lineTells_149 : decode cX6_lineTells 149 = .ok (.getfield 231, 3) := by decide +kernel
theorem dX6_lineTells_152 : decode cX6_lineTells 152 = .ok (.iload_n 1, 1) := by decide +kernel
theorem dX6_lineTells_153 : decode cX6_lineTells 153 = .ok (.iaload, 1) := by decide +kernel
theorem dX6_lineTells_154 : decode cX6_lineTells 154 = .ok (.ireturn, 1) := by decide +kernel
theorem dX6_lineTells_155 : decode cX6_lineTells 155 = .ok (.aload_n 0, 1) := by decide +kernel
theorem dX6_lineTells_156 : decode cX6_lineTells 156 = .ok (.getfield 44, 3) := by decide +kernel
theorem dX6_lineTells_159 : decode cX6_lineTells 159 = .ok (.getfield 234, 3) := by decide +kernel
theorem dX6_lineTells_162 : decode cX6_lineTells 162 = .ok (.iload_n 1, 1) := by decide +kernel
theorem dX6_lineTells_163 : decode cX6_lineTells 163 = .ok (.iaload, 1) := by decide +kernel
theorem dX6_lineTells_164 : decode cX6_lineTells 164 = .ok (.ireturn, 1) := by decide +kernel
theorem dX6_counted_0 : decode cX6_counted 0 = .ok (.iload_n 1, 1) := by decide +kernel
theorem dX6_counted_1 : decode cX6_counted 1 = .ok (.tableswitch 104 0 6 #[43, 51, 67, 75, 83, 88, 96], 43) := by decide +kernel
theorem dX6_counted_44 : decode cX6_counted 44 = .ok (.aload_n 0, 1) := by decide +kernel
theorem dX6_counted_45 : decode cX6_counted 45 = .ok (.getfield 19, 3) := by decide +kernel
theorem dX6_counted_48 : decode cX6_counted 48 = .ok (.getfield 72, 3) := by decide +kernel
theorem dX6_counted_51 : decode cX6_counted 51 = .ok (.ireturn, 1) := by decide +kernel
theorem dX6_counted_52 : decode cX6_counted 52 = .ok (.aload_n 0, 1) := by decide +kernel
theorem dX6_counted_53 : decode cX6_counted 53 = .ok (.getfield 19, 3) := by decide +kernel
theorem dX6_counted_56 : decode cX6_counted 56 = .ok (.getfield 72, 3) := by decide +kernel
theorem dX6_counted_59 : decode cX6_counted 59 = .ok (.aload_n 0, 1) := by decide +kernel
theorem dX6_counted_60 : decode cX6_counted 60 = .ok (.getfield 35, 3) := by decide +kernel
theorem dX6_counted_63 : decode cX6_counted 63 = .ok (.getfield 141, 3) := by decide +kernel
theorem dX6_counted_66 : decode cX6_counted 66 = .ok (.isub, 1) := by decide +kernel
theorem dX6_counted_67 : decode cX6_counted 67 = .ok (.ireturn, 1) := by decide +kernel
theorem dX6_counted_68 : decode cX6_counted 68 = .ok (.aload_n 0, 1) := by decide +kernel
theorem dX6_counted_69 : decode cX6_counted 69 = .ok (.getfield 44, 3) := by decide +kernel
theorem dX6_counted_72 : decode cX6_counted 72 = .ok (.getfield 147, 3) := by decide +kernel
theorem dX6_counted_75 : decode cX6_counted 75 = .ok (.ireturn, 1) := by decide +kernel
theorem dX6_counted_76 : decode cX6_counted 76 = .ok (.aload_n 0, 1) := by decide +kernel
theorem dX6_counted_77 : decode cX6_counted 77 = .ok (.getfield 53, 3) := by decide +kernel
theorem dX6_counted_80 : decode cX6_counted 80 = .ok (.getfield 237, 3) := by decide +kernel
theorem dX6_counted_83 : decode cX6_counted 83 = .ok (.ireturn, 1) := by decide +kernel
theorem dX6_counted_84 : decode cX6_counted 84 = .ok (.aload_n 0, 1) := by decide +kernel
theorem dX6_counted_85 : decode cX6_counted 85 = .ok (.invokevirtual 240, 3) := by decide +kernel
theorem dX6_counted_88 : decode cX6_counted 88 = .ok (.ireturn, 1) := by decide +kernel
theorem dX6_counted_89 : decode cX6_counted 89 = .ok (.aload_n 0, 1) := by decide +kernel
theorem dX6_counted_90 : decode cX6_counted 90 = .ok (.getfield 26, 3) := by decide +kernel
theorem dX6_counted_93 : decode cX6_counted 93 = .ok (.getfield 129, 3) := by decide +kernel
theorem dX6_counted_96 : decode cX6_counted 96 = .ok (.ireturn, 1) := by decide +kernel
theorem dX6_counted_97 : decode cX6_counted 97 = .ok (.aload_n 0, 1) := by decide +kernel
theorem dX6_counted_98 : decode cX6_counted 98 = .ok (.getfield 10, 3) := by decide +kernel
theorem dX6_counted_101 : decode cX6_counted 101 = .ok (.getfield 68, 3) := by decide +kernel
theorem dX6_counted_104 : decode cX6_counted 104 = .ok (.ireturn, 1) := by decide +kernel
theorem dX6_counted_105 : decode cX6_counted 105 = .ok (.aload_n 0, 1) := by decide +kernel
theorem dX6_counted_106 : decode cX6_counted 106 = .ok (.getfield 19, 3) := by decide +kernel
theorem dX6_counted_109 : decode cX6_counted 109 = .ok (.iload_n 1, 1) := by decide +kernel
theorem dX6_counted_110 : decode cX6_counted 110 = .ok (.bipush 7, 2) := by decide +kernel
theorem dX6_counted_112 : decode cX6_counted 112 = .ok (.isub, 1) := by decide +kernel
theorem dX6_counted_113 : decode cX6_counted 113 = .ok (.invokevirtual 123, 3) := by decide +kernel
theorem dX6_counted_116 : decode cX6_counted 116 = .ok (.ireturn, 1) := by decide +kernel
theorem dX6_greatestEnd_0 : decode cX6_greatestEnd 0 = .ok (.aload_n 0, 1) := by decide +kernel
theorem dX6_greatestEnd_1 : decode cX6_greatestEnd 1 = .ok (.getfield 35, 3) := by decide +kernel
theorem dX6_greatestEnd_4 : decode cX6_greatestEnd 4 = .ok (.getfield 141, 3) := by decide +kernel
theorem dX6_greatestEnd_7 : decode cX6_greatestEnd 7 = .ok (.ifCond .ne 7, 3) := by decide +kernel
theorem dX6_greatestEnd_10 : decode cX6_greatestEnd 10 = .ok (.sipush (-1001), 3) := by decide +kernel
theorem dX6_greatestEnd_13 : decode cX6_greatestEnd 13 = .ok (.ireturn, 1) := by decide +kernel
theorem dX6_greatestEnd_14 : decode cX6_greatestEnd 14 = .ok (.aload_n 0, 1) := by decide +kernel
theorem dX6_greatestEnd_15 : decode cX6_greatestEnd 15 = .ok (.getfield 53, 3) := by decide +kernel
theorem dX6_greatestEnd_18 : decode cX6_greatestEnd 18 = .ok (.iconst 0, 1) := by decide +kernel
theorem dX6_greatestEnd_19 : decode cX6_greatestEnd 19 = .ok (.invokevirtual 243, 3) := by decide +kernel
theorem dX6_greatestEnd_22 : decode cX6_greatestEnd 22 = .ok (.istore_n 1, 1) := by decide +kernel
theorem dX6_greatestEnd_23 : decode cX6_greatestEnd 23 = .ok (.iconst 1, 1) := by decide +kernel
theorem dX6_greatestEnd_24 : decode cX6_greatestEnd 24 = .ok (.istore_n 2, 1) := by decide +kernel
theorem dX6_greatestEnd_25 : decode cX6_greatestEnd 25 = .ok (.iload_n 2, 1) := by decide +kernel
theorem dX6_greatestEnd_26 : decode cX6_greatestEnd 26 = .ok (.aload_n 0, 1) := by decide +kernel
theorem dX6_greatestEnd_27 : decode cX6_greatestEnd 27 = .ok (.getfield 35, 3) := by decide +kernel
theorem dX6_greatestEnd_30 : decode cX6_greatestEnd 30 = .ok (.getfield 141, 3) := by decide +kernel
theorem dX6_greatestEnd_33 : decode cX6_greatestEnd 33 = .ok (.if_icmp .ge 22, 3) := by decide +kernel
theorem dX6_greatestEnd_36 : decode cX6_greatestEnd 36 = .ok (.iload_n 1, 1) := by decide +kernel
theorem dX6_greatestEnd_37 : decode cX6_greatestEnd 37 = .ok (.aload_n 0, 1) := by decide +kernel
theorem dX6_greatestEnd_38 : decode cX6_greatestEnd 38 = .ok (.getfield 53, 3) := by decide +kernel
theorem dX6_greatestEnd_41 : decode cX6_greatestEnd 41 = .ok (.iload_n 2, 1) := by decide +kernel
theorem dX6_greatestEnd_42 : decode cX6_greatestEnd 42 = .ok (.invokevirtual 243, 3) := by decide +kernel
theorem dX6_greatestEnd_45 : decode cX6_greatestEnd 45 = .ok (.invokestatic 244, 3) := by decide +kernel
theorem dX6_greatestEnd_48 : decode cX6_greatestEnd 48 = .ok (.istore_n 1, 1) := by decide +kernel
theorem dX6_greatestEnd_49 : decode cX6_greatestEnd 49 = .ok (.iinc 2 1, 3) := by decide +kernel
theorem dX6_greatestEnd_52 : decode cX6_greatestEnd 52 = .ok (.goto (-27), 3) := by decide +kernel
theorem dX6_greatestEnd_55 : decode cX6_greatestEnd 55 = .ok (.iload_n 1, 1) := by decide +kernel
theorem dX6_greatestEnd_56 : decode cX6_greatestEnd 56 = .ok (.ireturn, 1) := by decide +kernel
theorem dX6_withItem_0 : decode cX6_withItem 0 = .ok (.iconst 0, 1) := by decide +kernel
theorem dX6_withItem_1 : decode cX6_withItem 1 = .ok (.istore 4, 2) := by decide +kernel
theorem dX6_withItem_3 : decode cX6_withItem 3 = .ok (.iload 4, 2) := by decide +kernel
theorem dX6_withItem_5 : decode cX6_withItem 5 = .ok (.bipush 10, 2) := by decide +kernel
theorem dX6_withItem_7 : decode cX6_withItem 7 = .ok (.if_icmp .gt 27, 3) := by decide +kernel
theorem dX6_withItem_10 : decode cX6_withItem 10 = .ok (.lload_n 1, 1) := by decide +kernel
theorem dX6_withItem_11 : decode cX6_withItem 11 = .ok (.ldc2_w 172, 3) := by decide +kernel
theorem dX6_withItem_14 : decode cX6_withItem 14 = .ok (.lmul, 1) := by decide +kernel
theorem dX6_withItem_15 : decode cX6_withItem 15 = .ok (.aload_n 0, 1) := by decide +kernel
theorem dX6_withItem_16 : decode cX6_withItem 16 = .ok (.getfield 19, 3) := by decide +kernel
theorem dX6_withItem_19 : decode cX6_withItem 19 = .ok (.iload_n 3, 1) := by decide +kernel
theorem dX6_withItem_20 : decode cX6_withItem 20 = .ok (.iload 4, 2) := by decide +kernel
theorem dX6_withItem_22 : decode cX6_withItem 22 = .ok (.invokevirtual 109, 3) := by decide +kernel
theorem dX6_withItem_25 : decode cX6_withItem 25 = .ok (.i2l, 1) := by decide +kernel
theorem dX6_withItem_26 : decode cX6_withItem 26 = .ok (.ladd, 1) := by decide +kernel
theorem dX6_withItem_27 : decode cX6_withItem 27 = .ok (.lstore_n 1, 1) := by decide +kernel
theorem dX6_withItem_28 : decode cX6_withItem 28 = .ok (.iinc 4 1, 3) := by decide +kernel
theorem dX6_withItem_31 : decode cX6_withItem 31 = .ok (.goto (-28), 3) := by decide +kernel
theorem dX6_withItem_34 : decode cX6_withItem 34 = .ok (.lload_n 1, 1) := by decide +kernel
theorem dX6_withItem_35 : decode cX6_withItem 35 = .ok (.ldc2_w 172, 3) := by decide +kernel
theorem dX6_withItem_38 : decode cX6_withItem 38 = .ok (.lmul, 1) := by decide +kernel
theorem dX6_withItem_39 : decode cX6_withItem 39 = .ok (.aload_n 0, 1) := by decide +kernel
theorem dX6_withItem_40 : decode cX6_withItem 40 = .ok (.getfield 19, 3) := by decide +kernel
theorem dX6_withItem_43 : decode cX6_withItem 43 = .ok (.iload_n 3, 1) := by decide +kernel
theorem dX6_withItem_44 : decode cX6_withItem 44 = .ok (.invokevirtual 135, 3) := by decide +kernel
theorem dX6_withItem_47 : decode cX6_withItem 47 = .ok (.i2l, 1) := by decide +kernel
theorem dX6_withItem_48 : decode cX6_withItem 48 = .ok (.ladd, 1) := by decide +kernel
theorem dX6_withItem_49 : decode cX6_withItem 49 = .ok (.lstore_n 1, 1) := by decide +kernel
theorem dX6_withItem_50 : decode cX6_withItem 50 = .ok (.aload_n 0, 1) := by decide +kernel
theorem dX6_withItem_51 : decode cX6_withItem 51 = .ok (.getfield 19, 3) := by decide +kernel
theorem dX6_withItem_54 : decode cX6_withItem 54 = .ok (.iload_n 3, 1) := by decide +kernel
theorem dX6_withItem_55 : decode cX6_withItem 55 = .ok (.bipush 10, 2) := by decide +kernel
theorem dX6_withItem_57 : decode cX6_withItem 57 = .ok (.invokevirtual 109, 3) := by decide +kernel
theorem dX6_withItem_60 : decode cX6_withItem 60 = .ok (.ifCond .ne 45, 3) := by decide +kernel
theorem dX6_withItem_63 : decode cX6_withItem 63 = .ok (.aload_n 0, 1) := by decide +kernel
theorem dX6_withItem_64 : decode cX6_withItem 64 = .ok (.getfield 35, 3) := by decide +kernel
theorem dX6_withItem_67 : decode cX6_withItem 67 = .ok (.iload_n 3, 1) := by decide +kernel
theorem dX6_withItem_68 : decode cX6_withItem 68 = .ok (.invokevirtual 99, 3) := by decide +kernel
theorem dX6_withItem_71 : decode cX6_withItem 71 = .ok (.istore 4, 2) := by decide +kernel
theorem dX6_withItem_73 : decode cX6_withItem 73 = .ok (.iconst 0, 1) := by decide +kernel
theorem dX6_withItem_74 : decode cX6_withItem 74 = .ok (.istore 5, 2) := by decide +kernel
theorem dX6_withItem_76 : decode cX6_withItem 76 = .ok (.iload 5, 2) := by decide +kernel
theorem dX6_withItem_78 : decode cX6_withItem 78 = .ok (.bipush 7, 2) := by decide +kernel
theorem dX6_withItem_80 : decode cX6_withItem 80 = .ok (.if_icmp .gt 25, 3) := by decide +kernel
theorem dX6_withItem_83 : decode cX6_withItem 83 = .ok (.lload_n 1, 1) := by decide +kernel
theorem dX6_withItem_84 : decode cX6_withItem 84 = .ok (.ldc2_w 172, 3) := by decide +kernel
theorem dX6_withItem_87 : decode cX6_withItem 87 = .ok (.lmul, 1) := by decide +kernel
theorem dX6_withItem_88 : decode cX6_withItem 88 = .ok (.aload_n 0, 1) := by decide +kernel
theorem dX6_withItem_89 : decode cX6_withItem 89 = .ok (.iload 4, 2) := by decide +kernel
theorem dX6_withItem_91 : decode cX6_withItem 91 = .ok (.iload 5, 2) := by decide +kernel
theorem dX6_withItem_93 : decode cX6_withItem 93 = .ok (.invokevirtual 138, 3) := by decide +kernel
theorem dX6_withItem_96 : decode cX6_withItem 96 = .ok (.i2l, 1) := by decide +kernel
theorem dX6_withItem_97 : decode cX6_withItem 97 = .ok (.ladd, 1) := by decide +kernel
theorem dX6_withItem_98 : decode cX6_withItem 98 = .ok (.lstore_n 1, 1) := by decide +kernel
theorem dX6_withItem_99 : decode cX6_withItem 99 = .ok (.iinc 5 1, 3) := by decide +kernel
theorem dX6_withItem_102 : decode cX6_withItem 102 = .ok (.goto (-26), 3) := by decide +kernel
theorem dX6_withItem_105 : decode cX6_withItem 105 = .ok (.lload_n 1, 1) := by decide +kernel
theorem dX6_withItem_106 : decode cX6_withItem 106 = .ok (.lreturn, 1) := by decide +kernel
theorem dX7_init_0 : decode cX7_init 0 = .ok (.aload_n 0, 1) := by decide +kernel
theorem dX7_init_1 : decode cX7_init 1 = .ok (.invokespecial 1, 3) := by decide +kernel
theorem dX7_init_4 : decode cX7_init 4 = .ok (.aload_n 0, 1) := by decide +kernel
theorem dX7_init_5 : decode cX7_init 5 = .ok (.sipush 184, 3) := by decide +kernel
theorem dX7_init_8 : decode cX7_init 8 = .ok (.newarray .int, 2) := by decide +kernel
theorem dX7_init_10 : decode cX7_init 10 = .ok (.putfield 7, 3) := by decide +kernel
theorem dX7_init_13 : decode cX7_init 13 = .ok (.aload_n 0, 1) := by decide +kernel
theorem dX7_init_14 : decode cX7_init 14 = .ok (.sipush 1472, 3) := by decide +kernel
theorem dX7_init_17 : decode cX7_init 17 = .ok (.newarray .int, 2) := by decide +kernel
theorem dX7_init_19 : decode cX7_init 19 = .ok (.putfield 13, 3) := by decide +kernel
theorem dX7_init_22 : decode cX7_init 22 = .ok (.aload_n 0, 1) := by decide +kernel
theorem dX7_init_23 : decode cX7_init 23 = .ok (.bipush 80, 2) := by decide +kernel
theorem dX7_init_25 : decode cX7_init 25 = .ok (.newarray .int, 2) := by decide +kernel
theorem dX7_init_27 : decode cX7_init 27 = .ok (.putfield 16, 3) := by decide +kernel
theorem dX7_init_30 : decode cX7_init 30 = .ok (.aload_n 0, 1) := by decide +kernel
theorem dX7_init_31 : decode cX7_init 31 = .ok (.bipush 11, 2) := by decide +kernel
theorem dX7_init_33 : decode cX7_init 33 = .ok (.newarray .int, 2) := by decide +kernel
theorem dX7_init_35 : decode cX7_init 35 = .ok (.putfield 19, 3) := by decide +kernel
theorem dX7_init_38 : decode cX7_init 38 = .ok (.aload_n 0, 1) := by decide +kernel
theorem dX7_init_39 : decode cX7_init 39 = .ok (.bipush 16, 2) := by decide +kernel
theorem dX7_init_41 : decode cX7_init 41 = .ok (.newarray .int, 2) := by decide +kernel
theorem dX7_init_43 : decode cX7_init 43 = .ok (.putfield 22, 3) := by decide +kernel
theorem dX7_init_46 : decode cX7_init 46 = .ok (.aload_n 0, 1) := by decide +kernel
theorem dX7_init_47 : decode cX7_init 47 = .ok (.bipush 16, 2) := by decide +kernel
theorem dX7_init_49 : decode cX7_init 49 = .ok (.newarray .int, 2) := by decide +kernel
theorem dX7_init_51 : decode cX7_init 51 = .ok (.putfield 25, 3) := by decide +kernel
theorem dX7_init_54 : decode cX7_init 54 = .ok (.aload_n 0, 1) := by decide +kernel
theorem dX7_init_55 : decode cX7_init 55 = .ok (.bipush 16, 2) := by decide +kernel
theorem dX7_init_57 : decode cX7_init 57 = .ok (.newarray .int, 2) := by decide +kernel
theorem dX7_init_59 : decode cX7_init 59 = .ok (.putfield 28, 3) := by decide +kernel
theorem dX7_init_62 : decode cX7_init 62 = .ok (.aload_n 0, 1) := by decide +kernel
theorem dX7_init_63 : decode cX7_init 63 = .ok (.bipush 16, 2) := by decide +kernel
theorem dX7_init_65 : decode cX7_init 65 = .ok (.newarray .int, 2) := by decide +kernel
theorem dX7_init_67 : decode cX7_init 67 = .ok (.putfield 31, 3) := by decide +kernel
theorem dX7_init_70 : decode cX7_init 70 = .ok (.aload_n 0, 1) := by decide +kernel
theorem dX7_init_71 : decode cX7_init 71 = .ok (.bipush 16, 2) := by decide +kernel
theorem dX7_init_73 : decode cX7_init 73 = .ok (.newarray .int, 2) := by decide +kernel
theorem dX7_init_75 : decode cX7_init 75 = .ok (.putfield 34, 3) := by decide +kernel
theorem dX7_init_78 : decode cX7_init 78 = .ok (.aload_n 0, 1) := by decide +kernel
theorem dX7_init_79 : decode cX7_init 79 = .ok (.bipush 16, 2) := by decide +kernel
theorem dX7_init_81 : decode cX7_init 81 = .ok (.newarray .int, 2) := by decide +kernel
theorem dX7_init_83 : decode cX7_init 83 = .ok (.putfield 37, 3) := by decide +kernel
theorem dX7_init_86 : decode cX7_init 86 = .ok (.aload_n 0, 1) := by decide +kernel
theorem dX7_init_87 : decode cX7_init 87 = .ok (.bipush 16, 2) := by decide +kernel
theorem dX7_init_89 : decode cX7_init 89 = .ok (.newarray .int, 2) := by decide +kernel
theorem dX7_init_91 : decode cX7_init 91 = .ok (.putfield 40, 3) := by decide +kernel
theorem dX7_init_94 : decode cX7_init 94 = .ok (.aload_n 0, 1) := by decide +kernel
theorem dX7_init_95 : decode cX7_init 95 = .ok (.bipush 16, 2) := by decide +kernel
theorem dX7_init_97 : decode cX7_init 97 = .ok (.newarray .boolean, 2) := by decide +kernel
theorem dX7_init_99 : decode cX7_init 99 = .ok (.putfield 43, 3) := by decide +kernel
theorem dX7_init_102 : decode cX7_init 102 = .ok (.aload_n 0, 1) := by decide +kernel
theorem dX7_init_103 : decode cX7_init 103 = .ok (.bipush 16, 2) := by decide +kernel
theorem dX7_init_105 : decode cX7_init 105 = .ok (.newarray .int, 2) := by decide +kernel
theorem dX7_init_107 : decode cX7_init 107 = .ok (.putfield 47, 3) := by decide +kernel
theorem dX7_init_110 : decode cX7_init 110 = .ok (.aload_n 0, 1) := by decide +kernel
theorem dX7_init_111 : decode cX7_init 111 = .ok (.bipush 16, 2) := by decide +kernel
theorem dX7_init_113 : decode cX7_init 113 = .ok (.newarray .int, 2) := by decide +kernel
theorem dX7_init_115 : decode cX7_init 115 = .ok (.putfield 50, 3) := by decide +kernel
theorem dX7_init_118 : decode cX7_init 118 = .ok (.aload_n 0, 1) := by decide +kernel
theorem dX7_init_119 : decode cX7_init 119 = .ok (.bipush 16, 2) := by decide +kernel
theorem dX7_init_121 : decode cX7_init 121 = .ok (.newarray .int, 2) := by decide +kernel
theorem dX7_init_123 : decode cX7_init 123 = .ok (.putfield 53, 3) := by decide +kernel
theorem dX7_init_126 : decode cX7_init 126 = .ok (.aload_n 0, 1) := by decide +kernel
theorem dX7_init_127 : decode cX7_init 127 = .ok (.bipush 16, 2) := by decide +kernel
theorem dX7_init_129 : decode cX7_init 129 = .ok (.newarray .boolean, 2) := by decide +kernel
theorem dX7_init_131 : decode cX7_init 131 = .ok (.putfield 56, 3) := by decide +kernel
theorem dX7_init_134 : decode cX7_init 134 = .ok (.aload_n 0, 1) := by decide +kernel
theorem dX7_init_135 : decode cX7_init 135 = .ok (.bipush 16, 2) := by decide +kernel
theorem dX7_init_137 : decode cX7_init 137 = .ok (.newarray .int, 2) := by decide +kernel
theorem dX7_init_139 : decode cX7_init 139 = .ok (.putfield 59, 3) := by decide +kernel
theorem dX7_init_142 : decode cX7_init 142 = .ok (.aload_n 0, 1) := by decide +kernel
theorem dX7_init_143 : decode cX7_init 143 = .ok (.bipush 16, 2) := by decide +kernel
theorem dX7_init_145 : decode cX7_init 145 = .ok (.newarray .int, 2) := by decide +kernel
theorem dX7_init_147 : decode cX7_init 147 = .ok (.putfield 62, 3) := by decide +kernel
theorem dX7_init_150 : decode cX7_init 150 = .ok (.aload_n 0, 1) := by decide +kernel
theorem dX7_init_151 : decode cX7_init 151 = .ok (.bipush 16, 2) := by decide +kernel
theorem dX7_init_153 : decode cX7_init 153 = .ok (.newarray .int, 2) := by decide +kernel
theorem dX7_init_155 : decode cX7_init 155 = .ok (.putfield 65, 3) := by decide +kernel
theorem dX7_init_158 : decode cX7_init 158 = .ok (.aload_n 0, 1) := by decide +kernel
theorem dX7_init_159 : decode cX7_init 159 = .ok (.bipush 16, 2) := by decide +kernel
theorem dX7_init_161 : decode cX7_init 161 = .ok (.newarray .int, 2) := by decide +kernel
theorem dX7_init_163 : decode cX7_init 163 = .ok (.putfield 68, 3) := by decide +kernel
theorem dX7_init_166 : decode cX7_init 166 = .ok (.aload_n 0, 1) := by decide +kernel
theorem dX7_init_167 : decode cX7_init 167 = .ok (.getfield 7, 3) := by decide +kernel
theorem dX7_init_170 : decode cX7_init 170 = .ok (.sipush 177, 3) := by decide +kernel
theorem dX7_init_173 : decode cX7_init 173 = .ok (.sipush 300, 3) := by decide +kernel
theorem dX7_init_176 : decode cX7_init 176 = .ok (.iastore, 1) := by decide +kernel
theorem dX7_init_177 : decode cX7_init 177 = .ok (.aload_n 0, 1) := by decide +kernel
theorem dX7_init_178 : decode cX7_init 178 = .ok (.getfield 7, 3) := by decide +kernel
theorem dX7_init_181 : decode cX7_init 181 = .ok (.sipush 180, 3) := by decide +kernel
theorem dX7_init_184 : decode cX7_init 184 = .ok (.iconst 1, 1) := by decide +kernel
theorem dX7_init_185 : decode cX7_init 185 = .ok (.iastore, 1) := by decide +kernel
theorem dX7_init_186 : decode cX7_init 186 = .ok (.return_, 1) := by decide +kernel
theorem dX7_in_0 : decode cX7_in 0 = .ok (.iload_n 0, 1) := by decide +kernel
theorem dX7_in_1 : decode cX7_in 1 = .ok (.iload_n 1, 1) := by decide +kernel
theorem dX7_in_2 : decode cX7_in 2 = .ok (.if_icmp .lt 12, 3) := by decide +kernel
theorem dX7_in_5 : decode cX7_in 5 = .ok (.iload_n 0, 1) := by decide +kernel
theorem dX7_in_6 : decode cX7_in 6 = .ok (.iload_n 2, 1) := by decide +kernel
theorem dX7_in_7 : decode cX7_in 7 = .ok (.if_icmp .gt 7, 3) := by decide +kernel
theorem dX7_in_10 : decode cX7_in 10 = .ok (.iconst 1, 1) := by decide +kernel
theorem dX7_in_11 : decode cX7_in 11 = .ok (.goto 4, 3) := by decide +kernel
theorem dX7_in_14 : decode cX7_in 14 = .ok (.iconst 0, 1) := by decide +kernel
theorem dX7_in_15 : decode cX7_in 15 = .ok (.ireturn, 1) := by decide +kernel
theorem dX7_greater_0 : decode cX7_greater 0 = .ok (.iload_n 0, 1) := by decide +kernel
theorem dX7_greater_1 : decode cX7_greater 1 = .ok (.iload_n 1, 1) := by decide +kernel
theorem dX7_greater_2 : decode cX7_greater 2 = .ok (.if_icmp .le 7, 3) := by decide +kernel
theorem dX7_greater_5 : decode cX7_greater 5 = .ok (.iload_n 0, 1) := by decide +kernel
theorem dX7_greater_6 : decode cX7_greater 6 = .ok (.goto 4, 3) := by decide +kernel
theorem dX7_greater_9 : decode cX7_greater 9 = .ok (.iload_n 1, 1) := by decide +kernel
theorem dX7_greater_10 : decode cX7_greater 10 = .ok (.ireturn, 1) := by decide +kernel
theorem dX7_lesser_0 : decode cX7_lesser 0 = .ok (.iload_n 0, 1) := by decide +kernel
theorem dX7_lesser_1 : decode cX7_lesser 1 = .ok (.iload_n 1, 1) := by decide +kernel
theorem dX7_lesser_2 : decode cX7_lesser 2 = .ok (.if_icmp .ge 7, 3) := by decide +kernel
theorem dX7_lesser_5 : decode cX7_lesser 5 = .ok (.iload_n 0, 1) := by decide +kernel
theorem dX7_lesser_6 : decode cX7_lesser 6 = .ok (.goto 4, 3) := by decide +kernel
theorem dX7_lesser_9 : decode cX7_lesser 9 = .ok (.iload_n 1, 1) := by decide +kernel
theorem dX7_lesser_10 : decode cX7_lesser 10 = .ok (.ireturn, 1) := by decide +kernel
theorem dX7_down_0 : decode cX7_down 0 = .ok (.iload_n 0, 1) := by decide +kernel
theorem dX7_down_1 : decode cX7_down 1 = .ok (.ifCond .lt 9, 3) := by decide +kernel
theorem dX7_down_4 : decode cX7_down 4 = .ok (.iload_n 0, 1) := by decide +kernel
theorem dX7_down_5 : decode cX7_down 5 = .ok (.iload_n 1, 1) := by decide +kernel
theorem dX7_down_6 : decode cX7_down 6 = .ok (.idiv, 1) := by decide +kernel
theorem dX7_down_7 : decode cX7_down 7 = .ok (.goto 11, 3) := by decide +kernel
theorem dX7_down_10 : decode cX7_down 10 = .ok (.iload_n 1, 1) := by decide +kernel
theorem dX7_down_11 : decode cX7_down 11 = .ok (.iconst 1, 1) := by decide +kernel
theorem dX7_down_12 : decode cX7_down 12 = .ok (.isub, 1) := by decide +kernel
theorem dX7_down_13 : decode cX7_down 13 = .ok (.iload_n 0, 1) := by decide +kernel
theorem dX7_down_14 : decode cX7_down 14 = .ok (.isub, 1) := by decide +kernel
theorem dX7_down_15 : decode cX7_down 15 = .ok (.iload_n 1, 1) := by decide +kernel
theorem dX7_down_16 : decode cX7_down 16 = .ok (.idiv, 1) := by decide +kernel
theorem dX7_down_17 : decode cX7_down 17 = .ok (.ineg, 1) := by decide +kernel
theorem dX7_down_18 : decode cX7_down 18 = .ok (.ireturn, 1) := by decide +kernel
theorem dX7_keeps_0 : decode cX7_keeps 0 = .ok (.aload_n 0, 1) := by decide +kernel
theorem dX7_keeps_1 : decode cX7_keeps 1 = .ok (.getfield 71, 3) := by decide +kernel
theorem dX7_keeps_4 : decode cX7_keeps 4 = .ok (.bipush 8, 2) := by decide +kernel
theorem dX7_keeps_6 : decode cX7_keeps 6 = .ok (.if_icmp .ne 44, 3) := by decide +kernel
theorem dX7_keeps_9 : decode cX7_keeps 9 = .ok (.iconst 0, 1) := by decide +kernel
theorem dX7_keeps_10 : decode cX7_keeps 10 = .ok (.istore_n 1, 1) := by decide +kernel
theorem dX7_keeps_11 : decode cX7_keeps 11 = .ok (.iload_n 1, 1) := by decide +kernel
theorem dX7_keeps_12 : decode cX7_keeps 12 = .ok (.sipush 1288, 3) := by decide +kernel
theorem dX7_keeps_15 : decode cX7_keeps 15 = .ok (.if_icmp .ge 25, 3) := by decide +kernel
theorem dX7_keeps_18 : decode cX7_keeps 18 = .ok (.aload_n 0, 1) := by decide +kernel
theorem dX7_keeps_19 : decode cX7_keeps 19 = .ok (.getfield 13, 3) := by decide +kernel
theorem dX7_keeps_22 : decode cX7_keeps 22 = .ok (.iload_n 1, 1) := by decide +kernel
theorem dX7_keeps_23 : decode cX7_keeps 23 = .ok (.aload_n 0, 1) := by decide +kernel
theorem dX7_keeps_24 : decode cX7_keeps 24 = .ok (.getfield 13, 3) := by decide +kernel
theorem dX7_keeps_27 : decode cX7_keeps 27 = .ok (.iload_n 1, 1) := by decide +kernel
theorem dX7_keeps_28 : decode cX7_keeps 28 = .ok (.sipush 184, 3) := by decide +kernel
theorem dX7_keeps_31 : decode cX7_keeps 31 = .ok (.iadd, 1) := by decide +kernel
theorem dX7_keeps_32 : decode cX7_keeps 32 = .ok (.iaload, 1) := by decide +kernel
theorem dX7_keeps_33 : decode cX7_keeps 33 = .ok (.iastore, 1) := by decide +kernel
theorem dX7_keeps_34 : decode cX7_keeps 34 = .ok (.iinc 1 1, 3) := by decide +kernel
theorem dX7_keeps_37 : decode cX7_keeps 37 = .ok (.goto (-26), 3) := by decide +kernel
theorem dX7_keeps_40 : decode cX7_keeps 40 = .ok (.aload_n 0, 1) := by decide +kernel
theorem dX7_keeps_41 : decode cX7_keeps 41 = .ok (.dup, 1) := by decide +kernel
theorem dX7_keeps_42 : decode cX7_keeps 42 = .ok (.getfield 71, 3) := by decide +kernel
theorem dX7_keeps_45 : decode cX7_keeps 45 = .ok (.iconst 1, 1) := by decide +kernel
theorem dX7_keeps_46 : decode cX7_keeps 46 = .ok (.isub, 1) := by decide +kernel
theorem dX7_keeps_47 : decode cX7_keeps 47 = .ok (.putfield 71, 3) := by decide +kernel
theorem dX7_keeps_50 : decode cX7_keeps 50 = .ok (.iconst 0, 1) := by decide +kernel
theorem dX7_keeps_51 : decode cX7_keeps 51 = .ok (.istore_n 1, 1) := by decide +kernel
theorem dX7_keeps_52 : decode cX7_keeps 52 = .ok (.iload_n 1, 1) := by decide +kernel
theorem dX7_keeps_53 : decode cX7_keeps 53 = .ok (.sipush 184, 3) := by decide +kernel
theorem dX7_keeps_56 : decode cX7_keeps 56 = .ok (.if_icmp .ge 30, 3) := by decide +kernel
theorem dX7_keeps_59 : decode cX7_keeps 59 = .ok (.aload_n 0, 1) := by decide +kernel
theorem dX7_keeps_60 : decode cX7_keeps 60 = .ok (.getfield 13, 3) := by decide +kernel
theorem dX7_keeps_63 : decode cX7_keeps 63 = .ok (.sipush 184, 3) := by decide +kernel
theorem dX7_keeps_66 : decode cX7_keeps 66 = .ok (.aload_n 0, 1) := by decide +kernel
theorem dX7_keeps_67 : decode cX7_keeps 67 = .ok (.getfield 71, 3) := by decide +kernel
theorem dX7_keeps_70 : decode cX7_keeps 70 = .ok (.imul, 1) := by decide +kernel
theorem dX7_keeps_71 : decode cX7_keeps 71 = .ok (.iload_n 1, 1) := by decide +kernel
theorem dX7_keeps_72 : decode cX7_keeps 72 = .ok (.iadd, 1) := by decide +kernel
theorem dX7_keeps_73 : decode cX7_keeps 73 = .ok (.aload_n 0, 1) := by decide +kernel
theorem dX7_keeps_74 : decode cX7_keeps 74 = .ok (.getfield 7, 3) := by decide +kernel
theorem dX7_keeps_77 : decode cX7_keeps 77 = .ok (.iload_n 1, 1) := by decide +kernel
theorem dX7_keeps_78 : decode cX7_keeps 78 = .ok (.iaload, 1) := by decide +kernel
theorem dX7_keeps_79 : decode cX7_keeps 79 = .ok (.iastore, 1) := by decide +kernel
theorem dX7_keeps_80 : decode cX7_keeps 80 = .ok (.iinc 1 1, 3) := by decide +kernel
theorem dX7_keeps_83 : decode cX7_keeps 83 = .ok (.goto (-31), 3) := by decide +kernel
theorem dX7_keeps_86 : decode cX7_keeps 86 = .ok (.aload_n 0, 1) := by decide +kernel
theorem dX7_keeps_87 : decode cX7_keeps 87 = .ok (.dup, 1) := by decide +kernel
theorem dX7_keeps_88 : decode cX7_keeps 88 = .ok (.getfield 71, 3) := by decide +kernel
theorem dX7_keeps_91 : decode cX7_keeps 91 = .ok (.iconst 1, 1) := by decide +kernel
theorem dX7_keeps_92 : decode cX7_keeps 92 = .ok (.iadd, 1) := by decide +kernel
theorem dX7_keeps_93 : decode cX7_keeps 93 = .ok (.putfield 71, 3) := by decide +kernel
theorem dX7_keeps_96 : decode cX7_keeps 96 = .ok (.return_, 1) := by decide +kernel
theorem dX7_undo_0 : decode cX7_undo 0 = .ok (.aload_n 0, 1) := by decide +kernel
theorem dX7_undo_1 : decode cX7_undo 1 = .ok (.getfield 71, 3) := by decide +kernel
theorem dX7_undo_4 : decode cX7_undo 4 = .ok (.ifCond .ne 7, 3) := by decide +kernel
theorem dX7_undo_7 : decode cX7_undo 7 = .ok (.sipush (-1003), 3) := by decide +kernel
theorem dX7_undo_10 : decode cX7_undo 10 = .ok (.ireturn, 1) := by decide +kernel
theorem dX7_undo_11 : decode cX7_undo 11 = .ok (.aload_n 0, 1) := by decide +kernel
theorem dX7_undo_12 : decode cX7_undo 12 = .ok (.dup, 1) := by decide +kernel
theorem dX7_undo_13 : decode cX7_undo 13 = .ok (.getfield 71, 3) := by decide +kernel
theorem dX7_undo_16 : decode cX7_undo 16 = .ok (.iconst 1, 1) := by decide +kernel
theorem dX7_undo_17 : decode cX7_undo 17 = .ok (.isub, 1) := by decide +kernel
theorem dX7_undo_18 : decode cX7_undo 18 = .ok (.putfield 71, 3) := by decide +kernel
theorem dX7_undo_21 : decode cX7_undo 21 = .ok (.iconst 0, 1) := by decide +kernel
theorem dX7_undo_22 : decode cX7_undo 22 = .ok (.istore_n 1, 1) := by decide +kernel
theorem dX7_undo_23 : decode cX7_undo 23 = .ok (.iload_n 1, 1) := by decide +kernel
theorem dX7_undo_24 : decode cX7_undo 24 = .ok (.sipush 184, 3) := by decide +kernel
theorem dX7_undo_27 : decode cX7_undo 27 = .ok (.if_icmp .ge 30, 3) := by decide +kernel
theorem dX7_undo_30 : decode cX7_undo 30 = .ok (.aload_n 0, 1) := by decide +kernel
theorem dX7_undo_31 : decode cX7_undo 31 = .ok (.getfield 7, 3) := by decide +kernel
theorem dX7_undo_34 : decode cX7_undo 34 = .ok (.iload_n 1, 1) := by decide +kernel
theorem dX7_undo_35 : decode cX7_undo 35 = .ok (.aload_n 0, 1) := by decide +kernel
theorem dX7_undo_36 : decode cX7_undo 36 = .ok (.getfield 13, 3) := by decide +kernel
theorem dX7_undo_39 : decode cX7_undo 39 = .ok (.sipush 184, 3) := by decide +kernel
theorem dX7_undo_42 : decode cX7_undo 42 = .ok (.aload_n 0, 1) := by decide +kernel
theorem dX7_undo_43 : decode cX7_undo 43 = .ok (.getfield 71, 3) := by decide +kernel
theorem dX7_undo_46 : decode cX7_undo 46 = .ok (.imul, 1) := by decide +kernel
theorem dX7_undo_47 : decode cX7_undo 47 = .ok (.iload_n 1, 1) := by decide +kernel
theorem dX7_undo_48 : decode cX7_undo 48 = .ok (.iadd, 1) := by decide +kernel
theorem dX7_undo_49 : decode cX7_undo 49 = .ok (.iaload, 1) := by decide +kernel
theorem dX7_undo_50 : decode cX7_undo 50 = .ok (.iastore, 1) := by decide +kernel
theorem dX7_undo_51 : decode cX7_undo 51 = .ok (.iinc 1 1, 3) := by decide +kernel
theorem dX7_undo_54 : decode cX7_undo 54 = .ok (.goto (-31), 3) := by decide +kernel
theorem dX7_undo_57 : decode cX7_undo 57 = .ok (.aload_n 0, 1) := by decide +kernel
theorem dX7_undo_58 : decode cX7_undo 58 = .ok (.getfield 71, 3) := by decide +kernel
theorem dX7_undo_61 : decode cX7_undo 61 = .ok (.ireturn, 1) := by decide +kernel
theorem dX7_leastOf_0 : decode cX7_leastOf 0 = .ok (.iload_n 0, 1) := by decide +kernel
theorem dX7_leastOf_1 : decode cX7_leastOf 1 = .ok (.bipush 6, 2) := by decide +kernel
theorem dX7_leastOf_3 : decode cX7_leastOf 3 = .ok (.if_icmp .ne 8, 3) := by decide +kernel
theorem dX7_leastOf_6 : decode cX7_leastOf 6 = .ok (.bipush (-9), 2) := by decide +kernel
theorem dX7_leastOf_8 : decode cX7_leastOf 8 = .ok (.goto 14, 3) := by decide +kernel
theorem dX7_leastOf_11 : decode cX7_leastOf 11 = .ok (.iload_n 0, 1) := by decide +kernel
theorem dX7_leastOf_12 : decode cX7_leastOf 12 = .ok (.bipush 7, 2) := by decide +kernel
theorem dX7_leastOf_14 : decode cX7_leastOf 14 = .ok (.if_icmp .ne 7, 3) := by decide +kernel
theorem dX7_leastOf_17 : decode cX7_leastOf 17 = .ok (.iconst 1, 1) := by decide +kernel
theorem dX7_leastOf_18 : decode cX7_leastOf 18 = .ok (.goto 4, 3) := by decide +kernel
theorem dX7_leastOf_21 : decode cX7_leastOf 21 = .ok (.iconst 0, 1) := by decide +kernel
theorem dX7_leastOf_22 : decode cX7_leastOf 22 = .ok (.ireturn, 1) := by decide +kernel
theorem dX7_mostOf_0 : decode cX7_mostOf 0 = .ok (.iload_n 0, 1) := by decide +kernel
theorem dX7_mostOf_1 : decode cX7_mostOf 1 = .ok (.tableswitch 70 0 9 #[55, 70, 70, 55, 55, 59, 70, 62, 65, 68], 55) := by decide +kernel
theorem dX7_mostOf_56 : decode cX7_mostOf 56 = .ok (.sipush 400, 3) := by decide +kernel
theorem dX7_mostOf_59 : decode cX7_mostOf 59 = .ok (.ireturn, 1) := by decide +kernel
theorem dX7_mostOf_60 : decode cX7_mostOf 60 = .ok (.bipush 20, 2) := by decide +kernel
theorem dX7_mostOf_62 : decode cX7_mostOf 62 = .ok (.ireturn, 1) := by decide +kernel
theorem dX7_mostOf_63 : decode cX7_mostOf 63 = .ok (.bipush 100, 2) := by decide +kernel
theorem dX7_mostOf_65 : decode cX7_mostOf 65 = .ok (.ireturn, 1) := by decide +kernel
theorem dX7_mostOf_66 : decode cX7_mostOf 66 = .ok (.bipush 50, 2) := by decide +kernel
theorem dX7_mostOf_68 : decode cX7_mostOf 68 = .ok (.ireturn, 1) := by decide +kernel
theorem dX7_mostOf_69 : decode cX7_mostOf 69 = .ok (.iconst 4, 1) := by decide +kernel
theorem dX7_mostOf_70 : decode cX7_mostOf 70 = .ok (.ireturn, 1) := by decide +kernel
theorem dX7_mostOf_71 : decode cX7_mostOf 71 = .ok (.bipush 9, 2) := by decide +kernel
theorem dX7_mostOf_73 : decode cX7_mostOf 73 = .ok (.ireturn, 1) := by decide +kernel
theorem dX7_type_0 : decode cX7_type 0 = .ok (.iload_n 1, 1) := by decide +kernel
theorem dX7_type_1 : decode cX7_type 1 = .ok (.iconst 0, 1) := by decide +kernel
theorem dX7_type_2 : decode cX7_type 2 = .ok (.bipush 127, 2) := by decide +kernel
theorem dX7_type_4 : decode cX7_type 4 = .ok (.invokestatic 75, 3) := by decide +kernel
theorem dX7_type_7 : decode cX7_type 7 = .ok (.ifCond .ne 7, 3) := by decide +kernel
theorem dX7_type_10 : decode cX7_type 10 = .ok (.sipush (-1002), 3) := by decide +kernel
theorem dX7_type_13 : decode cX7_type 13 = .ok (.ireturn, 1) := by decide +kernel
theorem dX7_type_14 : decode cX7_type 14 = .ok (.aload_n 0, 1) := by decide +kernel
theorem dX7_type_15 : decode cX7_type 15 = .ok (.getfield 79, 3) := by decide +kernel
theorem dX7_type_18 : decode cX7_type 18 = .ok (.bipush 80, 2) := by decide +kernel
theorem dX7_type_20 : decode cX7_type 20 = .ok (.if_icmp .ne 7, 3) := by decide +kernel
theorem dX7_type_23 : decode cX7_type 23 = .ok (.sipush (-1004), 3) := by decide +kernel
theorem dX7_type_26 : decode cX7_type 26 = .ok (.ireturn, 1) := by decide +kernel
theorem dX7_type_27 : decode cX7_type 27 = .ok (.aload_n 0, 1) := by decide +kernel
theorem dX7_type_28 : decode cX7_type 28 = .ok (.getfield 16, 3) := by decide +kernel
theorem dX7_type_31 : decode cX7_type 31 = .ok (.aload_n 0, 1) := by decide +kernel
theorem dX7_type_32 : decode cX7_type 32 = .ok (.getfield 79, 3) := by decide +kernel
theorem dX7_type_35 : decode cX7_type 35 = .ok (.iload_n 1, 1) := by decide +kernel
theorem dX7_type_36 : decode cX7_type 36 = .ok (.iastore, 1) := by decide +kernel
theorem dX7_type_37 : decode cX7_type 37 = .ok (.aload_n 0, 1) := by decide +kernel
theorem dX7_type_38 : decode cX7_type 38 = .ok (.dup, 1) := by decide +kernel
theorem dX7_type_39 : decode cX7_type 39 = .ok (.getfield 79, 3) := by decide +kernel
theorem dX7_type_42 : decode cX7_type 42 = .ok (.iconst 1, 1) := by decide +kernel
theorem dX7_type_43 : decode cX7_type 43 = .ok (.iadd, 1) := by decide +kernel
theorem dX7_type_44 : decode cX7_type 44 = .ok (.putfield 79, 3) := by decide +kernel
theorem dX7_type_47 : decode cX7_type 47 = .ok (.aload_n 0, 1) := by decide +kernel
theorem dX7_type_48 : decode cX7_type 48 = .ok (.getfield 79, 3) := by decide +kernel
theorem dX7_type_51 : decode cX7_type 51 = .ok (.ireturn, 1) := by decide +kernel
theorem dX7_clear_0 : decode cX7_clear 0 = .ok (.aload_n 0, 1) := by decide +kernel
theorem dX7_clear_1 : decode cX7_clear 1 = .ok (.getfield 79, 3) := by decide +kernel
theorem dX7_clear_4 : decode cX7_clear 4 = .ok (.istore_n 1, 1) := by decide +kernel
theorem dX7_clear_5 : decode cX7_clear 5 = .ok (.aload_n 0, 1) := by decide +kernel
theorem dX7_clear_6 : decode cX7_clear 6 = .ok (.iconst 0, 1) := by decide +kernel
theorem dX7_clear_7 : decode cX7_clear 7 = .ok (.putfield 79, 3) := by decide +kernel
theorem dX7_clear_10 : decode cX7_clear 10 = .ok (.iload_n 1, 1) := by decide +kernel
theorem dX7_clear_11 : decode cX7_clear 11 = .ok (.ireturn, 1) := by decide +kernel
theorem dX7_next_0 : decode cX7_next 0 = .ok (.aload_n 0, 1) := by decide +kernel
theorem dX7_next_1 : decode cX7_next 1 = .ok (.getfield 82, 3) := by decide +kernel
theorem dX7_next_4 : decode cX7_next 4 = .ok (.aload_n 0, 1) := by decide +kernel
theorem dX7_next_5 : decode cX7_next 5 = .ok (.getfield 79, 3) := by decide +kernel
theorem dX7_next_8 : decode cX7_next 8 = .ok (.if_icmp .ge 15, 3) := by decide +kernel
theorem dX7_next_11 : decode cX7_next 11 = .ok (.aload_n 0, 1) := by decide +kernel
theorem dX7_next_12 : decode cX7_next 12 = .ok (.getfield 16, 3) := by decide +kernel
theorem dX7_next_15 : decode cX7_next 15 = .ok (.aload_n 0, 1) := by decide +kernel
theorem dX7_next_16 : decode cX7_next 16 = .ok (.getfield 82, 3) := by decide +kernel
theorem dX7_next_19 : decode cX7_next 19 = .ok (.iaload, 1) := by decide +kernel
theorem dX7_next_20 : decode cX7_next 20 = .ok (.goto 4, 3) := by decide +kernel
theorem dX7_next_23 : decode cX7_next 23 = .ok (.iconst (-1), 1) := by decide +kernel
theorem dX7_next_24 : decode cX7_next 24 = .ok (.ireturn, 1) := by decide +kernel
theorem dX7_isDigit_0 : decode cX7_isDigit 0 = .ok (.aload_n 0, 1) := by decide +kernel
theorem dX7_isDigit_1 : decode cX7_isDigit 1 = .ok (.invokevirtual 85, 3) := by decide +kernel
theorem dX7_isDigit_4 : decode cX7_isDigit 4 = .ok (.bipush 48, 2) := by decide +kernel
theorem dX7_isDigit_6 : decode cX7_isDigit 6 = .ok (.bipush 57, 2) := by decide +kernel
theorem dX7_isDigit_8 : decode cX7_isDigit 8 = .ok (.invokestatic 75, 3) := by decide +kernel
theorem dX7_isDigit_11 : decode cX7_isDigit 11 = .ok (.ireturn, 1) := by decide +kernel
theorem dX7_skips_0 : decode cX7_skips 0 = .ok (.aload_n 0, 1) := by decide +kernel
theorem dX7_skips_1 : decode cX7_skips 1 = .ok (.invokevirtual 85, 3) := by decide +kernel
theorem dX7_skips_4 : decode cX7_skips 4 = .ok (.bipush 32, 2) := by decide +kernel
theorem dX7_skips_6 : decode cX7_skips 6 = .ok (.if_icmp .ne 16, 3) := by decide +kernel
theorem dX7_skips_9 : decode cX7_skips 9 = .ok (.aload_n 0, 1) := by decide +kernel
theorem dX7_skips_10 : decode cX7_skips 10 = .ok (.dup, 1) := by decide +kernel
theorem dX7_skips_11 : decode cX7_skips 11 = .ok (.getfield 82, 3) := by decide +kernel
theorem dX7_skips_14 : decode cX7_skips 14 = .ok (.iconst 1, 1) := by decide +kernel
theorem dX7_skips_15 : decode cX7_skips 15 = .ok (.iadd, 1) := by decide +kernel
theorem dX7_skips_16 : decode cX7_skips 16 = .ok (.putfield 82, 3) := by decide +kernel
theorem dX7_skips_19 : decode cX7_skips 19 = .ok (.goto (-19), 3) := by decide +kernel
theorem dX7_skips_22 : decode cX7_skips 22 = .ok (.return_, 1) := by decide +kernel
theorem dX7_fails_0 : decode cX7_fails 0 = .ok (.aload_n 0, 1) := by decide +kernel
theorem dX7_fails_1 : decode cX7_fails 1 = .ok (.aload_n 0, 1) := by decide +kernel
theorem dX7_fails_2 : decode cX7_fails 2 = .ok (.getfield 89, 3) := by decide +kernel
theorem dX7_fails_5 : decode cX7_fails 5 = .ok (.sipush (-1001), 3) := by decide +kernel
theorem dX7_fails_8 : decode cX7_fails 8 = .ok (.if_icmp .ne 7, 3) := by decide +kernel
theorem dX7_fails_11 : decode cX7_fails 11 = .ok (.iload_n 1, 1) := by decide +kernel
theorem dX7_fails_12 : decode cX7_fails 12 = .ok (.goto 7, 3) := by decide +kernel
end
section
theorem dX7_fails_15 : decode cX7_fails 15 = .ok (.aload_n 0, 1) := by decide +kernel
theorem dX7_fails_16 : decode cX7_fails 16 = .ok (.getfield 89, 3) := by decide +kernel
theorem dX7_fails_19 : decode cX7_fails 19 = .ok (.putfield 89, 3) := by decide +kernel
theorem dX7_fails_22 : decode cX7_fails 22 = .ok (.return_, 1) := by decide +kernel
theorem dX7_readsNumber_0 : decode cX7_readsNumber 0 = .ok (.aload_n 0, 1) := by decide +kernel
theorem dX7_readsNumber_1 : decode cX7_readsNumber 1 = .ok (.getfield 82, 3) := by decide +kernel
theorem dX7_readsNumber_4 : decode cX7_readsNumber 4 = .ok (.istore_n 2, 1) := by decide +kernel
theorem dX7_readsNumber_5 : decode cX7_readsNumber 5 = .ok (.iload_n 1, 1) := by decide +kernel
theorem dX7_readsNumber_6 : decode cX7_readsNumber 6 = .ok (.bipush 6, 2) := by decide +kernel
theorem dX7_readsNumber_8 : decode cX7_readsNumber 8 = .ok (.if_icmp .ne 16, 3) := by decide +kernel
theorem dX7_readsNumber_11 : decode cX7_readsNumber 11 = .ok (.aload_n 0, 1) := by decide +kernel
theorem dX7_readsNumber_12 : decode cX7_readsNumber 12 = .ok (.invokevirtual 85, 3) := by decide +kernel
theorem dX7_readsNumber_15 : decode cX7_readsNumber 15 = .ok (.bipush 45, 2) := by decide +kernel
theorem dX7_readsNumber_17 : decode cX7_readsNumber 17 = .ok (.if_icmp .ne 7, 3) := by decide +kernel
theorem dX7_readsNumber_20 : decode cX7_readsNumber 20 = .ok (.iconst 1, 1) := by decide +kernel
theorem dX7_readsNumber_21 : decode cX7_readsNumber 21 = .ok (.goto 4, 3) := by decide +kernel
theorem dX7_readsNumber_24 : decode cX7_readsNumber 24 = .ok (.iconst 0, 1) := by decide +kernel
theorem dX7_readsNumber_25 : decode cX7_readsNumber 25 = .ok (.istore_n 3, 1) := by decide +kernel
theorem dX7_readsNumber_26 : decode cX7_readsNumber 26 = .ok (.aload_n 0, 1) := by decide +kernel
theorem dX7_readsNumber_27 : decode cX7_readsNumber 27 = .ok (.dup, 1) := by decide +kernel
theorem dX7_readsNumber_28 : decode cX7_readsNumber 28 = .ok (.getfield 82, 3) := by decide +kernel
theorem dX7_readsNumber_31 : decode cX7_readsNumber 31 = .ok (.iload_n 3, 1) := by decide +kernel
theorem dX7_readsNumber_32 : decode cX7_readsNumber 32 = .ok (.ifCond .eq 7, 3) := by decide +kernel
theorem dX7_readsNumber_35 : decode cX7_readsNumber 35 = .ok (.iconst 1, 1) := by decide +kernel
theorem dX7_readsNumber_36 : decode cX7_readsNumber 36 = .ok (.goto 4, 3) := by decide +kernel
theorem dX7_readsNumber_39 : decode cX7_readsNumber 39 = .ok (.iconst 0, 1) := by decide +kernel
theorem dX7_readsNumber_40 : decode cX7_readsNumber 40 = .ok (.iadd, 1) := by decide +kernel
theorem dX7_readsNumber_41 : decode cX7_readsNumber 41 = .ok (.putfield 82, 3) := by decide +kernel
theorem dX7_readsNumber_44 : decode cX7_readsNumber 44 = .ok (.aload_n 0, 1) := by decide +kernel
theorem dX7_readsNumber_45 : decode cX7_readsNumber 45 = .ok (.getfield 82, 3) := by decide +kernel
theorem dX7_readsNumber_48 : decode cX7_readsNumber 48 = .ok (.istore 4, 2) := by decide +kernel
theorem dX7_readsNumber_50 : decode cX7_readsNumber 50 = .ok (.iconst 0, 1) := by decide +kernel
theorem dX7_readsNumber_51 : decode cX7_readsNumber 51 = .ok (.istore 5, 2) := by decide +kernel
theorem dX7_readsNumber_53 : decode cX7_readsNumber 53 = .ok (.aload_n 0, 1) := by decide +kernel
theorem dX7_readsNumber_54 : decode cX7_readsNumber 54 = .ok (.getfield 82, 3) := by decide +kernel
theorem dX7_readsNumber_57 : decode cX7_readsNumber 57 = .ok (.iload 4, 2) := by decide +kernel
theorem dX7_readsNumber_59 : decode cX7_readsNumber 59 = .ok (.iconst 3, 1) := by decide +kernel
theorem dX7_readsNumber_60 : decode cX7_readsNumber 60 = .ok (.iadd, 1) := by decide +kernel
theorem dX7_readsNumber_61 : decode cX7_readsNumber 61 = .ok (.if_icmp .ge 38, 3) := by decide +kernel
theorem dX7_readsNumber_64 : decode cX7_readsNumber 64 = .ok (.aload_n 0, 1) := by decide +kernel
theorem dX7_readsNumber_65 : decode cX7_readsNumber 65 = .ok (.invokevirtual 92, 3) := by decide +kernel
theorem dX7_readsNumber_68 : decode cX7_readsNumber 68 = .ok (.ifCond .eq 31, 3) := by decide +kernel
theorem dX7_readsNumber_71 : decode cX7_readsNumber 71 = .ok (.bipush 10, 2) := by decide +kernel
theorem dX7_readsNumber_73 : decode cX7_readsNumber 73 = .ok (.iload 5, 2) := by decide +kernel
theorem dX7_readsNumber_75 : decode cX7_readsNumber 75 = .ok (.imul, 1) := by decide +kernel
theorem dX7_readsNumber_76 : decode cX7_readsNumber 76 = .ok (.aload_n 0, 1) := by decide +kernel
theorem dX7_readsNumber_77 : decode cX7_readsNumber 77 = .ok (.invokevirtual 85, 3) := by decide +kernel
theorem dX7_readsNumber_80 : decode cX7_readsNumber 80 = .ok (.iadd, 1) := by decide +kernel
theorem dX7_readsNumber_81 : decode cX7_readsNumber 81 = .ok (.bipush 48, 2) := by decide +kernel
theorem dX7_readsNumber_83 : decode cX7_readsNumber 83 = .ok (.isub, 1) := by decide +kernel
theorem dX7_readsNumber_84 : decode cX7_readsNumber 84 = .ok (.istore 5, 2) := by decide +kernel
theorem dX7_readsNumber_86 : decode cX7_readsNumber 86 = .ok (.aload_n 0, 1) := by decide +kernel
theorem dX7_readsNumber_87 : decode cX7_readsNumber 87 = .ok (.dup, 1) := by decide +kernel
theorem dX7_readsNumber_88 : decode cX7_readsNumber 88 = .ok (.getfield 82, 3) := by decide +kernel
theorem dX7_readsNumber_91 : decode cX7_readsNumber 91 = .ok (.iconst 1, 1) := by decide +kernel
theorem dX7_readsNumber_92 : decode cX7_readsNumber 92 = .ok (.iadd, 1) := by decide +kernel
theorem dX7_readsNumber_93 : decode cX7_readsNumber 93 = .ok (.putfield 82, 3) := by decide +kernel
theorem dX7_readsNumber_96 : decode cX7_readsNumber 96 = .ok (.goto (-43), 3) := by decide +kernel
theorem dX7_readsNumber_99 : decode cX7_readsNumber 99 = .ok (.iload_n 3, 1) := by decide +kernel
theorem dX7_readsNumber_100 : decode cX7_readsNumber 100 = .ok (.ifCond .eq 9, 3) := by decide +kernel
theorem dX7_readsNumber_103 : decode cX7_readsNumber 103 = .ok (.iload 5, 2) := by decide +kernel
theorem dX7_readsNumber_105 : decode cX7_readsNumber 105 = .ok (.ineg, 1) := by decide +kernel
theorem dX7_readsNumber_106 : decode cX7_readsNumber 106 = .ok (.goto 5, 3) := by decide +kernel
theorem dX7_readsNumber_109 : decode cX7_readsNumber 109 = .ok (.iload 5, 2) := by decide +kernel
theorem dX7_readsNumber_111 : decode cX7_readsNumber 111 = .ok (.istore 5, 2) := by decide +kernel
theorem dX7_readsNumber_113 : decode cX7_readsNumber 113 = .ok (.aload_n 0, 1) := by decide +kernel
theorem dX7_readsNumber_114 : decode cX7_readsNumber 114 = .ok (.getfield 82, 3) := by decide +kernel
theorem dX7_readsNumber_117 : decode cX7_readsNumber 117 = .ok (.iload 4, 2) := by decide +kernel
theorem dX7_readsNumber_119 : decode cX7_readsNumber 119 = .ok (.if_icmp .ne 11, 3) := by decide +kernel
theorem dX7_readsNumber_122 : decode cX7_readsNumber 122 = .ok (.aload_n 0, 1) := by decide +kernel
theorem dX7_readsNumber_123 : decode cX7_readsNumber 123 = .ok (.aload_n 0, 1) := by decide +kernel
theorem dX7_readsNumber_124 : decode cX7_readsNumber 124 = .ok (.getfield 82, 3) := by decide +kernel
theorem dX7_readsNumber_127 : decode cX7_readsNumber 127 = .ok (.invokevirtual 96, 3) := by decide +kernel
theorem dX7_readsNumber_130 : decode cX7_readsNumber 130 = .ok (.iload 5, 2) := by decide +kernel
theorem dX7_readsNumber_132 : decode cX7_readsNumber 132 = .ok (.iload_n 1, 1) := by decide +kernel
theorem dX7_readsNumber_133 : decode cX7_readsNumber 133 = .ok (.invokestatic 100, 3) := by decide +kernel
theorem dX7_readsNumber_136 : decode cX7_readsNumber 136 = .ok (.iload_n 1, 1) := by decide +kernel
theorem dX7_readsNumber_137 : decode cX7_readsNumber 137 = .ok (.invokestatic 104, 3) := by decide +kernel
theorem dX7_readsNumber_140 : decode cX7_readsNumber 140 = .ok (.invokestatic 75, 3) := by decide +kernel
theorem dX7_readsNumber_143 : decode cX7_readsNumber 143 = .ok (.ifCond .ne 8, 3) := by decide +kernel
theorem dX7_readsNumber_146 : decode cX7_readsNumber 146 = .ok (.aload_n 0, 1) := by decide +kernel
theorem dX7_readsNumber_147 : decode cX7_readsNumber 147 = .ok (.iload_n 2, 1) := by decide +kernel
theorem dX7_readsNumber_148 : decode cX7_readsNumber 148 = .ok (.invokevirtual 96, 3) := by decide +kernel
theorem dX7_readsNumber_151 : decode cX7_readsNumber 151 = .ok (.aload_n 0, 1) := by decide +kernel
theorem dX7_readsNumber_152 : decode cX7_readsNumber 152 = .ok (.invokevirtual 92, 3) := by decide +kernel
theorem dX7_readsNumber_155 : decode cX7_readsNumber 155 = .ok (.ifCond .eq 11, 3) := by decide +kernel
theorem dX7_readsNumber_158 : decode cX7_readsNumber 158 = .ok (.aload_n 0, 1) := by decide +kernel
theorem dX7_readsNumber_159 : decode cX7_readsNumber 159 = .ok (.aload_n 0, 1) := by decide +kernel
theorem dX7_readsNumber_160 : decode cX7_readsNumber 160 = .ok (.getfield 82, 3) := by decide +kernel
theorem dX7_readsNumber_163 : decode cX7_readsNumber 163 = .ok (.invokevirtual 96, 3) := by decide +kernel
theorem dX7_readsNumber_166 : decode cX7_readsNumber 166 = .ok (.aload_n 0, 1) := by decide +kernel
theorem dX7_readsNumber_167 : decode cX7_readsNumber 167 = .ok (.getfield 19, 3) := by decide +kernel
theorem dX7_readsNumber_170 : decode cX7_readsNumber 170 = .ok (.iload_n 1, 1) := by decide +kernel
theorem dX7_readsNumber_171 : decode cX7_readsNumber 171 = .ok (.iload 5, 2) := by decide +kernel
theorem dX7_readsNumber_173 : decode cX7_readsNumber 173 = .ok (.iastore, 1) := by decide +kernel
theorem dX7_readsNumber_174 : decode cX7_readsNumber 174 = .ok (.aload_n 0, 1) := by decide +kernel
theorem dX7_readsNumber_175 : decode cX7_readsNumber 175 = .ok (.invokevirtual 107, 3) := by decide +kernel
theorem dX7_readsNumber_178 : decode cX7_readsNumber 178 = .ok (.return_, 1) := by decide +kernel
theorem dX7_isWord_0 : decode cX7_isWord 0 = .ok (.aload_n 0, 1) := by decide +kernel
theorem dX7_isWord_1 : decode cX7_isWord 1 = .ok (.getfield 82, 3) := by decide +kernel
theorem dX7_isWord_4 : decode cX7_isWord 4 = .ok (.iload_n 1, 1) := by decide +kernel
theorem dX7_isWord_5 : decode cX7_isWord 5 = .ok (.isub, 1) := by decide +kernel
theorem dX7_isWord_6 : decode cX7_isWord 6 = .ok (.iload 4, 2) := by decide +kernel
theorem dX7_isWord_8 : decode cX7_isWord 8 = .ok (.if_icmp .ne 7, 3) := by decide +kernel
theorem dX7_isWord_11 : decode cX7_isWord 11 = .ok (.iconst 1, 1) := by decide +kernel
theorem dX7_isWord_12 : decode cX7_isWord 12 = .ok (.goto 4, 3) := by decide +kernel
theorem dX7_isWord_15 : decode cX7_isWord 15 = .ok (.iconst 0, 1) := by decide +kernel
theorem dX7_isWord_16 : decode cX7_isWord 16 = .ok (.istore 5, 2) := by decide +kernel
theorem dX7_isWord_18 : decode cX7_isWord 18 = .ok (.iconst 0, 1) := by decide +kernel
theorem dX7_isWord_19 : decode cX7_isWord 19 = .ok (.istore 6, 2) := by decide +kernel
theorem dX7_isWord_21 : decode cX7_isWord 21 = .ok (.iload 6, 2) := by decide +kernel
theorem dX7_isWord_23 : decode cX7_isWord 23 = .ok (.iload 4, 2) := by decide +kernel
theorem dX7_isWord_25 : decode cX7_isWord 25 = .ok (.if_icmp .ge 50, 3) := by decide +kernel
theorem dX7_isWord_28 : decode cX7_isWord 28 = .ok (.iload 5, 2) := by decide +kernel
theorem dX7_isWord_30 : decode cX7_isWord 30 = .ok (.ifCond .eq 45, 3) := by decide +kernel
theorem dX7_isWord_33 : decode cX7_isWord 33 = .ok (.aload_n 0, 1) := by decide +kernel
theorem dX7_isWord_34 : decode cX7_isWord 34 = .ok (.getfield 16, 3) := by decide +kernel
theorem dX7_isWord_37 : decode cX7_isWord 37 = .ok (.iload_n 1, 1) := by decide +kernel
theorem dX7_isWord_38 : decode cX7_isWord 38 = .ok (.iload 6, 2) := by decide +kernel
theorem dX7_isWord_40 : decode cX7_isWord 40 = .ok (.iadd, 1) := by decide +kernel
theorem dX7_isWord_41 : decode cX7_isWord 41 = .ok (.iaload, 1) := by decide +kernel
theorem dX7_isWord_42 : decode cX7_isWord 42 = .ok (.lload_n 2, 1) := by decide +kernel
theorem dX7_isWord_43 : decode cX7_isWord 43 = .ok (.bipush 8, 2) := by decide +kernel
theorem dX7_isWord_45 : decode cX7_isWord 45 = .ok (.iload 4, 2) := by decide +kernel
theorem dX7_isWord_47 : decode cX7_isWord 47 = .ok (.iconst 1, 1) := by decide +kernel
theorem dX7_isWord_48 : decode cX7_isWord 48 = .ok (.isub, 1) := by decide +kernel
theorem dX7_isWord_49 : decode cX7_isWord 49 = .ok (.iload 6, 2) := by decide +kernel
theorem dX7_isWord_51 : decode cX7_isWord 51 = .ok (.isub, 1) := by decide +kernel
theorem dX7_isWord_52 : decode cX7_isWord 52 = .ok (.imul, 1) := by decide +kernel
theorem dX7_isWord_53 : decode cX7_isWord 53 = .ok (.lshr, 1) := by decide +kernel
theorem dX7_isWord_54 : decode cX7_isWord 54 = .ok (.ldc2_w 110, 3) := by decide +kernel
theorem dX7_isWord_57 : decode cX7_isWord 57 = .ok (.land, 1) := by decide +kernel
theorem dX7_isWord_58 : decode cX7_isWord 58 = .ok (.l2i, 1) := by decide +kernel
theorem dX7_isWord_59 : decode cX7_isWord 59 = .ok (.if_icmp .ne 7, 3) := by decide +kernel
theorem dX7_isWord_62 : decode cX7_isWord 62 = .ok (.iconst 1, 1) := by decide +kernel
theorem dX7_isWord_63 : decode cX7_isWord 63 = .ok (.goto 4, 3) := by decide +kernel
theorem dX7_isWord_66 : decode cX7_isWord 66 = .ok (.iconst 0, 1) := by decide +kernel
theorem dX7_isWord_67 : decode cX7_isWord 67 = .ok (.istore 5, 2) := by decide +kernel
theorem dX7_isWord_69 : decode cX7_isWord 69 = .ok (.iinc 6 1, 3) := by decide +kernel
theorem dX7_isWord_72 : decode cX7_isWord 72 = .ok (.goto (-51), 3) := by decide +kernel
theorem dX7_isWord_75 : decode cX7_isWord 75 = .ok (.iload 5, 2) := by decide +kernel
theorem dX7_isWord_77 : decode cX7_isWord 77 = .ok (.ireturn, 1) := by decide +kernel
theorem dX7_wordOf_0 : decode cX7_wordOf 0 = .ok (.aload_n 0, 1) := by decide +kernel
theorem dX7_wordOf_1 : decode cX7_wordOf 1 = .ok (.iload_n 1, 1) := by decide +kernel
theorem dX7_wordOf_2 : decode cX7_wordOf 2 = .ok (.ldc2_w 112, 3) := by decide +kernel
theorem dX7_wordOf_5 : decode cX7_wordOf 5 = .ok (.iconst 4, 1) := by decide +kernel
theorem dX7_wordOf_6 : decode cX7_wordOf 6 = .ok (.invokevirtual 114, 3) := by decide +kernel
theorem dX7_wordOf_9 : decode cX7_wordOf 9 = .ok (.ifCond .eq 5, 3) := by decide +kernel
theorem dX7_wordOf_12 : decode cX7_wordOf 12 = .ok (.iconst 1, 1) := by decide +kernel
theorem dX7_wordOf_13 : decode cX7_wordOf 13 = .ok (.ireturn, 1) := by decide +kernel
theorem dX7_wordOf_14 : decode cX7_wordOf 14 = .ok (.aload_n 0, 1) := by decide +kernel
theorem dX7_wordOf_15 : decode cX7_wordOf 15 = .ok (.iload_n 1, 1) := by decide +kernel
theorem dX7_wordOf_16 : decode cX7_wordOf 16 = .ok (.ldc2_w 118, 3) := by decide +kernel
theorem dX7_wordOf_19 : decode cX7_wordOf 19 = .ok (.bipush 6, 2) := by decide +kernel
theorem dX7_wordOf_21 : decode cX7_wordOf 21 = .ok (.invokevirtual 114, 3) := by decide +kernel
theorem dX7_wordOf_24 : decode cX7_wordOf 24 = .ok (.ifCond .eq 5, 3) := by decide +kernel
theorem dX7_wordOf_27 : decode cX7_wordOf 27 = .ok (.iconst 2, 1) := by decide +kernel
theorem dX7_wordOf_28 : decode cX7_wordOf 28 = .ok (.ireturn, 1) := by decide +kernel
theorem dX7_wordOf_29 : decode cX7_wordOf 29 = .ok (.aload_n 0, 1) := by decide +kernel
theorem dX7_wordOf_30 : decode cX7_wordOf 30 = .ok (.iload_n 1, 1) := by decide +kernel
theorem dX7_wordOf_31 : decode cX7_wordOf 31 = .ok (.ldc2_w 120, 3) := by decide +kernel
theorem dX7_wordOf_34 : decode cX7_wordOf 34 = .ok (.iconst 3, 1) := by decide +kernel
theorem dX7_wordOf_35 : decode cX7_wordOf 35 = .ok (.invokevirtual 114, 3) := by decide +kernel
theorem dX7_wordOf_38 : decode cX7_wordOf 38 = .ok (.ifCond .eq 5, 3) := by decide +kernel
theorem dX7_wordOf_41 : decode cX7_wordOf 41 = .ok (.iconst 3, 1) := by decide +kernel
theorem dX7_wordOf_42 : decode cX7_wordOf 42 = .ok (.ireturn, 1) := by decide +kernel
theorem dX7_wordOf_43 : decode cX7_wordOf 43 = .ok (.aload_n 0, 1) := by decide +kernel
theorem dX7_wordOf_44 : decode cX7_wordOf 44 = .ok (.iload_n 1, 1) := by decide +kernel
theorem dX7_wordOf_45 : decode cX7_wordOf 45 = .ok (.ldc2_w 122, 3) := by decide +kernel
theorem dX7_wordOf_48 : decode cX7_wordOf 48 = .ok (.iconst 3, 1) := by decide +kernel
theorem dX7_wordOf_49 : decode cX7_wordOf 49 = .ok (.invokevirtual 114, 3) := by decide +kernel
theorem dX7_wordOf_52 : decode cX7_wordOf 52 = .ok (.ifCond .eq 5, 3) := by decide +kernel
theorem dX7_wordOf_55 : decode cX7_wordOf 55 = .ok (.iconst 4, 1) := by decide +kernel
theorem dX7_wordOf_56 : decode cX7_wordOf 56 = .ok (.ireturn, 1) := by decide +kernel
theorem dX7_wordOf_57 : decode cX7_wordOf 57 = .ok (.aload_n 0, 1) := by decide +kernel
theorem dX7_wordOf_58 : decode cX7_wordOf 58 = .ok (.iload_n 1, 1) := by decide +kernel
theorem dX7_wordOf_59 : decode cX7_wordOf 59 = .ok (.ldc2_w 124, 3) := by decide +kernel
theorem dX7_wordOf_62 : decode cX7_wordOf 62 = .ok (.bipush 6, 2) := by decide +kernel
theorem dX7_wordOf_64 : decode cX7_wordOf 64 = .ok (.invokevirtual 114, 3) := by decide +kernel
theorem dX7_wordOf_67 : decode cX7_wordOf 67 = .ok (.ifCond .eq 5, 3) := by decide +kernel
theorem dX7_wordOf_70 : decode cX7_wordOf 70 = .ok (.iconst 5, 1) := by decide +kernel
theorem dX7_wordOf_71 : decode cX7_wordOf 71 = .ok (.ireturn, 1) := by decide +kernel
theorem dX7_wordOf_72 : decode cX7_wordOf 72 = .ok (.aload_n 0, 1) := by decide +kernel
theorem dX7_wordOf_73 : decode cX7_wordOf 73 = .ok (.iload_n 1, 1) := by decide +kernel
theorem dX7_wordOf_74 : decode cX7_wordOf 74 = .ok (.ldc2_w 126, 3) := by decide +kernel
theorem dX7_wordOf_77 : decode cX7_wordOf 77 = .ok (.iconst 4, 1) := by decide +kernel
theorem dX7_wordOf_78 : decode cX7_wordOf 78 = .ok (.invokevirtual 114, 3) := by decide +kernel
theorem dX7_wordOf_81 : decode cX7_wordOf 81 = .ok (.ifCond .eq 6, 3) := by decide +kernel
theorem dX7_wordOf_84 : decode cX7_wordOf 84 = .ok (.bipush 6, 2) := by decide +kernel
theorem dX7_wordOf_86 : decode cX7_wordOf 86 = .ok (.ireturn, 1) := by decide +kernel
theorem dX7_wordOf_87 : decode cX7_wordOf 87 = .ok (.aload_n 0, 1) := by decide +kernel
theorem dX7_wordOf_88 : decode cX7_wordOf 88 = .ok (.iload_n 1, 1) := by decide +kernel
theorem dX7_wordOf_89 : decode cX7_wordOf 89 = .ok (.ldc2_w 128, 3) := by decide +kernel
theorem dX7_wordOf_92 : decode cX7_wordOf 92 = .ok (.bipush 6, 2) := by decide +kernel
theorem dX7_wordOf_94 : decode cX7_wordOf 94 = .ok (.invokevirtual 114, 3) := by decide +kernel
theorem dX7_wordOf_97 : decode cX7_wordOf 97 = .ok (.ifCond .eq 6, 3) := by decide +kernel
theorem dX7_wordOf_100 : decode cX7_wordOf 100 = .ok (.bipush 7, 2) := by decide +kernel
theorem dX7_wordOf_102 : decode cX7_wordOf 102 = .ok (.ireturn, 1) := by decide +kernel
theorem dX7_wordOf_103 : decode cX7_wordOf 103 = .ok (.aload_n 0, 1) := by decide +kernel
theorem dX7_wordOf_104 : decode cX7_wordOf 104 = .ok (.iload_n 1, 1) := by decide +kernel
theorem dX7_wordOf_105 : decode cX7_wordOf 105 = .ok (.ldc2_w 130, 3) := by decide +kernel
theorem dX7_wordOf_108 : decode cX7_wordOf 108 = .ok (.iconst 5, 1) := by decide +kernel
theorem dX7_wordOf_109 : decode cX7_wordOf 109 = .ok (.invokevirtual 114, 3) := by decide +kernel
theorem dX7_wordOf_112 : decode cX7_wordOf 112 = .ok (.ifCond .eq 6, 3) := by decide +kernel
theorem dX7_wordOf_115 : decode cX7_wordOf 115 = .ok (.bipush 8, 2) := by decide +kernel
theorem dX7_wordOf_117 : decode cX7_wordOf 117 = .ok (.ireturn, 1) := by decide +kernel
theorem dX7_wordOf_118 : decode cX7_wordOf 118 = .ok (.aload_n 0, 1) := by decide +kernel
theorem dX7_wordOf_119 : decode cX7_wordOf 119 = .ok (.iload_n 1, 1) := by decide +kernel
theorem dX7_wordOf_120 : decode cX7_wordOf 120 = .ok (.ldc2_w 132, 3) := by decide +kernel
theorem dX7_wordOf_123 : decode cX7_wordOf 123 = .ok (.bipush 6, 2) := by decide +kernel
theorem dX7_wordOf_125 : decode cX7_wordOf 125 = .ok (.invokevirtual 114, 3) := by decide +kernel
theorem dX7_wordOf_128 : decode cX7_wordOf 128 = .ok (.ifCond .eq 8, 3) := by decide +kernel
theorem dX7_wordOf_131 : decode cX7_wordOf 131 = .ok (.bipush 9, 2) := by decide +kernel
theorem dX7_wordOf_133 : decode cX7_wordOf 133 = .ok (.goto 4, 3) := by decide +kernel
theorem dX7_wordOf_136 : decode cX7_wordOf 136 = .ok (.iconst 0, 1) := by decide +kernel
theorem dX7_wordOf_137 : decode cX7_wordOf 137 = .ok (.ireturn, 1) := by decide +kernel
theorem dX7_readsItem_0 : decode cX7_readsItem 0 = .ok (.aload_n 0, 1) := by decide +kernel
theorem dX7_readsItem_1 : decode cX7_readsItem 1 = .ok (.iconst 0, 1) := by decide +kernel
theorem dX7_readsItem_2 : decode cX7_readsItem 2 = .ok (.putfield 82, 3) := by decide +kernel
theorem dX7_readsItem_5 : decode cX7_readsItem 5 = .ok (.aload_n 0, 1) := by decide +kernel
theorem dX7_readsItem_6 : decode cX7_readsItem 6 = .ok (.sipush (-1001), 3) := by decide +kernel
theorem dX7_readsItem_9 : decode cX7_readsItem 9 = .ok (.putfield 89, 3) := by decide +kernel
theorem dX7_readsItem_12 : decode cX7_readsItem 12 = .ok (.iconst 0, 1) := by decide +kernel
theorem dX7_readsItem_13 : decode cX7_readsItem 13 = .ok (.istore_n 1, 1) := by decide +kernel
theorem dX7_readsItem_14 : decode cX7_readsItem 14 = .ok (.iload_n 1, 1) := by decide +kernel
theorem dX7_readsItem_15 : decode cX7_readsItem 15 = .ok (.bipush 11, 2) := by decide +kernel
theorem dX7_readsItem_17 : decode cX7_readsItem 17 = .ok (.if_icmp .ge 57, 3) := by decide +kernel
theorem dX7_readsItem_20 : decode cX7_readsItem 20 = .ok (.aload_n 0, 1) := by decide +kernel
theorem dX7_readsItem_21 : decode cX7_readsItem 21 = .ok (.getfield 19, 3) := by decide +kernel
theorem dX7_readsItem_24 : decode cX7_readsItem 24 = .ok (.iload_n 1, 1) := by decide +kernel
theorem dX7_readsItem_25 : decode cX7_readsItem 25 = .ok (.iload_n 1, 1) := by decide +kernel
theorem dX7_readsItem_26 : decode cX7_readsItem 26 = .ok (.iconst 2, 1) := by decide +kernel
theorem dX7_readsItem_27 : decode cX7_readsItem 27 = .ok (.if_icmp .ne 7, 3) := by decide +kernel
theorem dX7_readsItem_30 : decode cX7_readsItem 30 = .ok (.iconst 1, 1) := by decide +kernel
theorem dX7_readsItem_31 : decode cX7_readsItem 31 = .ok (.goto 36, 3) := by decide +kernel
theorem dX7_readsItem_34 : decode cX7_readsItem 34 = .ok (.iload_n 1, 1) := by decide +kernel
theorem dX7_readsItem_35 : decode cX7_readsItem 35 = .ok (.iconst 4, 1) := by decide +kernel
theorem dX7_readsItem_36 : decode cX7_readsItem 36 = .ok (.if_icmp .ne 9, 3) := by decide +kernel
theorem dX7_readsItem_39 : decode cX7_readsItem 39 = .ok (.sipush 400, 3) := by decide +kernel
theorem dX7_readsItem_42 : decode cX7_readsItem 42 = .ok (.goto 25, 3) := by decide +kernel
theorem dX7_readsItem_45 : decode cX7_readsItem 45 = .ok (.iload_n 1, 1) := by decide +kernel
theorem dX7_readsItem_46 : decode cX7_readsItem 46 = .ok (.bipush 7, 2) := by decide +kernel
theorem dX7_readsItem_48 : decode cX7_readsItem 48 = .ok (.if_icmp .ne 8, 3) := by decide +kernel
theorem dX7_readsItem_51 : decode cX7_readsItem 51 = .ok (.bipush 10, 2) := by decide +kernel
theorem dX7_readsItem_53 : decode cX7_readsItem 53 = .ok (.goto 14, 3) := by decide +kernel
theorem dX7_readsItem_56 : decode cX7_readsItem 56 = .ok (.iload_n 1, 1) := by decide +kernel
theorem dX7_readsItem_57 : decode cX7_readsItem 57 = .ok (.bipush 9, 2) := by decide +kernel
theorem dX7_readsItem_59 : decode cX7_readsItem 59 = .ok (.if_icmp .ne 7, 3) := by decide +kernel
theorem dX7_readsItem_62 : decode cX7_readsItem 62 = .ok (.iconst 4, 1) := by decide +kernel
theorem dX7_readsItem_63 : decode cX7_readsItem 63 = .ok (.goto 4, 3) := by decide +kernel
theorem dX7_readsItem_66 : decode cX7_readsItem 66 = .ok (.iconst 0, 1) := by decide +kernel
theorem dX7_readsItem_67 : decode cX7_readsItem 67 = .ok (.iastore, 1) := by decide +kernel
theorem dX7_readsItem_68 : decode cX7_readsItem 68 = .ok (.iinc 1 1, 3) := by decide +kernel
theorem dX7_readsItem_71 : decode cX7_readsItem 71 = .ok (.goto (-57), 3) := by decide +kernel
theorem dX7_readsItem_74 : decode cX7_readsItem 74 = .ok (.aload_n 0, 1) := by decide +kernel
theorem dX7_readsItem_75 : decode cX7_readsItem 75 = .ok (.invokevirtual 107, 3) := by decide +kernel
theorem dX7_readsItem_78 : decode cX7_readsItem 78 = .ok (.aload_n 0, 1) := by decide +kernel
theorem dX7_readsItem_79 : decode cX7_readsItem 79 = .ok (.iconst 0, 1) := by decide +kernel
theorem dX7_readsItem_80 : decode cX7_readsItem 80 = .ok (.invokevirtual 134, 3) := by decide +kernel
theorem dX7_readsItem_83 : decode cX7_readsItem 83 = .ok (.iconst 0, 1) := by decide +kernel
theorem dX7_readsItem_84 : decode cX7_readsItem 84 = .ok (.istore_n 1, 1) := by decide +kernel
theorem dX7_readsItem_85 : decode cX7_readsItem 85 = .ok (.aload_n 0, 1) := by decide +kernel
theorem dX7_readsItem_86 : decode cX7_readsItem 86 = .ok (.getfield 89, 3) := by decide +kernel
theorem dX7_readsItem_89 : decode cX7_readsItem 89 = .ok (.sipush (-1001), 3) := by decide +kernel
theorem dX7_readsItem_92 : decode cX7_readsItem 92 = .ok (.if_icmp .ne 91, 3) := by decide +kernel
theorem dX7_readsItem_95 : decode cX7_readsItem 95 = .ok (.aload_n 0, 1) := by decide +kernel
theorem dX7_readsItem_96 : decode cX7_readsItem 96 = .ok (.getfield 82, 3) := by decide +kernel
theorem dX7_readsItem_99 : decode cX7_readsItem 99 = .ok (.aload_n 0, 1) := by decide +kernel
theorem dX7_readsItem_100 : decode cX7_readsItem 100 = .ok (.getfield 79, 3) := by decide +kernel
theorem dX7_readsItem_103 : decode cX7_readsItem 103 = .ok (.if_icmp .ge 80, 3) := by decide +kernel
theorem dX7_readsItem_106 : decode cX7_readsItem 106 = .ok (.aload_n 0, 1) := by decide +kernel
theorem dX7_readsItem_107 : decode cX7_readsItem 107 = .ok (.getfield 82, 3) := by decide +kernel
theorem dX7_readsItem_110 : decode cX7_readsItem 110 = .ok (.istore_n 2, 1) := by decide +kernel
theorem dX7_readsItem_111 : decode cX7_readsItem 111 = .ok (.aload_n 0, 1) := by decide +kernel
theorem dX7_readsItem_112 : decode cX7_readsItem 112 = .ok (.invokevirtual 85, 3) := by decide +kernel
theorem dX7_readsItem_115 : decode cX7_readsItem 115 = .ok (.bipush 97, 2) := by decide +kernel
theorem dX7_readsItem_117 : decode cX7_readsItem 117 = .ok (.bipush 122, 2) := by decide +kernel
theorem dX7_readsItem_119 : decode cX7_readsItem 119 = .ok (.invokestatic 75, 3) := by decide +kernel
theorem dX7_readsItem_122 : decode cX7_readsItem 122 = .ok (.ifCond .eq 16, 3) := by decide +kernel
theorem dX7_readsItem_125 : decode cX7_readsItem 125 = .ok (.aload_n 0, 1) := by decide +kernel
theorem dX7_readsItem_126 : decode cX7_readsItem 126 = .ok (.dup, 1) := by decide +kernel
theorem dX7_readsItem_127 : decode cX7_readsItem 127 = .ok (.getfield 82, 3) := by decide +kernel
theorem dX7_readsItem_130 : decode cX7_readsItem 130 = .ok (.iconst 1, 1) := by decide +kernel
theorem dX7_readsItem_131 : decode cX7_readsItem 131 = .ok (.iadd, 1) := by decide +kernel
theorem dX7_readsItem_132 : decode cX7_readsItem 132 = .ok (.putfield 82, 3) := by decide +kernel
theorem dX7_readsItem_135 : decode cX7_readsItem 135 = .ok (.goto (-24), 3) := by decide +kernel
theorem dX7_readsItem_138 : decode cX7_readsItem 138 = .ok (.aload_n 0, 1) := by decide +kernel
theorem dX7_readsItem_139 : decode cX7_readsItem 139 = .ok (.iload_n 2, 1) := by decide +kernel
theorem dX7_readsItem_140 : decode cX7_readsItem 140 = .ok (.invokevirtual 137, 3) := by decide +kernel
theorem dX7_readsItem_143 : decode cX7_readsItem 143 = .ok (.istore_n 3, 1) := by decide +kernel
theorem dX7_readsItem_144 : decode cX7_readsItem 144 = .ok (.iload_n 3, 1) := by decide +kernel
theorem dX7_readsItem_145 : decode cX7_readsItem 145 = .ok (.ifCond .eq 12, 3) := by decide +kernel
theorem dX7_readsItem_148 : decode cX7_readsItem 148 = .ok (.iload_n 1, 1) := by decide +kernel
theorem dX7_readsItem_149 : decode cX7_readsItem 149 = .ok (.iload_n 3, 1) := by decide +kernel
theorem dX7_readsItem_150 : decode cX7_readsItem 150 = .ok (.ishr, 1) := by decide +kernel
theorem dX7_readsItem_151 : decode cX7_readsItem 151 = .ok (.iconst 1, 1) := by decide +kernel
theorem dX7_readsItem_152 : decode cX7_readsItem 152 = .ok (.iand, 1) := by decide +kernel
theorem dX7_readsItem_153 : decode cX7_readsItem 153 = .ok (.iconst 1, 1) := by decide +kernel
theorem dX7_readsItem_154 : decode cX7_readsItem 154 = .ok (.if_icmp .ne 11, 3) := by decide +kernel
theorem dX7_readsItem_157 : decode cX7_readsItem 157 = .ok (.aload_n 0, 1) := by decide +kernel
theorem dX7_readsItem_158 : decode cX7_readsItem 158 = .ok (.iload_n 2, 1) := by decide +kernel
theorem dX7_readsItem_159 : decode cX7_readsItem 159 = .ok (.invokevirtual 96, 3) := by decide +kernel
theorem dX7_readsItem_162 : decode cX7_readsItem 162 = .ok (.goto 18, 3) := by decide +kernel
theorem dX7_readsItem_165 : decode cX7_readsItem 165 = .ok (.iload_n 1, 1) := by decide +kernel
theorem dX7_readsItem_166 : decode cX7_readsItem 166 = .ok (.iconst 1, 1) := by decide +kernel
theorem dX7_readsItem_167 : decode cX7_readsItem 167 = .ok (.iload_n 3, 1) := by decide +kernel
theorem dX7_readsItem_168 : decode cX7_readsItem 168 = .ok (.ishl, 1) := by decide +kernel
theorem dX7_readsItem_169 : decode cX7_readsItem 169 = .ok (.ior, 1) := by decide +kernel
theorem dX7_readsItem_170 : decode cX7_readsItem 170 = .ok (.istore_n 1, 1) := by decide +kernel
theorem dX7_readsItem_171 : decode cX7_readsItem 171 = .ok (.aload_n 0, 1) := by decide +kernel
theorem dX7_readsItem_172 : decode cX7_readsItem 172 = .ok (.invokevirtual 107, 3) := by decide +kernel
theorem dX7_readsItem_175 : decode cX7_readsItem 175 = .ok (.aload_n 0, 1) := by decide +kernel
theorem dX7_readsItem_176 : decode cX7_readsItem 176 = .ok (.iload_n 3, 1) := by decide +kernel
theorem dX7_readsItem_177 : decode cX7_readsItem 177 = .ok (.invokevirtual 134, 3) := by decide +kernel
theorem dX7_readsItem_180 : decode cX7_readsItem 180 = .ok (.goto (-95), 3) := by decide +kernel
theorem dX7_readsItem_183 : decode cX7_readsItem 183 = .ok (.return_, 1) := by decide +kernel
theorem dX7_isItem_0 : decode cX7_isItem 0 = .ok (.iload_n 1, 1) := by decide +kernel
theorem dX7_isItem_1 : decode cX7_isItem 1 = .ok (.iconst 0, 1) := by decide +kernel
theorem dX7_isItem_2 : decode cX7_isItem 2 = .ok (.aload_n 0, 1) := by decide +kernel
theorem dX7_isItem_3 : decode cX7_isItem 3 = .ok (.getfield 7, 3) := by decide +kernel
theorem dX7_isItem_6 : decode cX7_isItem 6 = .ok (.sipush 176, 3) := by decide +kernel
theorem dX7_isItem_9 : decode cX7_isItem 9 = .ok (.iaload, 1) := by decide +kernel
theorem dX7_isItem_10 : decode cX7_isItem 10 = .ok (.iconst 1, 1) := by decide +kernel
theorem dX7_isItem_11 : decode cX7_isItem 11 = .ok (.isub, 1) := by decide +kernel
theorem dX7_isItem_12 : decode cX7_isItem 12 = .ok (.invokestatic 75, 3) := by decide +kernel
theorem dX7_isItem_15 : decode cX7_isItem 15 = .ok (.ireturn, 1) := by decide +kernel
theorem dX7_of_0 : decode cX7_of 0 = .ok (.aload_n 0, 1) := by decide +kernel
theorem dX7_of_1 : decode cX7_of 1 = .ok (.getfield 7, 3) := by decide +kernel
theorem dX7_of_4 : decode cX7_of 4 = .ok (.bipush 11, 2) := by decide +kernel
theorem dX7_of_6 : decode cX7_of 6 = .ok (.iload_n 1, 1) := by decide +kernel
theorem dX7_of_7 : decode cX7_of 7 = .ok (.imul, 1) := by decide +kernel
theorem dX7_of_8 : decode cX7_of 8 = .ok (.iload_n 2, 1) := by decide +kernel
theorem dX7_of_9 : decode cX7_of 9 = .ok (.iadd, 1) := by decide +kernel
theorem dX7_of_10 : decode cX7_of 10 = .ok (.iaload, 1) := by decide +kernel
theorem dX7_of_11 : decode cX7_of 11 = .ok (.ireturn, 1) := by decide +kernel
theorem dX7_copies_0 : decode cX7_copies 0 = .ok (.iconst 0, 1) := by decide +kernel
theorem dX7_copies_1 : decode cX7_copies 1 = .ok (.istore_n 3, 1) := by decide +kernel
theorem dX7_copies_2 : decode cX7_copies 2 = .ok (.iload_n 3, 1) := by decide +kernel
theorem dX7_copies_3 : decode cX7_copies 3 = .ok (.bipush 11, 2) := by decide +kernel
theorem dX7_copies_5 : decode cX7_copies 5 = .ok (.if_icmp .ge 31, 3) := by decide +kernel
theorem dX7_copies_8 : decode cX7_copies 8 = .ok (.aload_n 0, 1) := by decide +kernel
theorem dX7_copies_9 : decode cX7_copies 9 = .ok (.getfield 7, 3) := by decide +kernel
theorem dX7_copies_12 : decode cX7_copies 12 = .ok (.bipush 11, 2) := by decide +kernel
theorem dX7_copies_14 : decode cX7_copies 14 = .ok (.iload_n 2, 1) := by decide +kernel
theorem dX7_copies_15 : decode cX7_copies 15 = .ok (.imul, 1) := by decide +kernel
theorem dX7_copies_16 : decode cX7_copies 16 = .ok (.iload_n 3, 1) := by decide +kernel
theorem dX7_copies_17 : decode cX7_copies 17 = .ok (.iadd, 1) := by decide +kernel
theorem dX7_copies_18 : decode cX7_copies 18 = .ok (.aload_n 0, 1) := by decide +kernel
theorem dX7_copies_19 : decode cX7_copies 19 = .ok (.getfield 7, 3) := by decide +kernel
theorem dX7_copies_22 : decode cX7_copies 22 = .ok (.bipush 11, 2) := by decide +kernel
theorem dX7_copies_24 : decode cX7_copies 24 = .ok (.iload_n 1, 1) := by decide +kernel
theorem dX7_copies_25 : decode cX7_copies 25 = .ok (.imul, 1) := by decide +kernel
theorem dX7_copies_26 : decode cX7_copies 26 = .ok (.iload_n 3, 1) := by decide +kernel
theorem dX7_copies_27 : decode cX7_copies 27 = .ok (.iadd, 1) := by decide +kernel
theorem dX7_copies_28 : decode cX7_copies 28 = .ok (.iaload, 1) := by decide +kernel
theorem dX7_copies_29 : decode cX7_copies 29 = .ok (.iastore, 1) := by decide +kernel
theorem dX7_copies_30 : decode cX7_copies 30 = .ok (.iinc 3 1, 3) := by decide +kernel
theorem dX7_copies_33 : decode cX7_copies 33 = .ok (.goto (-31), 3) := by decide +kernel
theorem dX7_copies_36 : decode cX7_copies 36 = .ok (.return_, 1) := by decide +kernel
theorem dX7_lays_0 : decode cX7_lays 0 = .ok (.iconst 0, 1) := by decide +kernel
theorem dX7_lays_1 : decode cX7_lays 1 = .ok (.istore_n 2, 1) := by decide +kernel
theorem dX7_lays_2 : decode cX7_lays 2 = .ok (.iload_n 2, 1) := by decide +kernel
theorem dX7_lays_3 : decode cX7_lays 3 = .ok (.bipush 11, 2) := by decide +kernel
theorem dX7_lays_5 : decode cX7_lays 5 = .ok (.if_icmp .ge 26, 3) := by decide +kernel
theorem dX7_lays_8 : decode cX7_lays 8 = .ok (.aload_n 0, 1) := by decide +kernel
theorem dX7_lays_9 : decode cX7_lays 9 = .ok (.getfield 7, 3) := by decide +kernel
theorem dX7_lays_12 : decode cX7_lays 12 = .ok (.bipush 11, 2) := by decide +kernel
theorem dX7_lays_14 : decode cX7_lays 14 = .ok (.iload_n 1, 1) := by decide +kernel
theorem dX7_lays_15 : decode cX7_lays 15 = .ok (.imul, 1) := by decide +kernel
theorem dX7_lays_16 : decode cX7_lays 16 = .ok (.iload_n 2, 1) := by decide +kernel
theorem dX7_lays_17 : decode cX7_lays 17 = .ok (.iadd, 1) := by decide +kernel
theorem dX7_lays_18 : decode cX7_lays 18 = .ok (.aload_n 0, 1) := by decide +kernel
theorem dX7_lays_19 : decode cX7_lays 19 = .ok (.getfield 19, 3) := by decide +kernel
theorem dX7_lays_22 : decode cX7_lays 22 = .ok (.iload_n 2, 1) := by decide +kernel
theorem dX7_lays_23 : decode cX7_lays 23 = .ok (.iaload, 1) := by decide +kernel
theorem dX7_lays_24 : decode cX7_lays 24 = .ok (.iastore, 1) := by decide +kernel
theorem dX7_lays_25 : decode cX7_lays 25 = .ok (.iinc 2 1, 3) := by decide +kernel
theorem dX7_lays_28 : decode cX7_lays 28 = .ok (.goto (-26), 3) := by decide +kernel
theorem dX7_lays_31 : decode cX7_lays 31 = .ok (.return_, 1) := by decide +kernel
theorem dX7_insert_0 : decode cX7_insert 0 = .ok (.iload_n 1, 1) := by decide +kernel
theorem dX7_insert_1 : decode cX7_insert 1 = .ok (.iconst 0, 1) := by decide +kernel
theorem dX7_insert_2 : decode cX7_insert 2 = .ok (.aload_n 0, 1) := by decide +kernel
theorem dX7_insert_3 : decode cX7_insert 3 = .ok (.getfield 7, 3) := by decide +kernel
theorem dX7_insert_6 : decode cX7_insert 6 = .ok (.sipush 176, 3) := by decide +kernel
theorem dX7_insert_9 : decode cX7_insert 9 = .ok (.iaload, 1) := by decide +kernel
theorem dX7_insert_10 : decode cX7_insert 10 = .ok (.invokestatic 75, 3) := by decide +kernel
theorem dX7_insert_13 : decode cX7_insert 13 = .ok (.ifCond .ne 7, 3) := by decide +kernel
theorem dX7_insert_16 : decode cX7_insert 16 = .ok (.sipush (-1002), 3) := by decide +kernel
theorem dX7_insert_19 : decode cX7_insert 19 = .ok (.ireturn, 1) := by decide +kernel
theorem dX7_insert_20 : decode cX7_insert 20 = .ok (.aload_n 0, 1) := by decide +kernel
theorem dX7_insert_21 : decode cX7_insert 21 = .ok (.invokevirtual 140, 3) := by decide +kernel
theorem dX7_insert_24 : decode cX7_insert 24 = .ok (.aload_n 0, 1) := by decide +kernel
theorem dX7_insert_25 : decode cX7_insert 25 = .ok (.getfield 89, 3) := by decide +kernel
theorem dX7_insert_28 : decode cX7_insert 28 = .ok (.sipush (-1001), 3) := by decide +kernel
theorem dX7_insert_31 : decode cX7_insert 31 = .ok (.if_icmp .eq 12, 3) := by decide +kernel
theorem dX7_insert_34 : decode cX7_insert 34 = .ok (.sipush (-2000), 3) := by decide +kernel
theorem dX7_insert_37 : decode cX7_insert 37 = .ok (.aload_n 0, 1) := by decide +kernel
theorem dX7_insert_38 : decode cX7_insert 38 = .ok (.getfield 89, 3) := by decide +kernel
theorem dX7_insert_41 : decode cX7_insert 41 = .ok (.isub, 1) := by decide +kernel
theorem dX7_insert_42 : decode cX7_insert 42 = .ok (.ireturn, 1) := by decide +kernel
theorem dX7_insert_43 : decode cX7_insert 43 = .ok (.aload_n 0, 1) := by decide +kernel
theorem dX7_insert_44 : decode cX7_insert 44 = .ok (.getfield 7, 3) := by decide +kernel
theorem dX7_insert_47 : decode cX7_insert 47 = .ok (.sipush 176, 3) := by decide +kernel
theorem dX7_insert_50 : decode cX7_insert 50 = .ok (.iaload, 1) := by decide +kernel
theorem dX7_insert_51 : decode cX7_insert 51 = .ok (.bipush 16, 2) := by decide +kernel
theorem dX7_insert_53 : decode cX7_insert 53 = .ok (.if_icmp .ne 7, 3) := by decide +kernel
theorem dX7_insert_56 : decode cX7_insert 56 = .ok (.sipush (-1004), 3) := by decide +kernel
theorem dX7_insert_59 : decode cX7_insert 59 = .ok (.ireturn, 1) := by decide +kernel
theorem dX7_insert_60 : decode cX7_insert 60 = .ok (.aload_n 0, 1) := by decide +kernel
theorem dX7_insert_61 : decode cX7_insert 61 = .ok (.invokevirtual 143, 3) := by decide +kernel
theorem dX7_insert_64 : decode cX7_insert 64 = .ok (.aload_n 0, 1) := by decide +kernel
theorem dX7_insert_65 : decode cX7_insert 65 = .ok (.getfield 7, 3) := by decide +kernel
theorem dX7_insert_68 : decode cX7_insert 68 = .ok (.sipush 176, 3) := by decide +kernel
theorem dX7_insert_71 : decode cX7_insert 71 = .ok (.iaload, 1) := by decide +kernel
theorem dX7_insert_72 : decode cX7_insert 72 = .ok (.istore_n 2, 1) := by decide +kernel
theorem dX7_insert_73 : decode cX7_insert 73 = .ok (.iload_n 2, 1) := by decide +kernel
theorem dX7_insert_74 : decode cX7_insert 74 = .ok (.iload_n 1, 1) := by decide +kernel
theorem dX7_insert_75 : decode cX7_insert 75 = .ok (.if_icmp .le 17, 3) := by decide +kernel
theorem dX7_insert_78 : decode cX7_insert 78 = .ok (.aload_n 0, 1) := by decide +kernel
theorem dX7_insert_79 : decode cX7_insert 79 = .ok (.iload_n 2, 1) := by decide +kernel
theorem dX7_insert_80 : decode cX7_insert 80 = .ok (.iconst 1, 1) := by decide +kernel
theorem dX7_insert_81 : decode cX7_insert 81 = .ok (.isub, 1) := by decide +kernel
theorem dX7_insert_82 : decode cX7_insert 82 = .ok (.iload_n 2, 1) := by decide +kernel
theorem dX7_insert_83 : decode cX7_insert 83 = .ok (.invokevirtual 146, 3) := by decide +kernel
theorem dX7_insert_86 : decode cX7_insert 86 = .ok (.iinc 2 (-1), 3) := by decide +kernel
theorem dX7_insert_89 : decode cX7_insert 89 = .ok (.goto (-16), 3) := by decide +kernel
theorem dX7_insert_92 : decode cX7_insert 92 = .ok (.aload_n 0, 1) := by decide +kernel
theorem dX7_insert_93 : decode cX7_insert 93 = .ok (.iload_n 1, 1) := by decide +kernel
theorem dX7_insert_94 : decode cX7_insert 94 = .ok (.invokevirtual 150, 3) := by decide +kernel
theorem dX7_insert_97 : decode cX7_insert 97 = .ok (.aload_n 0, 1) := by decide +kernel
theorem dX7_insert_98 : decode cX7_insert 98 = .ok (.getfield 7, 3) := by decide +kernel
theorem dX7_insert_101 : decode cX7_insert 101 = .ok (.sipush 176, 3) := by decide +kernel
theorem dX7_insert_104 : decode cX7_insert 104 = .ok (.dup2, 1) := by decide +kernel
theorem dX7_insert_105 : decode cX7_insert 105 = .ok (.iaload, 1) := by decide +kernel
theorem dX7_insert_106 : decode cX7_insert 106 = .ok (.iconst 1, 1) := by decide +kernel
theorem dX7_insert_107 : decode cX7_insert 107 = .ok (.iadd, 1) := by decide +kernel
theorem dX7_insert_108 : decode cX7_insert 108 = .ok (.iastore, 1) := by decide +kernel
theorem dX7_insert_109 : decode cX7_insert 109 = .ok (.aload_n 0, 1) := by decide +kernel
theorem dX7_insert_110 : decode cX7_insert 110 = .ok (.getfield 7, 3) := by decide +kernel
theorem dX7_insert_113 : decode cX7_insert 113 = .ok (.sipush 176, 3) := by decide +kernel
theorem dX7_insert_116 : decode cX7_insert 116 = .ok (.iaload, 1) := by decide +kernel
theorem dX7_insert_117 : decode cX7_insert 117 = .ok (.ireturn, 1) := by decide +kernel
theorem dX7_remove_0 : decode cX7_remove 0 = .ok (.aload_n 0, 1) := by decide +kernel
theorem dX7_remove_1 : decode cX7_remove 1 = .ok (.iload_n 1, 1) := by decide +kernel
theorem dX7_remove_2 : decode cX7_remove 2 = .ok (.invokevirtual 153, 3) := by decide +kernel
theorem dX7_remove_5 : decode cX7_remove 5 = .ok (.ifCond .ne 7, 3) := by decide +kernel
theorem dX7_remove_8 : decode cX7_remove 8 = .ok (.sipush (-1002), 3) := by decide +kernel
theorem dX7_remove_11 : decode cX7_remove 11 = .ok (.ireturn, 1) := by decide +kernel
theorem dX7_remove_12 : decode cX7_remove 12 = .ok (.aload_n 0, 1) := by decide +kernel
theorem dX7_remove_13 : decode cX7_remove 13 = .ok (.invokevirtual 143, 3) := by decide +kernel
theorem dX7_remove_16 : decode cX7_remove 16 = .ok (.aload_n 0, 1) := by decide +kernel
theorem dX7_remove_17 : decode cX7_remove 17 = .ok (.getfield 7, 3) := by decide +kernel
theorem dX7_remove_20 : decode cX7_remove 20 = .ok (.sipush 176, 3) := by decide +kernel
theorem dX7_remove_23 : decode cX7_remove 23 = .ok (.dup2, 1) := by decide +kernel
theorem dX7_remove_24 : decode cX7_remove 24 = .ok (.iaload, 1) := by decide +kernel
theorem dX7_remove_25 : decode cX7_remove 25 = .ok (.iconst 1, 1) := by decide +kernel
theorem dX7_remove_26 : decode cX7_remove 26 = .ok (.isub, 1) := by decide +kernel
theorem dX7_remove_27 : decode cX7_remove 27 = .ok (.iastore, 1) := by decide +kernel
theorem dX7_remove_28 : decode cX7_remove 28 = .ok (.iload_n 1, 1) := by decide +kernel
theorem dX7_remove_29 : decode cX7_remove 29 = .ok (.istore_n 2, 1) := by decide +kernel
theorem dX7_remove_30 : decode cX7_remove 30 = .ok (.iload_n 2, 1) := by decide +kernel
theorem dX7_remove_31 : decode cX7_remove 31 = .ok (.aload_n 0, 1) := by decide +kernel
theorem dX7_remove_32 : decode cX7_remove 32 = .ok (.getfield 7, 3) := by decide +kernel
theorem dX7_remove_35 : decode cX7_remove 35 = .ok (.sipush 176, 3) := by decide +kernel
theorem dX7_remove_38 : decode cX7_remove 38 = .ok (.iaload, 1) := by decide +kernel
theorem dX7_remove_39 : decode cX7_remove 39 = .ok (.if_icmp .ge 17, 3) := by decide +kernel
theorem dX7_remove_42 : decode cX7_remove 42 = .ok (.aload_n 0, 1) := by decide +kernel
theorem dX7_remove_43 : decode cX7_remove 43 = .ok (.iload_n 2, 1) := by decide +kernel
theorem dX7_remove_44 : decode cX7_remove 44 = .ok (.iconst 1, 1) := by decide +kernel
theorem dX7_remove_45 : decode cX7_remove 45 = .ok (.iadd, 1) := by decide +kernel
theorem dX7_remove_46 : decode cX7_remove 46 = .ok (.iload_n 2, 1) := by decide +kernel
theorem dX7_remove_47 : decode cX7_remove 47 = .ok (.invokevirtual 146, 3) := by decide +kernel
theorem dX7_remove_50 : decode cX7_remove 50 = .ok (.iinc 2 1, 3) := by decide +kernel
theorem dX7_remove_53 : decode cX7_remove 53 = .ok (.goto (-23), 3) := by decide +kernel
theorem dX7_remove_56 : decode cX7_remove 56 = .ok (.aload_n 0, 1) := by decide +kernel
theorem dX7_remove_57 : decode cX7_remove 57 = .ok (.getfield 7, 3) := by decide +kernel
theorem dX7_remove_60 : decode cX7_remove 60 = .ok (.sipush 176, 3) := by decide +kernel
theorem dX7_remove_63 : decode cX7_remove 63 = .ok (.iaload, 1) := by decide +kernel
theorem dX7_remove_64 : decode cX7_remove 64 = .ok (.ireturn, 1) := by decide +kernel
theorem dX7_move_0 : decode cX7_move 0 = .ok (.aload_n 0, 1) := by decide +kernel
theorem dX7_move_1 : decode cX7_move 1 = .ok (.iload_n 1, 1) := by decide +kernel
theorem dX7_move_2 : decode cX7_move 2 = .ok (.invokevirtual 153, 3) := by decide +kernel
theorem dX7_move_5 : decode cX7_move 5 = .ok (.ifCond .eq 11, 3) := by decide +kernel
theorem dX7_move_8 : decode cX7_move 8 = .ok (.aload_n 0, 1) := by decide +kernel
theorem dX7_move_9 : decode cX7_move 9 = .ok (.iload_n 2, 1) := by decide +kernel
theorem dX7_move_10 : decode cX7_move 10 = .ok (.invokevirtual 153, 3) := by decide +kernel
theorem dX7_move_13 : decode cX7_move 13 = .ok (.ifCond .ne 7, 3) := by decide +kernel
theorem dX7_move_16 : decode cX7_move 16 = .ok (.sipush (-1002), 3) := by decide +kernel
theorem dX7_move_19 : decode cX7_move 19 = .ok (.ireturn, 1) := by decide +kernel
theorem dX7_move_20 : decode cX7_move 20 = .ok (.aload_n 0, 1) := by decide +kernel
theorem dX7_move_21 : decode cX7_move 21 = .ok (.invokevirtual 143, 3) := by decide +kernel
theorem dX7_move_24 : decode cX7_move 24 = .ok (.iconst 0, 1) := by decide +kernel
theorem dX7_move_25 : decode cX7_move 25 = .ok (.istore_n 3, 1) := by decide +kernel
theorem dX7_move_26 : decode cX7_move 26 = .ok (.iload_n 3, 1) := by decide +kernel
theorem dX7_move_27 : decode cX7_move 27 = .ok (.bipush 11, 2) := by decide +kernel
theorem dX7_move_29 : decode cX7_move 29 = .ok (.if_icmp .ge 21, 3) := by decide +kernel
theorem dX7_move_32 : decode cX7_move 32 = .ok (.aload_n 0, 1) := by decide +kernel
theorem dX7_move_33 : decode cX7_move 33 = .ok (.getfield 19, 3) := by decide +kernel
theorem dX7_move_36 : decode cX7_move 36 = .ok (.iload_n 3, 1) := by decide +kernel
theorem dX7_move_37 : decode cX7_move 37 = .ok (.aload_n 0, 1) := by decide +kernel
theorem dX7_move_38 : decode cX7_move 38 = .ok (.iload_n 1, 1) := by decide +kernel
theorem dX7_move_39 : decode cX7_move 39 = .ok (.iload_n 3, 1) := by decide +kernel
theorem dX7_move_40 : decode cX7_move 40 = .ok (.invokevirtual 157, 3) := by decide +kernel
theorem dX7_move_43 : decode cX7_move 43 = .ok (.iastore, 1) := by decide +kernel
theorem dX7_move_44 : decode cX7_move 44 = .ok (.iinc 3 1, 3) := by decide +kernel
theorem dX7_move_47 : decode cX7_move 47 = .ok (.goto (-21), 3) := by decide +kernel
theorem dX7_move_50 : decode cX7_move 50 = .ok (.iload_n 1, 1) := by decide +kernel
theorem dX7_move_51 : decode cX7_move 51 = .ok (.istore_n 3, 1) := by decide +kernel
theorem dX7_move_52 : decode cX7_move 52 = .ok (.iload_n 3, 1) := by decide +kernel
theorem dX7_move_53 : decode cX7_move 53 = .ok (.iload_n 2, 1) := by decide +kernel
theorem dX7_move_54 : decode cX7_move 54 = .ok (.if_icmp .le 17, 3) := by decide +kernel
theorem dX7_move_57 : decode cX7_move 57 = .ok (.aload_n 0, 1) := by decide +kernel
theorem dX7_move_58 : decode cX7_move 58 = .ok (.iload_n 3, 1) := by decide +kernel
theorem dX7_move_59 : decode cX7_move 59 = .ok (.iconst 1, 1) := by decide +kernel
theorem dX7_move_60 : decode cX7_move 60 = .ok (.isub, 1) := by decide +kernel
theorem dX7_move_61 : decode cX7_move 61 = .ok (.iload_n 3, 1) := by decide +kernel
theorem dX7_move_62 : decode cX7_move 62 = .ok (.invokevirtual 146, 3) := by decide +kernel
theorem dX7_move_65 : decode cX7_move 65 = .ok (.iinc 3 (-1), 3) := by decide +kernel
theorem dX7_move_68 : decode cX7_move 68 = .ok (.goto (-16), 3) := by decide +kernel
theorem dX7_move_71 : decode cX7_move 71 = .ok (.iload_n 1, 1) := by decide +kernel
theorem dX7_move_72 : decode cX7_move 72 = .ok (.istore_n 3, 1) := by decide +kernel
theorem dX7_move_73 : decode cX7_move 73 = .ok (.iload_n 3, 1) := by decide +kernel
theorem dX7_move_74 : decode cX7_move 74 = .ok (.iload_n 2, 1) := by decide +kernel
theorem dX7_move_75 : decode cX7_move 75 = .ok (.if_icmp .ge 17, 3) := by decide +kernel
theorem dX7_move_78 : decode cX7_move 78 = .ok (.aload_n 0, 1) := by decide +kernel
theorem dX7_move_79 : decode cX7_move 79 = .ok (.iload_n 3, 1) := by decide +kernel
theorem dX7_move_80 : decode cX7_move 80 = .ok (.iconst 1, 1) := by decide +kernel
theorem dX7_move_81 : decode cX7_move 81 = .ok (.iadd, 1) := by decide +kernel
theorem dX7_move_82 : decode cX7_move 82 = .ok (.iload_n 3, 1) := by decide +kernel
theorem dX7_move_83 : decode cX7_move 83 = .ok (.invokevirtual 146, 3) := by decide +kernel
theorem dX7_move_86 : decode cX7_move 86 = .ok (.iinc 3 1, 3) := by decide +kernel
theorem dX7_move_89 : decode cX7_move 89 = .ok (.goto (-16), 3) := by decide +kernel
theorem dX7_move_92 : decode cX7_move 92 = .ok (.aload_n 0, 1) := by decide +kernel
theorem dX7_move_93 : decode cX7_move 93 = .ok (.iload_n 2, 1) := by decide +kernel
theorem dX7_move_94 : decode cX7_move 94 = .ok (.invokevirtual 150, 3) := by decide +kernel
theorem dX7_move_97 : decode cX7_move 97 = .ok (.aload_n 0, 1) := by decide +kernel
theorem dX7_move_98 : decode cX7_move 98 = .ok (.aload_n 0, 1) := by decide +kernel
theorem dX7_move_99 : decode cX7_move 99 = .ok (.getfield 7, 3) := by decide +kernel
theorem dX7_move_102 : decode cX7_move 102 = .ok (.sipush 177, 3) := by decide +kernel
theorem dX7_move_105 : decode cX7_move 105 = .ok (.iaload, 1) := by decide +kernel
theorem dX7_move_106 : decode cX7_move 106 = .ok (.invokevirtual 161, 3) := by decide +kernel
theorem dX7_move_109 : decode cX7_move 109 = .ok (.aload_n 0, 1) := by decide +kernel
theorem dX7_move_110 : decode cX7_move 110 = .ok (.iload_n 2, 1) := by decide +kernel
theorem dX7_move_111 : decode cX7_move 111 = .ok (.invokevirtual 164, 3) := by decide +kernel
theorem dX7_move_114 : decode cX7_move 114 = .ok (.ireturn, 1) := by decide +kernel
theorem dX7_change_0 : decode cX7_change 0 = .ok (.aload_n 0, 1) := by decide +kernel
theorem dX7_change_1 : decode cX7_change 1 = .ok (.iload_n 1, 1) := by decide +kernel
theorem dX7_change_2 : decode cX7_change 2 = .ok (.invokevirtual 153, 3) := by decide +kernel
theorem dX7_change_5 : decode cX7_change 5 = .ok (.ifCond .eq 28, 3) := by decide +kernel
theorem dX7_change_8 : decode cX7_change 8 = .ok (.iload_n 2, 1) := by decide +kernel
theorem dX7_change_9 : decode cX7_change 9 = .ok (.iconst 0, 1) := by decide +kernel
theorem dX7_change_10 : decode cX7_change 10 = .ok (.bipush 9, 2) := by decide +kernel
theorem dX7_change_12 : decode cX7_change 12 = .ok (.invokestatic 75, 3) := by decide +kernel
theorem dX7_change_15 : decode cX7_change 15 = .ok (.ifCond .eq 18, 3) := by decide +kernel
theorem dX7_change_18 : decode cX7_change 18 = .ok (.iload_n 3, 1) := by decide +kernel
theorem dX7_change_19 : decode cX7_change 19 = .ok (.iload_n 2, 1) := by decide +kernel
theorem dX7_change_20 : decode cX7_change 20 = .ok (.invokestatic 100, 3) := by decide +kernel
theorem dX7_change_23 : decode cX7_change 23 = .ok (.iload_n 2, 1) := by decide +kernel
theorem dX7_change_24 : decode cX7_change 24 = .ok (.invokestatic 104, 3) := by decide +kernel
theorem dX7_change_27 : decode cX7_change 27 = .ok (.invokestatic 75, 3) := by decide +kernel
theorem dX7_change_30 : decode cX7_change 30 = .ok (.ifCond .ne 7, 3) := by decide +kernel
theorem dX7_change_33 : decode cX7_change 33 = .ok (.sipush (-1002), 3) := by decide +kernel
theorem dX7_change_36 : decode cX7_change 36 = .ok (.ireturn, 1) := by decide +kernel
theorem dX7_change_37 : decode cX7_change 37 = .ok (.aload_n 0, 1) := by decide +kernel
theorem dX7_change_38 : decode cX7_change 38 = .ok (.invokevirtual 143, 3) := by decide +kernel
theorem dX7_change_41 : decode cX7_change 41 = .ok (.aload_n 0, 1) := by decide +kernel
theorem dX7_change_42 : decode cX7_change 42 = .ok (.iload_n 1, 1) := by decide +kernel
theorem dX7_change_43 : decode cX7_change 43 = .ok (.iload_n 2, 1) := by decide +kernel
theorem dX7_change_44 : decode cX7_change 44 = .ok (.invokevirtual 157, 3) := by decide +kernel
theorem dX7_change_47 : decode cX7_change 47 = .ok (.istore 4, 2) := by decide +kernel
theorem dX7_change_49 : decode cX7_change 49 = .ok (.aload_n 0, 1) := by decide +kernel
theorem dX7_change_50 : decode cX7_change 50 = .ok (.getfield 7, 3) := by decide +kernel
theorem dX7_change_53 : decode cX7_change 53 = .ok (.bipush 11, 2) := by decide +kernel
theorem dX7_change_55 : decode cX7_change 55 = .ok (.iload_n 1, 1) := by decide +kernel
theorem dX7_change_56 : decode cX7_change 56 = .ok (.imul, 1) := by decide +kernel
theorem dX7_change_57 : decode cX7_change 57 = .ok (.iload_n 2, 1) := by decide +kernel
theorem dX7_change_58 : decode cX7_change 58 = .ok (.iadd, 1) := by decide +kernel
theorem dX7_change_59 : decode cX7_change 59 = .ok (.iload_n 3, 1) := by decide +kernel
theorem dX7_change_60 : decode cX7_change 60 = .ok (.iastore, 1) := by decide +kernel
theorem dX7_change_61 : decode cX7_change 61 = .ok (.iload 4, 2) := by decide +kernel
theorem dX7_change_63 : decode cX7_change 63 = .ok (.ireturn, 1) := by decide +kernel
theorem dX7_hide_0 : decode cX7_hide 0 = .ok (.aload_n 0, 1) := by decide +kernel
theorem dX7_hide_1 : decode cX7_hide 1 = .ok (.iload_n 1, 1) := by decide +kernel
theorem dX7_hide_2 : decode cX7_hide 2 = .ok (.invokevirtual 153, 3) := by decide +kernel
theorem dX7_hide_5 : decode cX7_hide 5 = .ok (.ifCond .ne 7, 3) := by decide +kernel
theorem dX7_hide_8 : decode cX7_hide 8 = .ok (.sipush (-1002), 3) := by decide +kernel
theorem dX7_hide_11 : decode cX7_hide 11 = .ok (.ireturn, 1) := by decide +kernel
theorem dX7_hide_12 : decode cX7_hide 12 = .ok (.aload_n 0, 1) := by decide +kernel
theorem dX7_hide_13 : decode cX7_hide 13 = .ok (.invokevirtual 143, 3) := by decide +kernel
theorem dX7_hide_16 : decode cX7_hide 16 = .ok (.aload_n 0, 1) := by decide +kernel
theorem dX7_hide_17 : decode cX7_hide 17 = .ok (.getfield 7, 3) := by decide +kernel
theorem dX7_hide_20 : decode cX7_hide 20 = .ok (.bipush 11, 2) := by decide +kernel
theorem dX7_hide_22 : decode cX7_hide 22 = .ok (.iload_n 1, 1) := by decide +kernel
theorem dX7_hide_23 : decode cX7_hide 23 = .ok (.imul, 1) := by decide +kernel
theorem dX7_hide_24 : decode cX7_hide 24 = .ok (.bipush 10, 2) := by decide +kernel
theorem dX7_hide_26 : decode cX7_hide 26 = .ok (.iadd, 1) := by decide +kernel
theorem dX7_hide_27 : decode cX7_hide 27 = .ok (.iconst 1, 1) := by decide +kernel
theorem dX7_hide_28 : decode cX7_hide 28 = .ok (.aload_n 0, 1) := by decide +kernel
theorem dX7_hide_29 : decode cX7_hide 29 = .ok (.iload_n 1, 1) := by decide +kernel
theorem dX7_hide_30 : decode cX7_hide 30 = .ok (.bipush 10, 2) := by decide +kernel
theorem dX7_hide_32 : decode cX7_hide 32 = .ok (.invokevirtual 157, 3) := by decide +kernel
theorem dX7_hide_35 : decode cX7_hide 35 = .ok (.isub, 1) := by decide +kernel
theorem dX7_hide_36 : decode cX7_hide 36 = .ok (.iastore, 1) := by decide +kernel
theorem dX7_hide_37 : decode cX7_hide 37 = .ok (.aload_n 0, 1) := by decide +kernel
theorem dX7_hide_38 : decode cX7_hide 38 = .ok (.iload_n 1, 1) := by decide +kernel
theorem dX7_hide_39 : decode cX7_hide 39 = .ok (.bipush 10, 2) := by decide +kernel
theorem dX7_hide_41 : decode cX7_hide 41 = .ok (.invokevirtual 157, 3) := by decide +kernel
theorem dX7_hide_44 : decode cX7_hide 44 = .ok (.ireturn, 1) := by decide +kernel
theorem dX7_set_0 : decode cX7_set 0 = .ok (.iload_n 1, 1) := by decide +kernel
theorem dX7_set_1 : decode cX7_set 1 = .ok (.ifCond .ne 9, 3) := by decide +kernel
theorem dX7_set_4 : decode cX7_set 4 = .ok (.sipush 999, 3) := by decide +kernel
theorem dX7_set_7 : decode cX7_set 7 = .ok (.goto 37, 3) := by decide +kernel
theorem dX7_set_10 : decode cX7_set 10 = .ok (.iload_n 1, 1) := by decide +kernel
theorem dX7_set_11 : decode cX7_set 11 = .ok (.iconst 1, 1) := by decide +kernel
theorem dX7_set_12 : decode cX7_set 12 = .ok (.if_icmp .eq 8, 3) := by decide +kernel
theorem dX7_set_15 : decode cX7_set 15 = .ok (.iload_n 1, 1) := by decide +kernel
theorem dX7_set_16 : decode cX7_set 16 = .ok (.iconst 2, 1) := by decide +kernel
theorem dX7_set_17 : decode cX7_set 17 = .ok (.if_icmp .ne 8, 3) := by decide +kernel
theorem dX7_set_20 : decode cX7_set 20 = .ok (.bipush 40, 2) := by decide +kernel
theorem dX7_set_22 : decode cX7_set 22 = .ok (.goto 22, 3) := by decide +kernel
theorem dX7_set_25 : decode cX7_set 25 = .ok (.iload_n 1, 1) := by decide +kernel
theorem dX7_set_26 : decode cX7_set 26 = .ok (.iconst 4, 1) := by decide +kernel
theorem dX7_set_27 : decode cX7_set 27 = .ok (.if_icmp .ne 7, 3) := by decide +kernel
theorem dX7_set_30 : decode cX7_set 30 = .ok (.iconst 5, 1) := by decide +kernel
theorem dX7_set_31 : decode cX7_set 31 = .ok (.goto 13, 3) := by decide +kernel
theorem dX7_set_34 : decode cX7_set 34 = .ok (.iload_n 1, 1) := by decide +kernel
theorem dX7_set_35 : decode cX7_set 35 = .ok (.iconst 5, 1) := by decide +kernel
theorem dX7_set_36 : decode cX7_set 36 = .ok (.if_icmp .ne 7, 3) := by decide +kernel
theorem dX7_set_39 : decode cX7_set 39 = .ok (.iconst 3, 1) := by decide +kernel
theorem dX7_set_40 : decode cX7_set 40 = .ok (.goto 4, 3) := by decide +kernel
theorem dX7_set_43 : decode cX7_set 43 = .ok (.iconst 1, 1) := by decide +kernel
theorem dX7_set_44 : decode cX7_set 44 = .ok (.istore_n 3, 1) := by decide +kernel
theorem dX7_set_45 : decode cX7_set 45 = .ok (.iload_n 1, 1) := by decide +kernel
theorem dX7_set_46 : decode cX7_set 46 = .ok (.iconst 0, 1) := by decide +kernel
theorem dX7_set_47 : decode cX7_set 47 = .ok (.bipush 6, 2) := by decide +kernel
theorem dX7_set_49 : decode cX7_set 49 = .ok (.invokestatic 75, 3) := by decide +kernel
theorem dX7_set_52 : decode cX7_set 52 = .ok (.ifCond .eq 21, 3) := by decide +kernel
theorem dX7_set_55 : decode cX7_set 55 = .ok (.iload_n 2, 1) := by decide +kernel
theorem dX7_set_56 : decode cX7_set 56 = .ok (.iload_n 1, 1) := by decide +kernel
theorem dX7_set_57 : decode cX7_set 57 = .ok (.ifCond .ne 8, 3) := by decide +kernel
theorem dX7_set_60 : decode cX7_set 60 = .ok (.bipush 20, 2) := by decide +kernel
theorem dX7_set_62 : decode cX7_set 62 = .ok (.goto 4, 3) := by decide +kernel
theorem dX7_set_65 : decode cX7_set 65 = .ok (.iconst 0, 1) := by decide +kernel
theorem dX7_set_66 : decode cX7_set 66 = .ok (.iload_n 3, 1) := by decide +kernel
theorem dX7_set_67 : decode cX7_set 67 = .ok (.invokestatic 75, 3) := by decide +kernel
theorem dX7_set_70 : decode cX7_set 70 = .ok (.ifCond .ne 7, 3) := by decide +kernel
theorem dX7_set_73 : decode cX7_set 73 = .ok (.sipush (-1002), 3) := by decide +kernel
theorem dX7_set_76 : decode cX7_set 76 = .ok (.ireturn, 1) := by decide +kernel
theorem dX7_set_77 : decode cX7_set 77 = .ok (.aload_n 0, 1) := by decide +kernel
theorem dX7_set_78 : decode cX7_set 78 = .ok (.invokevirtual 143, 3) := by decide +kernel
theorem dX7_set_81 : decode cX7_set 81 = .ok (.aload_n 0, 1) := by decide +kernel
theorem dX7_set_82 : decode cX7_set 82 = .ok (.getfield 7, 3) := by decide +kernel
theorem dX7_set_85 : decode cX7_set 85 = .ok (.sipush 177, 3) := by decide +kernel
theorem dX7_set_88 : decode cX7_set 88 = .ok (.iload_n 1, 1) := by decide +kernel
theorem dX7_set_89 : decode cX7_set 89 = .ok (.iadd, 1) := by decide +kernel
theorem dX7_set_90 : decode cX7_set 90 = .ok (.iaload, 1) := by decide +kernel
theorem dX7_set_91 : decode cX7_set 91 = .ok (.istore 4, 2) := by decide +kernel
theorem dX7_set_93 : decode cX7_set 93 = .ok (.aload_n 0, 1) := by decide +kernel
theorem dX7_set_94 : decode cX7_set 94 = .ok (.getfield 7, 3) := by decide +kernel
theorem dX7_set_97 : decode cX7_set 97 = .ok (.sipush 177, 3) := by decide +kernel
theorem dX7_set_100 : decode cX7_set 100 = .ok (.iload_n 1, 1) := by decide +kernel
theorem dX7_set_101 : decode cX7_set 101 = .ok (.iadd, 1) := by decide +kernel
theorem dX7_set_102 : decode cX7_set 102 = .ok (.iload_n 2, 1) := by decide +kernel
theorem dX7_set_103 : decode cX7_set 103 = .ok (.iastore, 1) := by decide +kernel
theorem dX7_set_104 : decode cX7_set 104 = .ok (.iload 4, 2) := by decide +kernel
theorem dX7_set_106 : decode cX7_set 106 = .ok (.ireturn, 1) := by decide +kernel
theorem dX7_greatest_0 : decode cX7_greatest 0 = .ok (.aload_n 0, 1) := by decide +kernel
theorem dX7_greatest_1 : decode cX7_greatest 1 = .ok (.iload_n 1, 1) := by decide +kernel
theorem dX7_greatest_2 : decode cX7_greatest 2 = .ok (.iconst 3, 1) := by decide +kernel
theorem dX7_greatest_3 : decode cX7_greatest 3 = .ok (.invokevirtual 157, 3) := by decide +kernel
theorem dX7_greatest_6 : decode cX7_greatest 6 = .ok (.aload_n 0, 1) := by decide +kernel
theorem dX7_greatest_7 : decode cX7_greatest 7 = .ok (.iload_n 1, 1) := by decide +kernel
theorem dX7_greatest_8 : decode cX7_greatest 8 = .ok (.iconst 4, 1) := by decide +kernel
theorem dX7_greatest_9 : decode cX7_greatest 9 = .ok (.invokevirtual 157, 3) := by decide +kernel
theorem dX7_greatest_12 : decode cX7_greatest 12 = .ok (.invokestatic 167, 3) := by decide +kernel
theorem dX7_greatest_15 : decode cX7_greatest 15 = .ok (.ireturn, 1) := by decide +kernel
theorem dX7_wish_0 : decode cX7_wish 0 = .ok (.aload_n 0, 1) := by decide +kernel
theorem dX7_wish_1 : decode cX7_wish 1 = .ok (.iload_n 1, 1) := by decide +kernel
theorem dX7_wish_2 : decode cX7_wish 2 = .ok (.iconst 0, 1) := by decide +kernel
theorem dX7_wish_3 : decode cX7_wish 3 = .ok (.invokevirtual 157, 3) := by decide +kernel
theorem dX7_wish_6 : decode cX7_wish 6 = .ok (.aload_n 0, 1) := by decide +kernel
theorem dX7_wish_7 : decode cX7_wish 7 = .ok (.iload_n 1, 1) := by decide +kernel
theorem dX7_wish_8 : decode cX7_wish 8 = .ok (.iconst 3, 1) := by decide +kernel
theorem dX7_wish_9 : decode cX7_wish 9 = .ok (.invokevirtual 157, 3) := by decide +kernel
theorem dX7_wish_12 : decode cX7_wish 12 = .ok (.invokestatic 167, 3) := by decide +kernel
theorem dX7_wish_15 : decode cX7_wish 15 = .ok (.aload_n 0, 1) := by decide +kernel
theorem dX7_wish_16 : decode cX7_wish 16 = .ok (.iload_n 1, 1) := by decide +kernel
theorem dX7_wish_17 : decode cX7_wish 17 = .ok (.invokevirtual 170, 3) := by decide +kernel
theorem dX7_wish_20 : decode cX7_wish 20 = .ok (.invokestatic 173, 3) := by decide +kernel
theorem dX7_wish_23 : decode cX7_wish 23 = .ok (.ireturn, 1) := by decide +kernel
theorem dX7_orders_0 : decode cX7_orders 0 = .ok (.aload_n 0, 1) := by decide +kernel
theorem dX7_orders_1 : decode cX7_orders 1 = .ok (.iconst 0, 1) := by decide +kernel
theorem dX7_orders_2 : decode cX7_orders 2 = .ok (.putfield 176, 3) := by decide +kernel
theorem dX7_orders_5 : decode cX7_orders 5 = .ok (.iconst 0, 1) := by decide +kernel
theorem dX7_orders_6 : decode cX7_orders 6 = .ok (.istore_n 1, 1) := by decide +kernel
theorem dX7_orders_7 : decode cX7_orders 7 = .ok (.iload_n 1, 1) := by decide +kernel
theorem dX7_orders_8 : decode cX7_orders 8 = .ok (.aload_n 0, 1) := by decide +kernel
theorem dX7_orders_9 : decode cX7_orders 9 = .ok (.getfield 7, 3) := by decide +kernel
theorem dX7_orders_12 : decode cX7_orders 12 = .ok (.sipush 176, 3) := by decide +kernel
theorem dX7_orders_15 : decode cX7_orders 15 = .ok (.iaload, 1) := by decide +kernel
theorem dX7_orders_16 : decode cX7_orders 16 = .ok (.if_icmp .ge 89, 3) := by decide +kernel
theorem dX7_orders_19 : decode cX7_orders 19 = .ok (.aload_n 0, 1) := by decide +kernel
theorem dX7_orders_20 : decode cX7_orders 20 = .ok (.iload_n 1, 1) := by decide +kernel
theorem dX7_orders_21 : decode cX7_orders 21 = .ok (.bipush 10, 2) := by decide +kernel
theorem dX7_orders_23 : decode cX7_orders 23 = .ok (.invokevirtual 157, 3) := by decide +kernel
theorem dX7_orders_26 : decode cX7_orders 26 = .ok (.ifCond .ne 73, 3) := by decide +kernel
theorem dX7_orders_29 : decode cX7_orders 29 = .ok (.aload_n 0, 1) := by decide +kernel
theorem dX7_orders_30 : decode cX7_orders 30 = .ok (.getfield 176, 3) := by decide +kernel
theorem dX7_orders_33 : decode cX7_orders 33 = .ok (.istore_n 2, 1) := by decide +kernel
theorem dX7_orders_34 : decode cX7_orders 34 = .ok (.iload_n 2, 1) := by decide +kernel
theorem dX7_orders_35 : decode cX7_orders 35 = .ok (.ifCond .le 47, 3) := by decide +kernel
theorem dX7_orders_38 : decode cX7_orders 38 = .ok (.aload_n 0, 1) := by decide +kernel
theorem dX7_orders_39 : decode cX7_orders 39 = .ok (.aload_n 0, 1) := by decide +kernel
theorem dX7_orders_40 : decode cX7_orders 40 = .ok (.getfield 22, 3) := by decide +kernel
theorem dX7_orders_43 : decode cX7_orders 43 = .ok (.iload_n 2, 1) := by decide +kernel
theorem dX7_orders_44 : decode cX7_orders 44 = .ok (.iconst 1, 1) := by decide +kernel
theorem dX7_orders_45 : decode cX7_orders 45 = .ok (.isub, 1) := by decide +kernel
theorem dX7_orders_46 : decode cX7_orders 46 = .ok (.iaload, 1) := by decide +kernel
theorem dX7_orders_47 : decode cX7_orders 47 = .ok (.bipush 6, 2) := by decide +kernel
theorem dX7_orders_49 : decode cX7_orders 49 = .ok (.invokevirtual 157, 3) := by decide +kernel
theorem dX7_orders_52 : decode cX7_orders 52 = .ok (.aload_n 0, 1) := by decide +kernel
theorem dX7_orders_53 : decode cX7_orders 53 = .ok (.iload_n 1, 1) := by decide +kernel
theorem dX7_orders_54 : decode cX7_orders 54 = .ok (.bipush 6, 2) := by decide +kernel
theorem dX7_orders_56 : decode cX7_orders 56 = .ok (.invokevirtual 157, 3) := by decide +kernel
theorem dX7_orders_59 : decode cX7_orders 59 = .ok (.if_icmp .le 23, 3) := by decide +kernel
theorem dX7_orders_62 : decode cX7_orders 62 = .ok (.aload_n 0, 1) := by decide +kernel
theorem dX7_orders_63 : decode cX7_orders 63 = .ok (.getfield 22, 3) := by decide +kernel
theorem dX7_orders_66 : decode cX7_orders 66 = .ok (.iload_n 2, 1) := by decide +kernel
theorem dX7_orders_67 : decode cX7_orders 67 = .ok (.aload_n 0, 1) := by decide +kernel
theorem dX7_orders_68 : decode cX7_orders 68 = .ok (.getfield 22, 3) := by decide +kernel
theorem dX7_orders_71 : decode cX7_orders 71 = .ok (.iload_n 2, 1) := by decide +kernel
theorem dX7_orders_72 : decode cX7_orders 72 = .ok (.iconst 1, 1) := by decide +kernel
theorem dX7_orders_73 : decode cX7_orders 73 = .ok (.isub, 1) := by decide +kernel
theorem dX7_orders_74 : decode cX7_orders 74 = .ok (.iaload, 1) := by decide +kernel
theorem dX7_orders_75 : decode cX7_orders 75 = .ok (.iastore, 1) := by decide +kernel
theorem dX7_orders_76 : decode cX7_orders 76 = .ok (.iinc 2 (-1), 3) := by decide +kernel
theorem dX7_orders_79 : decode cX7_orders 79 = .ok (.goto (-45), 3) := by decide +kernel
theorem dX7_orders_82 : decode cX7_orders 82 = .ok (.aload_n 0, 1) := by decide +kernel
theorem dX7_orders_83 : decode cX7_orders 83 = .ok (.getfield 22, 3) := by decide +kernel
theorem dX7_orders_86 : decode cX7_orders 86 = .ok (.iload_n 2, 1) := by decide +kernel
theorem dX7_orders_87 : decode cX7_orders 87 = .ok (.iload_n 1, 1) := by decide +kernel
theorem dX7_orders_88 : decode cX7_orders 88 = .ok (.iastore, 1) := by decide +kernel
theorem dX7_orders_89 : decode cX7_orders 89 = .ok (.aload_n 0, 1) := by decide +kernel
theorem dX7_orders_90 : decode cX7_orders 90 = .ok (.dup, 1) := by decide +kernel
theorem dX7_orders_91 : decode cX7_orders 91 = .ok (.getfield 176, 3) := by decide +kernel
theorem dX7_orders_94 : decode cX7_orders 94 = .ok (.iconst 1, 1) := by decide +kernel
theorem dX7_orders_95 : decode cX7_orders 95 = .ok (.iadd, 1) := by decide +kernel
theorem dX7_orders_96 : decode cX7_orders 96 = .ok (.putfield 176, 3) := by decide +kernel
theorem dX7_orders_99 : decode cX7_orders 99 = .ok (.iinc 1 1, 3) := by decide +kernel
theorem dX7_orders_102 : decode cX7_orders 102 = .ok (.goto (-95), 3) := by decide +kernel
theorem dX7_orders_105 : decode cX7_orders 105 = .ok (.return_, 1) := by decide +kernel
theorem dX7_placeOf_0 : decode cX7_placeOf 0 = .ok (.iconst 0, 1) := by decide +kernel
theorem dX7_placeOf_1 : decode cX7_placeOf 1 = .ok (.istore_n 2, 1) := by decide +kernel
theorem dX7_placeOf_2 : decode cX7_placeOf 2 = .ok (.iload_n 2, 1) := by decide +kernel
theorem dX7_placeOf_3 : decode cX7_placeOf 3 = .ok (.aload_n 0, 1) := by decide +kernel
theorem dX7_placeOf_4 : decode cX7_placeOf 4 = .ok (.getfield 176, 3) := by decide +kernel
theorem dX7_placeOf_7 : decode cX7_placeOf 7 = .ok (.if_icmp .ge 21, 3) := by decide +kernel
theorem dX7_placeOf_10 : decode cX7_placeOf 10 = .ok (.aload_n 0, 1) := by decide +kernel
theorem dX7_placeOf_11 : decode cX7_placeOf 11 = .ok (.getfield 22, 3) := by decide +kernel
theorem dX7_placeOf_14 : decode cX7_placeOf 14 = .ok (.iload_n 2, 1) := by decide +kernel
theorem dX7_placeOf_15 : decode cX7_placeOf 15 = .ok (.iaload, 1) := by decide +kernel
theorem dX7_placeOf_16 : decode cX7_placeOf 16 = .ok (.iload_n 1, 1) := by decide +kernel
theorem dX7_placeOf_17 : decode cX7_placeOf 17 = .ok (.if_icmp .ne 5, 3) := by decide +kernel
theorem dX7_placeOf_20 : decode cX7_placeOf 20 = .ok (.iload_n 2, 1) := by decide +kernel
theorem dX7_placeOf_21 : decode cX7_placeOf 21 = .ok (.ireturn, 1) := by decide +kernel
theorem dX7_placeOf_22 : decode cX7_placeOf 22 = .ok (.iinc 2 1, 3) := by decide +kernel
theorem dX7_placeOf_25 : decode cX7_placeOf 25 = .ok (.goto (-23), 3) := by decide +kernel
theorem dX7_placeOf_28 : decode cX7_placeOf 28 = .ok (.sipush (-1001), 3) := by decide +kernel
theorem dX7_placeOf_31 : decode cX7_placeOf 31 = .ok (.ireturn, 1) := by decide +kernel
theorem dX7_outerWish_0 : decode cX7_outerWish 0 = .ok (.aload_n 0, 1) := by decide +kernel
theorem dX7_outerWish_1 : decode cX7_outerWish 1 = .ok (.aload_n 0, 1) := by decide +kernel
theorem dX7_outerWish_2 : decode cX7_outerWish 2 = .ok (.getfield 22, 3) := by decide +kernel
theorem dX7_outerWish_5 : decode cX7_outerWish 5 = .ok (.iload_n 1, 1) := by decide +kernel
theorem dX7_outerWish_6 : decode cX7_outerWish 6 = .ok (.iaload, 1) := by decide +kernel
theorem dX7_outerWish_7 : decode cX7_outerWish 7 = .ok (.invokevirtual 179, 3) := by decide +kernel
theorem dX7_outerWish_10 : decode cX7_outerWish 10 = .ok (.iconst 2, 1) := by decide +kernel
theorem dX7_outerWish_11 : decode cX7_outerWish 11 = .ok (.aload_n 0, 1) := by decide +kernel
theorem dX7_outerWish_12 : decode cX7_outerWish 12 = .ok (.aload_n 0, 1) := by decide +kernel
theorem dX7_outerWish_13 : decode cX7_outerWish 13 = .ok (.getfield 22, 3) := by decide +kernel
theorem dX7_outerWish_16 : decode cX7_outerWish 16 = .ok (.iload_n 1, 1) := by decide +kernel
theorem dX7_outerWish_17 : decode cX7_outerWish 17 = .ok (.iaload, 1) := by decide +kernel
theorem dX7_outerWish_18 : decode cX7_outerWish 18 = .ok (.iconst 5, 1) := by decide +kernel
theorem dX7_outerWish_19 : decode cX7_outerWish 19 = .ok (.invokevirtual 157, 3) := by decide +kernel
theorem dX7_outerWish_22 : decode cX7_outerWish 22 = .ok (.imul, 1) := by decide +kernel
theorem dX7_outerWish_23 : decode cX7_outerWish 23 = .ok (.iadd, 1) := by decide +kernel
theorem dX7_outerWish_24 : decode cX7_outerWish 24 = .ok (.ireturn, 1) := by decide +kernel
theorem dX7_wraps_0 : decode cX7_wraps 0 = .ok (.aload_n 0, 1) := by decide +kernel
theorem dX7_wraps_1 : decode cX7_wraps 1 = .ok (.iconst 0, 1) := by decide +kernel
theorem dX7_wraps_2 : decode cX7_wraps 2 = .ok (.putfield 182, 3) := by decide +kernel
theorem dX7_wraps_5 : decode cX7_wraps 5 = .ok (.iconst 0, 1) := by decide +kernel
theorem dX7_wraps_6 : decode cX7_wraps 6 = .ok (.istore_n 2, 1) := by decide +kernel
theorem dX7_wraps_7 : decode cX7_wraps 7 = .ok (.iconst 0, 1) := by decide +kernel
theorem dX7_wraps_8 : decode cX7_wraps 8 = .ok (.istore_n 3, 1) := by decide +kernel
theorem dX7_wraps_9 : decode cX7_wraps 9 = .ok (.iload_n 3, 1) := by decide +kernel
theorem dX7_wraps_10 : decode cX7_wraps 10 = .ok (.aload_n 0, 1) := by decide +kernel
theorem dX7_wraps_11 : decode cX7_wraps 11 = .ok (.getfield 176, 3) := by decide +kernel
theorem dX7_wraps_14 : decode cX7_wraps 14 = .ok (.if_icmp .ge 99, 3) := by decide +kernel
theorem dX7_wraps_17 : decode cX7_wraps 17 = .ok (.iload_n 2, 1) := by decide +kernel
theorem dX7_wraps_18 : decode cX7_wraps 18 = .ok (.aload_n 0, 1) := by decide +kernel
theorem dX7_wraps_19 : decode cX7_wraps 19 = .ok (.getfield 7, 3) := by decide +kernel
theorem dX7_wraps_22 : decode cX7_wraps 22 = .ok (.sipush 178, 3) := by decide +kernel
theorem dX7_wraps_25 : decode cX7_wraps 25 = .ok (.iaload, 1) := by decide +kernel
theorem dX7_wraps_26 : decode cX7_wraps 26 = .ok (.aload_n 0, 1) := by decide +kernel
theorem dX7_wraps_27 : decode cX7_wraps 27 = .ok (.iload_n 3, 1) := by decide +kernel
theorem dX7_wraps_28 : decode cX7_wraps 28 = .ok (.invokevirtual 185, 3) := by decide +kernel
theorem dX7_wraps_31 : decode cX7_wraps 31 = .ok (.iadd, 1) := by decide +kernel
theorem dX7_wraps_32 : decode cX7_wraps 32 = .ok (.iadd, 1) := by decide +kernel
theorem dX7_wraps_33 : decode cX7_wraps 33 = .ok (.istore_n 2, 1) := by decide +kernel
theorem dX7_wraps_34 : decode cX7_wraps 34 = .ok (.iload_n 3, 1) := by decide +kernel
theorem dX7_wraps_35 : decode cX7_wraps 35 = .ok (.ifCond .eq 20, 3) := by decide +kernel
theorem dX7_wraps_38 : decode cX7_wraps 38 = .ok (.aload_n 0, 1) := by decide +kernel
theorem dX7_wraps_39 : decode cX7_wraps 39 = .ok (.getfield 7, 3) := by decide +kernel
theorem dX7_wraps_42 : decode cX7_wraps 42 = .ok (.sipush 180, 3) := by decide +kernel
theorem dX7_wraps_45 : decode cX7_wraps 45 = .ok (.iaload, 1) := by decide +kernel
theorem dX7_wraps_46 : decode cX7_wraps 46 = .ok (.iconst 1, 1) := by decide +kernel
theorem dX7_wraps_47 : decode cX7_wraps 47 = .ok (.if_icmp .ne 34, 3) := by decide +kernel
theorem dX7_wraps_50 : decode cX7_wraps 50 = .ok (.iload_n 2, 1) := by decide +kernel
theorem dX7_wraps_51 : decode cX7_wraps 51 = .ok (.iload_n 1, 1) := by decide +kernel
theorem dX7_wraps_52 : decode cX7_wraps 52 = .ok (.if_icmp .le 29, 3) := by decide +kernel
theorem dX7_wraps_55 : decode cX7_wraps 55 = .ok (.aload_n 0, 1) := by decide +kernel
theorem dX7_wraps_56 : decode cX7_wraps 56 = .ok (.getfield 28, 3) := by decide +kernel
theorem dX7_wraps_59 : decode cX7_wraps 59 = .ok (.aload_n 0, 1) := by decide +kernel
theorem dX7_wraps_60 : decode cX7_wraps 60 = .ok (.getfield 182, 3) := by decide +kernel
theorem dX7_wraps_63 : decode cX7_wraps 63 = .ok (.iload_n 3, 1) := by decide +kernel
theorem dX7_wraps_64 : decode cX7_wraps 64 = .ok (.iastore, 1) := by decide +kernel
theorem dX7_wraps_65 : decode cX7_wraps 65 = .ok (.aload_n 0, 1) := by decide +kernel
theorem dX7_wraps_66 : decode cX7_wraps 66 = .ok (.dup, 1) := by decide +kernel
theorem dX7_wraps_67 : decode cX7_wraps 67 = .ok (.getfield 182, 3) := by decide +kernel
theorem dX7_wraps_70 : decode cX7_wraps 70 = .ok (.iconst 1, 1) := by decide +kernel
theorem dX7_wraps_71 : decode cX7_wraps 71 = .ok (.iadd, 1) := by decide +kernel
theorem dX7_wraps_72 : decode cX7_wraps 72 = .ok (.putfield 182, 3) := by decide +kernel
theorem dX7_wraps_75 : decode cX7_wraps 75 = .ok (.aload_n 0, 1) := by decide +kernel
theorem dX7_wraps_76 : decode cX7_wraps 76 = .ok (.iload_n 3, 1) := by decide +kernel
theorem dX7_wraps_77 : decode cX7_wraps 77 = .ok (.invokevirtual 185, 3) := by decide +kernel
theorem dX7_wraps_80 : decode cX7_wraps 80 = .ok (.istore_n 2, 1) := by decide +kernel
theorem dX7_wraps_81 : decode cX7_wraps 81 = .ok (.aload_n 0, 1) := by decide +kernel
theorem dX7_wraps_82 : decode cX7_wraps 82 = .ok (.getfield 25, 3) := by decide +kernel
theorem dX7_wraps_85 : decode cX7_wraps 85 = .ok (.iload_n 3, 1) := by decide +kernel
theorem dX7_wraps_86 : decode cX7_wraps 86 = .ok (.aload_n 0, 1) := by decide +kernel
theorem dX7_wraps_87 : decode cX7_wraps 87 = .ok (.getfield 182, 3) := by decide +kernel
theorem dX7_wraps_90 : decode cX7_wraps 90 = .ok (.iconst 1, 1) := by decide +kernel
theorem dX7_wraps_91 : decode cX7_wraps 91 = .ok (.isub, 1) := by decide +kernel
theorem dX7_wraps_92 : decode cX7_wraps 92 = .ok (.iastore, 1) := by decide +kernel
theorem dX7_wraps_93 : decode cX7_wraps 93 = .ok (.aload_n 0, 1) := by decide +kernel
theorem dX7_wraps_94 : decode cX7_wraps 94 = .ok (.getfield 31, 3) := by decide +kernel
theorem dX7_wraps_97 : decode cX7_wraps 97 = .ok (.aload_n 0, 1) := by decide +kernel
theorem dX7_wraps_98 : decode cX7_wraps 98 = .ok (.getfield 182, 3) := by decide +kernel
theorem dX7_wraps_101 : decode cX7_wraps 101 = .ok (.iconst 1, 1) := by decide +kernel
theorem dX7_wraps_102 : decode cX7_wraps 102 = .ok (.isub, 1) := by decide +kernel
theorem dX7_wraps_103 : decode cX7_wraps 103 = .ok (.iload_n 3, 1) := by decide +kernel
theorem dX7_wraps_104 : decode cX7_wraps 104 = .ok (.iconst 1, 1) := by decide +kernel
theorem dX7_wraps_105 : decode cX7_wraps 105 = .ok (.iadd, 1) := by decide +kernel
theorem dX7_wraps_106 : decode cX7_wraps 106 = .ok (.iastore, 1) := by decide +kernel
theorem dX7_wraps_107 : decode cX7_wraps 107 = .ok (.iinc 3 1, 3) := by decide +kernel
theorem dX7_wraps_110 : decode cX7_wraps 110 = .ok (.goto (-101), 3) := by decide +kernel
theorem dX7_wraps_113 : decode cX7_wraps 113 = .ok (.return_, 1) := by decide +kernel
theorem dX7_weight_0 : decode cX7_weight 0 = .ok (.iload_n 2, 1) := by decide +kernel
theorem dX7_weight_1 : decode cX7_weight 1 = .ok (.ifCond .eq 12, 3) := by decide +kernel
theorem dX7_weight_4 : decode cX7_weight 4 = .ok (.aload_n 0, 1) := by decide +kernel
theorem dX7_weight_5 : decode cX7_weight 5 = .ok (.iload_n 1, 1) := by decide +kernel
theorem dX7_weight_6 : decode cX7_weight 6 = .ok (.iconst 1, 1) := by decide +kernel
theorem dX7_weight_7 : decode cX7_weight 7 = .ok (.invokevirtual 157, 3) := by decide +kernel
theorem dX7_weight_10 : decode cX7_weight 10 = .ok (.goto 16, 3) := by decide +kernel
theorem dX7_weight_13 : decode cX7_weight 13 = .ok (.aload_n 0, 1) := by decide +kernel
theorem dX7_weight_14 : decode cX7_weight 14 = .ok (.iload_n 1, 1) := by decide +kernel
theorem dX7_weight_15 : decode cX7_weight 15 = .ok (.iconst 2, 1) := by decide +kernel
theorem dX7_weight_16 : decode cX7_weight 16 = .ok (.invokevirtual 157, 3) := by decide +kernel
theorem dX7_weight_19 : decode cX7_weight 19 = .ok (.aload_n 0, 1) := by decide +kernel
theorem dX7_weight_20 : decode cX7_weight 20 = .ok (.iload_n 1, 1) := by decide +kernel
theorem dX7_weight_21 : decode cX7_weight 21 = .ok (.iconst 0, 1) := by decide +kernel
theorem dX7_weight_22 : decode cX7_weight 22 = .ok (.invokevirtual 157, 3) := by decide +kernel
theorem dX7_weight_25 : decode cX7_weight 25 = .ok (.imul, 1) := by decide +kernel
theorem dX7_weight_26 : decode cX7_weight 26 = .ok (.ireturn, 1) := by decide +kernel
theorem dX7_share_0 : decode cX7_share 0 = .ok (.aload_n 0, 1) := by decide +kernel
theorem dX7_share_1 : decode cX7_share 1 = .ok (.getfield 47, 3) := by decide +kernel
theorem dX7_share_4 : decode cX7_share 4 = .ok (.iload_n 1, 1) := by decide +kernel
theorem dX7_share_5 : decode cX7_share 5 = .ok (.iaload, 1) := by decide +kernel
theorem dX7_share_6 : decode cX7_share 6 = .ok (.istore_n 2, 1) := by decide +kernel
theorem dX7_share_7 : decode cX7_share 7 = .ok (.aload_n 0, 1) := by decide +kernel
theorem dX7_share_8 : decode cX7_share 8 = .ok (.getfield 28, 3) := by decide +kernel
theorem dX7_share_11 : decode cX7_share 11 = .ok (.iload_n 1, 1) := by decide +kernel
theorem dX7_share_12 : decode cX7_share 12 = .ok (.iaload, 1) := by decide +kernel
theorem dX7_share_13 : decode cX7_share 13 = .ok (.istore_n 3, 1) := by decide +kernel
theorem dX7_share_14 : decode cX7_share 14 = .ok (.iload_n 3, 1) := by decide +kernel
theorem dX7_share_15 : decode cX7_share 15 = .ok (.aload_n 0, 1) := by decide +kernel
theorem dX7_share_16 : decode cX7_share 16 = .ok (.getfield 31, 3) := by decide +kernel
theorem dX7_share_19 : decode cX7_share 19 = .ok (.iload_n 1, 1) := by decide +kernel
theorem dX7_share_20 : decode cX7_share 20 = .ok (.iaload, 1) := by decide +kernel
theorem dX7_share_21 : decode cX7_share 21 = .ok (.if_icmp .ge 41, 3) := by decide +kernel
theorem dX7_share_24 : decode cX7_share 24 = .ok (.iload_n 2, 1) := by decide +kernel
theorem dX7_share_25 : decode cX7_share 25 = .ok (.aload_n 0, 1) := by decide +kernel
theorem dX7_share_26 : decode cX7_share 26 = .ok (.getfield 43, 3) := by decide +kernel
theorem dX7_share_29 : decode cX7_share 29 = .ok (.iload_n 3, 1) := by decide +kernel
theorem dX7_share_30 : decode cX7_share 30 = .ok (.baload, 1) := by decide +kernel
theorem dX7_share_31 : decode cX7_share 31 = .ok (.ifCond .eq 12, 3) := by decide +kernel
theorem dX7_share_34 : decode cX7_share 34 = .ok (.aload_n 0, 1) := by decide +kernel
theorem dX7_share_35 : decode cX7_share 35 = .ok (.getfield 34, 3) := by decide +kernel
theorem dX7_share_38 : decode cX7_share 38 = .ok (.iload_n 3, 1) := by decide +kernel
theorem dX7_share_39 : decode cX7_share 39 = .ok (.iaload, 1) := by decide +kernel
theorem dX7_share_40 : decode cX7_share 40 = .ok (.goto 14, 3) := by decide +kernel
theorem dX7_share_43 : decode cX7_share 43 = .ok (.aload_n 0, 1) := by decide +kernel
theorem dX7_share_44 : decode cX7_share 44 = .ok (.aload_n 0, 1) := by decide +kernel
theorem dX7_share_45 : decode cX7_share 45 = .ok (.getfield 22, 3) := by decide +kernel
theorem dX7_share_48 : decode cX7_share 48 = .ok (.iload_n 3, 1) := by decide +kernel
theorem dX7_share_49 : decode cX7_share 49 = .ok (.iaload, 1) := by decide +kernel
theorem dX7_share_50 : decode cX7_share 50 = .ok (.iconst 0, 1) := by decide +kernel
theorem dX7_share_51 : decode cX7_share 51 = .ok (.invokevirtual 157, 3) := by decide +kernel
theorem dX7_share_54 : decode cX7_share 54 = .ok (.isub, 1) := by decide +kernel
theorem dX7_share_55 : decode cX7_share 55 = .ok (.istore_n 2, 1) := by decide +kernel
theorem dX7_share_56 : decode cX7_share 56 = .ok (.iinc 3 1, 3) := by decide +kernel
theorem dX7_share_59 : decode cX7_share 59 = .ok (.goto (-45), 3) := by decide +kernel
theorem dX7_share_62 : decode cX7_share 62 = .ok (.iconst 0, 1) := by decide +kernel
theorem dX7_share_63 : decode cX7_share 63 = .ok (.aload_n 0, 1) := by decide +kernel
theorem dX7_share_64 : decode cX7_share 64 = .ok (.getfield 56, 3) := by decide +kernel
theorem dX7_share_67 : decode cX7_share 67 = .ok (.iload_n 1, 1) := by decide +kernel
theorem dX7_share_68 : decode cX7_share 68 = .ok (.baload, 1) := by decide +kernel
theorem dX7_share_69 : decode cX7_share 69 = .ok (.ifCond .eq 7, 3) := by decide +kernel
theorem dX7_share_72 : decode cX7_share 72 = .ok (.iload_n 2, 1) := by decide +kernel
theorem dX7_share_73 : decode cX7_share 73 = .ok (.goto 5, 3) := by decide +kernel
theorem dX7_share_76 : decode cX7_share 76 = .ok (.iload_n 2, 1) := by decide +kernel
theorem dX7_share_77 : decode cX7_share 77 = .ok (.ineg, 1) := by decide +kernel
theorem dX7_share_78 : decode cX7_share 78 = .ok (.invokestatic 167, 3) := by decide +kernel
theorem dX7_share_81 : decode cX7_share 81 = .ok (.ireturn, 1) := by decide +kernel
theorem dX7_isLeft_0 : decode cX7_isLeft 0 = .ok (.iconst 0, 1) := by decide +kernel
theorem dX7_isLeft_1 : decode cX7_isLeft 1 = .ok (.istore_n 2, 1) := by decide +kernel
theorem dX7_isLeft_2 : decode cX7_isLeft 2 = .ok (.aload_n 0, 1) := by decide +kernel
theorem dX7_isLeft_3 : decode cX7_isLeft 3 = .ok (.getfield 28, 3) := by decide +kernel
theorem dX7_isLeft_6 : decode cX7_isLeft 6 = .ok (.iload_n 1, 1) := by decide +kernel
theorem dX7_isLeft_7 : decode cX7_isLeft 7 = .ok (.iaload, 1) := by decide +kernel
theorem dX7_isLeft_8 : decode cX7_isLeft 8 = .ok (.istore_n 3, 1) := by decide +kernel
theorem dX7_isLeft_9 : decode cX7_isLeft 9 = .ok (.iload_n 3, 1) := by decide +kernel
theorem dX7_isLeft_10 : decode cX7_isLeft 10 = .ok (.aload_n 0, 1) := by decide +kernel
theorem dX7_isLeft_11 : decode cX7_isLeft 11 = .ok (.getfield 31, 3) := by decide +kernel
theorem dX7_isLeft_14 : decode cX7_isLeft 14 = .ok (.iload_n 1, 1) := by decide +kernel
theorem dX7_isLeft_15 : decode cX7_isLeft 15 = .ok (.iaload, 1) := by decide +kernel
theorem dX7_isLeft_16 : decode cX7_isLeft 16 = .ok (.if_icmp .ge 28, 3) := by decide +kernel
theorem dX7_isLeft_19 : decode cX7_isLeft 19 = .ok (.iload_n 2, 1) := by decide +kernel
theorem dX7_isLeft_20 : decode cX7_isLeft 20 = .ok (.ifCond .ne 12, 3) := by decide +kernel
theorem dX7_isLeft_23 : decode cX7_isLeft 23 = .ok (.aload_n 0, 1) := by decide +kernel
theorem dX7_isLeft_24 : decode cX7_isLeft 24 = .ok (.getfield 43, 3) := by decide +kernel
theorem dX7_isLeft_27 : decode cX7_isLeft 27 = .ok (.iload_n 3, 1) := by decide +kernel
theorem dX7_isLeft_28 : decode cX7_isLeft 28 = .ok (.baload, 1) := by decide +kernel
theorem dX7_isLeft_29 : decode cX7_isLeft 29 = .ok (.ifCond .ne 7, 3) := by decide +kernel
theorem dX7_isLeft_32 : decode cX7_isLeft 32 = .ok (.iconst 1, 1) := by decide +kernel
theorem dX7_isLeft_33 : decode cX7_isLeft 33 = .ok (.goto 4, 3) := by decide +kernel
theorem dX7_isLeft_36 : decode cX7_isLeft 36 = .ok (.iconst 0, 1) := by decide +kernel
theorem dX7_isLeft_37 : decode cX7_isLeft 37 = .ok (.istore_n 2, 1) := by decide +kernel
theorem dX7_isLeft_38 : decode cX7_isLeft 38 = .ok (.iinc 3 1, 3) := by decide +kernel
theorem dX7_isLeft_41 : decode cX7_isLeft 41 = .ok (.goto (-32), 3) := by decide +kernel
theorem dX7_isLeft_44 : decode cX7_isLeft 44 = .ok (.iload_n 2, 1) := by decide +kernel
theorem dX7_isLeft_45 : decode cX7_isLeft 45 = .ok (.ireturn, 1) := by decide +kernel
theorem dX7_pass_0 : decode cX7_pass 0 = .ok (.aload_n 0, 1) := by decide +kernel
theorem dX7_pass_1 : decode cX7_pass 1 = .ok (.iload_n 1, 1) := by decide +kernel
theorem dX7_pass_2 : decode cX7_pass 2 = .ok (.invokevirtual 188, 3) := by decide +kernel
theorem dX7_pass_5 : decode cX7_pass 5 = .ok (.istore_n 2, 1) := by decide +kernel
theorem dX7_pass_6 : decode cX7_pass 6 = .ok (.iconst 0, 1) := by decide +kernel
theorem dX7_pass_7 : decode cX7_pass 7 = .ok (.istore_n 3, 1) := by decide +kernel
theorem dX7_pass_8 : decode cX7_pass 8 = .ok (.aload_n 0, 1) := by decide +kernel
theorem dX7_pass_9 : decode cX7_pass 9 = .ok (.getfield 28, 3) := by decide +kernel
theorem dX7_pass_12 : decode cX7_pass 12 = .ok (.iload_n 1, 1) := by decide +kernel
theorem dX7_pass_13 : decode cX7_pass 13 = .ok (.iaload, 1) := by decide +kernel
theorem dX7_pass_14 : decode cX7_pass 14 = .ok (.istore 4, 2) := by decide +kernel
theorem dX7_pass_16 : decode cX7_pass 16 = .ok (.iload 4, 2) := by decide +kernel
theorem dX7_pass_18 : decode cX7_pass 18 = .ok (.aload_n 0, 1) := by decide +kernel
theorem dX7_pass_19 : decode cX7_pass 19 = .ok (.getfield 31, 3) := by decide +kernel
theorem dX7_pass_22 : decode cX7_pass 22 = .ok (.iload_n 1, 1) := by decide +kernel
theorem dX7_pass_23 : decode cX7_pass 23 = .ok (.iaload, 1) := by decide +kernel
theorem dX7_pass_24 : decode cX7_pass 24 = .ok (.if_icmp .ge 43, 3) := by decide +kernel
theorem dX7_pass_27 : decode cX7_pass 27 = .ok (.iload_n 3, 1) := by decide +kernel
theorem dX7_pass_28 : decode cX7_pass 28 = .ok (.aload_n 0, 1) := by decide +kernel
theorem dX7_pass_29 : decode cX7_pass 29 = .ok (.getfield 43, 3) := by decide +kernel
theorem dX7_pass_32 : decode cX7_pass 32 = .ok (.iload 4, 2) := by decide +kernel
theorem dX7_pass_34 : decode cX7_pass 34 = .ok (.baload, 1) := by decide +kernel
theorem dX7_pass_35 : decode cX7_pass 35 = .ok (.ifCond .eq 7, 3) := by decide +kernel
theorem dX7_pass_38 : decode cX7_pass 38 = .ok (.iconst 0, 1) := by decide +kernel
theorem dX7_pass_39 : decode cX7_pass 39 = .ok (.goto 20, 3) := by decide +kernel
theorem dX7_pass_42 : decode cX7_pass 42 = .ok (.aload_n 0, 1) := by decide +kernel
theorem dX7_pass_43 : decode cX7_pass 43 = .ok (.aload_n 0, 1) := by decide +kernel
theorem dX7_pass_44 : decode cX7_pass 44 = .ok (.getfield 22, 3) := by decide +kernel
theorem dX7_pass_47 : decode cX7_pass 47 = .ok (.iload 4, 2) := by decide +kernel
theorem dX7_pass_49 : decode cX7_pass 49 = .ok (.iaload, 1) := by decide +kernel
theorem dX7_pass_50 : decode cX7_pass 50 = .ok (.aload_n 0, 1) := by decide +kernel
theorem dX7_pass_51 : decode cX7_pass 51 = .ok (.getfield 56, 3) := by decide +kernel
theorem dX7_pass_54 : decode cX7_pass 54 = .ok (.iload_n 1, 1) := by decide +kernel
theorem dX7_pass_55 : decode cX7_pass 55 = .ok (.baload, 1) := by decide +kernel
theorem dX7_pass_56 : decode cX7_pass 56 = .ok (.invokevirtual 191, 3) := by decide +kernel
theorem dX7_pass_59 : decode cX7_pass 59 = .ok (.iadd, 1) := by decide +kernel
theorem dX7_pass_60 : decode cX7_pass 60 = .ok (.istore_n 3, 1) := by decide +kernel
theorem dX7_pass_61 : decode cX7_pass 61 = .ok (.iinc 4 1, 3) := by decide +kernel
theorem dX7_pass_64 : decode cX7_pass 64 = .ok (.goto (-48), 3) := by decide +kernel
theorem dX7_pass_67 : decode cX7_pass 67 = .ok (.iconst 0, 1) := by decide +kernel
theorem dX7_pass_68 : decode cX7_pass 68 = .ok (.istore 4, 2) := by decide +kernel
theorem dX7_pass_70 : decode cX7_pass 70 = .ok (.iconst 0, 1) := by decide +kernel
theorem dX7_pass_71 : decode cX7_pass 71 = .ok (.istore 5, 2) := by decide +kernel
theorem dX7_pass_73 : decode cX7_pass 73 = .ok (.aload_n 0, 1) := by decide +kernel
theorem dX7_pass_74 : decode cX7_pass 74 = .ok (.getfield 28, 3) := by decide +kernel
theorem dX7_pass_77 : decode cX7_pass 77 = .ok (.iload_n 1, 1) := by decide +kernel
theorem dX7_pass_78 : decode cX7_pass 78 = .ok (.iaload, 1) := by decide +kernel
theorem dX7_pass_79 : decode cX7_pass 79 = .ok (.istore 6, 2) := by decide +kernel
theorem dX7_pass_81 : decode cX7_pass 81 = .ok (.iload 6, 2) := by decide +kernel
theorem dX7_pass_83 : decode cX7_pass 83 = .ok (.aload_n 0, 1) := by decide +kernel
theorem dX7_pass_84 : decode cX7_pass 84 = .ok (.getfield 31, 3) := by decide +kernel
theorem dX7_pass_87 : decode cX7_pass 87 = .ok (.iload_n 1, 1) := by decide +kernel
theorem dX7_pass_88 : decode cX7_pass 88 = .ok (.iaload, 1) := by decide +kernel
theorem dX7_pass_89 : decode cX7_pass 89 = .ok (.if_icmp .ge 172, 3) := by decide +kernel
theorem dX7_pass_92 : decode cX7_pass 92 = .ok (.aload_n 0, 1) := by decide +kernel
theorem dX7_pass_93 : decode cX7_pass 93 = .ok (.getfield 43, 3) := by decide +kernel
theorem dX7_pass_96 : decode cX7_pass 96 = .ok (.iload 6, 2) := by decide +kernel
theorem dX7_pass_98 : decode cX7_pass 98 = .ok (.baload, 1) := by decide +kernel
theorem dX7_pass_99 : decode cX7_pass 99 = .ok (.ifCond .ne 156, 3) := by decide +kernel
theorem dX7_pass_102 : decode cX7_pass 102 = .ok (.aload_n 0, 1) := by decide +kernel
theorem dX7_pass_103 : decode cX7_pass 103 = .ok (.aload_n 0, 1) := by decide +kernel
theorem dX7_pass_104 : decode cX7_pass 104 = .ok (.getfield 22, 3) := by decide +kernel
theorem dX7_pass_107 : decode cX7_pass 107 = .ok (.iload 6, 2) := by decide +kernel
theorem dX7_pass_109 : decode cX7_pass 109 = .ok (.iaload, 1) := by decide +kernel
theorem dX7_pass_110 : decode cX7_pass 110 = .ok (.aload_n 0, 1) := by decide +kernel
theorem dX7_pass_111 : decode cX7_pass 111 = .ok (.getfield 56, 3) := by decide +kernel
theorem dX7_pass_114 : decode cX7_pass 114 = .ok (.iload_n 1, 1) := by decide +kernel
theorem dX7_pass_115 : decode cX7_pass 115 = .ok (.baload, 1) := by decide +kernel
theorem dX7_pass_116 : decode cX7_pass 116 = .ok (.invokevirtual 191, 3) := by decide +kernel
theorem dX7_pass_119 : decode cX7_pass 119 = .ok (.istore 7, 2) := by decide +kernel
theorem dX7_pass_121 : decode cX7_pass 121 = .ok (.iload 4, 2) := by decide +kernel
theorem dX7_pass_123 : decode cX7_pass 123 = .ok (.istore 8, 2) := by decide +kernel
theorem dX7_pass_125 : decode cX7_pass 125 = .ok (.iload 4, 2) := by decide +kernel
theorem dX7_pass_127 : decode cX7_pass 127 = .ok (.iload 7, 2) := by decide +kernel
theorem dX7_pass_129 : decode cX7_pass 129 = .ok (.iadd, 1) := by decide +kernel
theorem dX7_pass_130 : decode cX7_pass 130 = .ok (.istore 4, 2) := by decide +kernel
theorem dX7_pass_132 : decode cX7_pass 132 = .ok (.iload_n 3, 1) := by decide +kernel
theorem dX7_pass_133 : decode cX7_pass 133 = .ok (.ifCond .ne 7, 3) := by decide +kernel
theorem dX7_pass_136 : decode cX7_pass 136 = .ok (.iconst 0, 1) := by decide +kernel
theorem dX7_pass_137 : decode cX7_pass 137 = .ok (.goto 16, 3) := by decide +kernel
theorem dX7_pass_140 : decode cX7_pass 140 = .ok (.iload_n 2, 1) := by decide +kernel
theorem dX7_pass_141 : decode cX7_pass 141 = .ok (.iload 4, 2) := by decide +kernel
theorem dX7_pass_143 : decode cX7_pass 143 = .ok (.imul, 1) := by decide +kernel
theorem dX7_pass_144 : decode cX7_pass 144 = .ok (.iload_n 3, 1) := by decide +kernel
theorem dX7_pass_145 : decode cX7_pass 145 = .ok (.idiv, 1) := by decide +kernel
theorem dX7_pass_146 : decode cX7_pass 146 = .ok (.iload_n 2, 1) := by decide +kernel
theorem dX7_pass_147 : decode cX7_pass 147 = .ok (.iload 8, 2) := by decide +kernel
theorem dX7_pass_149 : decode cX7_pass 149 = .ok (.imul, 1) := by decide +kernel
theorem dX7_pass_150 : decode cX7_pass 150 = .ok (.iload_n 3, 1) := by decide +kernel
theorem dX7_pass_151 : decode cX7_pass 151 = .ok (.idiv, 1) := by decide +kernel
theorem dX7_pass_152 : decode cX7_pass 152 = .ok (.isub, 1) := by decide +kernel
theorem dX7_pass_153 : decode cX7_pass 153 = .ok (.istore 9, 2) := by decide +kernel
theorem dX7_pass_155 : decode cX7_pass 155 = .ok (.aload_n 0, 1) := by decide +kernel
theorem dX7_pass_156 : decode cX7_pass 156 = .ok (.getfield 34, 3) := by decide +kernel
theorem dX7_pass_159 : decode cX7_pass 159 = .ok (.iload 6, 2) := by decide +kernel
theorem dX7_pass_161 : decode cX7_pass 161 = .ok (.aload_n 0, 1) := by decide +kernel
theorem dX7_pass_162 : decode cX7_pass 162 = .ok (.aload_n 0, 1) := by decide +kernel
theorem dX7_pass_163 : decode cX7_pass 163 = .ok (.getfield 22, 3) := by decide +kernel
theorem dX7_pass_166 : decode cX7_pass 166 = .ok (.iload 6, 2) := by decide +kernel
theorem dX7_pass_168 : decode cX7_pass 168 = .ok (.iaload, 1) := by decide +kernel
theorem dX7_pass_169 : decode cX7_pass 169 = .ok (.iconst 0, 1) := by decide +kernel
theorem dX7_pass_170 : decode cX7_pass 170 = .ok (.invokevirtual 157, 3) := by decide +kernel
theorem dX7_pass_173 : decode cX7_pass 173 = .ok (.aload_n 0, 1) := by decide +kernel
theorem dX7_pass_174 : decode cX7_pass 174 = .ok (.getfield 56, 3) := by decide +kernel
theorem dX7_pass_177 : decode cX7_pass 177 = .ok (.iload_n 1, 1) := by decide +kernel
theorem dX7_pass_178 : decode cX7_pass 178 = .ok (.baload, 1) := by decide +kernel
theorem dX7_pass_179 : decode cX7_pass 179 = .ok (.ifCond .eq 8, 3) := by decide +kernel
theorem dX7_pass_182 : decode cX7_pass 182 = .ok (.iload 9, 2) := by decide +kernel
theorem dX7_pass_184 : decode cX7_pass 184 = .ok (.goto 6, 3) := by decide +kernel
theorem dX7_pass_187 : decode cX7_pass 187 = .ok (.iload 9, 2) := by decide +kernel
theorem dX7_pass_189 : decode cX7_pass 189 = .ok (.ineg, 1) := by decide +kernel
theorem dX7_pass_190 : decode cX7_pass 190 = .ok (.iadd, 1) := by decide +kernel
theorem dX7_pass_191 : decode cX7_pass 191 = .ok (.iastore, 1) := by decide +kernel
theorem dX7_pass_192 : decode cX7_pass 192 = .ok (.aload_n 0, 1) := by decide +kernel
theorem dX7_pass_193 : decode cX7_pass 193 = .ok (.getfield 37, 3) := by decide +kernel
theorem dX7_pass_196 : decode cX7_pass 196 = .ok (.iload 6, 2) := by decide +kernel
theorem dX7_pass_198 : decode cX7_pass 198 = .ok (.aload_n 0, 1) := by decide +kernel
theorem dX7_pass_199 : decode cX7_pass 199 = .ok (.getfield 34, 3) := by decide +kernel
theorem dX7_pass_202 : decode cX7_pass 202 = .ok (.iload 6, 2) := by decide +kernel
theorem dX7_pass_204 : decode cX7_pass 204 = .ok (.iaload, 1) := by decide +kernel
theorem dX7_pass_205 : decode cX7_pass 205 = .ok (.aload_n 0, 1) := by decide +kernel
theorem dX7_pass_206 : decode cX7_pass 206 = .ok (.aload_n 0, 1) := by decide +kernel
theorem dX7_pass_207 : decode cX7_pass 207 = .ok (.getfield 22, 3) := by decide +kernel
theorem dX7_pass_210 : decode cX7_pass 210 = .ok (.iload 6, 2) := by decide +kernel
theorem dX7_pass_212 : decode cX7_pass 212 = .ok (.iaload, 1) := by decide +kernel
theorem dX7_pass_213 : decode cX7_pass 213 = .ok (.iconst 3, 1) := by decide +kernel
theorem dX7_pass_214 : decode cX7_pass 214 = .ok (.invokevirtual 157, 3) := by decide +kernel
theorem dX7_pass_217 : decode cX7_pass 217 = .ok (.invokestatic 167, 3) := by decide +kernel
theorem dX7_pass_220 : decode cX7_pass 220 = .ok (.aload_n 0, 1) := by decide +kernel
theorem dX7_pass_221 : decode cX7_pass 221 = .ok (.aload_n 0, 1) := by decide +kernel
theorem dX7_pass_222 : decode cX7_pass 222 = .ok (.getfield 22, 3) := by decide +kernel
theorem dX7_pass_225 : decode cX7_pass 225 = .ok (.iload 6, 2) := by decide +kernel
theorem dX7_pass_227 : decode cX7_pass 227 = .ok (.iaload, 1) := by decide +kernel
theorem dX7_pass_228 : decode cX7_pass 228 = .ok (.invokevirtual 170, 3) := by decide +kernel
theorem dX7_pass_231 : decode cX7_pass 231 = .ok (.invokestatic 173, 3) := by decide +kernel
theorem dX7_pass_234 : decode cX7_pass 234 = .ok (.iastore, 1) := by decide +kernel
theorem dX7_pass_235 : decode cX7_pass 235 = .ok (.iload 5, 2) := by decide +kernel
theorem dX7_pass_237 : decode cX7_pass 237 = .ok (.aload_n 0, 1) := by decide +kernel
theorem dX7_pass_238 : decode cX7_pass 238 = .ok (.getfield 37, 3) := by decide +kernel
theorem dX7_pass_241 : decode cX7_pass 241 = .ok (.iload 6, 2) := by decide +kernel
theorem dX7_pass_243 : decode cX7_pass 243 = .ok (.iaload, 1) := by decide +kernel
theorem dX7_pass_244 : decode cX7_pass 244 = .ok (.aload_n 0, 1) := by decide +kernel
theorem dX7_pass_245 : decode cX7_pass 245 = .ok (.getfield 34, 3) := by decide +kernel
theorem dX7_pass_248 : decode cX7_pass 248 = .ok (.iload 6, 2) := by decide +kernel
theorem dX7_pass_250 : decode cX7_pass 250 = .ok (.iaload, 1) := by decide +kernel
theorem dX7_pass_251 : decode cX7_pass 251 = .ok (.isub, 1) := by decide +kernel
theorem dX7_pass_252 : decode cX7_pass 252 = .ok (.iadd, 1) := by decide +kernel
theorem dX7_pass_253 : decode cX7_pass 253 = .ok (.istore 5, 2) := by decide +kernel
theorem dX7_pass_255 : decode cX7_pass 255 = .ok (.iinc 6 1, 3) := by decide +kernel
theorem dX7_pass_258 : decode cX7_pass 258 = .ok (.goto (-177), 3) := by decide +kernel
theorem dX7_pass_261 : decode cX7_pass 261 = .ok (.aload_n 0, 1) := by decide +kernel
theorem dX7_pass_262 : decode cX7_pass 262 = .ok (.getfield 28, 3) := by decide +kernel
theorem dX7_pass_265 : decode cX7_pass 265 = .ok (.iload_n 1, 1) := by decide +kernel
theorem dX7_pass_266 : decode cX7_pass 266 = .ok (.iaload, 1) := by decide +kernel
theorem dX7_pass_267 : decode cX7_pass 267 = .ok (.istore 6, 2) := by decide +kernel
theorem dX7_pass_269 : decode cX7_pass 269 = .ok (.iload 6, 2) := by decide +kernel
theorem dX7_pass_271 : decode cX7_pass 271 = .ok (.aload_n 0, 1) := by decide +kernel
theorem dX7_pass_272 : decode cX7_pass 272 = .ok (.getfield 31, 3) := by decide +kernel
theorem dX7_pass_275 : decode cX7_pass 275 = .ok (.iload_n 1, 1) := by decide +kernel
theorem dX7_pass_276 : decode cX7_pass 276 = .ok (.iaload, 1) := by decide +kernel
theorem dX7_pass_277 : decode cX7_pass 277 = .ok (.if_icmp .ge 115, 3) := by decide +kernel
theorem dX7_pass_280 : decode cX7_pass 280 = .ok (.iload 5, 2) := by decide +kernel
theorem dX7_pass_282 : decode cX7_pass 282 = .ok (.ifCond .eq 47, 3) := by decide +kernel
theorem dX7_pass_285 : decode cX7_pass 285 = .ok (.iload 5, 2) := by decide +kernel
theorem dX7_pass_287 : decode cX7_pass 287 = .ok (.ifCond .le 20, 3) := by decide +kernel
theorem dX7_pass_290 : decode cX7_pass 290 = .ok (.aload_n 0, 1) := by decide +kernel
theorem dX7_pass_291 : decode cX7_pass 291 = .ok (.getfield 37, 3) := by decide +kernel
theorem dX7_pass_294 : decode cX7_pass 294 = .ok (.iload 6, 2) := by decide +kernel
theorem dX7_pass_296 : decode cX7_pass 296 = .ok (.iaload, 1) := by decide +kernel
theorem dX7_pass_297 : decode cX7_pass 297 = .ok (.aload_n 0, 1) := by decide +kernel
theorem dX7_pass_298 : decode cX7_pass 298 = .ok (.getfield 34, 3) := by decide +kernel
theorem dX7_pass_301 : decode cX7_pass 301 = .ok (.iload 6, 2) := by decide +kernel
theorem dX7_pass_303 : decode cX7_pass 303 = .ok (.iaload, 1) := by decide +kernel
theorem dX7_pass_304 : decode cX7_pass 304 = .ok (.if_icmp .gt 25, 3) := by decide +kernel
theorem dX7_pass_307 : decode cX7_pass 307 = .ok (.iload 5, 2) := by decide +kernel
theorem dX7_pass_309 : decode cX7_pass 309 = .ok (.ifCond .ge 24, 3) := by decide +kernel
theorem dX7_pass_312 : decode cX7_pass 312 = .ok (.aload_n 0, 1) := by decide +kernel
theorem dX7_pass_313 : decode cX7_pass 313 = .ok (.getfield 37, 3) := by decide +kernel
theorem dX7_pass_316 : decode cX7_pass 316 = .ok (.iload 6, 2) := by decide +kernel
theorem dX7_pass_318 : decode cX7_pass 318 = .ok (.iaload, 1) := by decide +kernel
theorem dX7_pass_319 : decode cX7_pass 319 = .ok (.aload_n 0, 1) := by decide +kernel
theorem dX7_pass_320 : decode cX7_pass 320 = .ok (.getfield 34, 3) := by decide +kernel
theorem dX7_pass_323 : decode cX7_pass 323 = .ok (.iload 6, 2) := by decide +kernel
theorem dX7_pass_325 : decode cX7_pass 325 = .ok (.iaload, 1) := by decide +kernel
theorem dX7_pass_326 : decode cX7_pass 326 = .ok (.if_icmp .ge 7, 3) := by decide +kernel
theorem dX7_pass_329 : decode cX7_pass 329 = .ok (.iconst 1, 1) := by decide +kernel
theorem dX7_pass_330 : decode cX7_pass 330 = .ok (.goto 4, 3) := by decide +kernel
theorem dX7_pass_333 : decode cX7_pass 333 = .ok (.iconst 0, 1) := by decide +kernel
theorem dX7_pass_334 : decode cX7_pass 334 = .ok (.istore 7, 2) := by decide +kernel
theorem dX7_pass_336 : decode cX7_pass 336 = .ok (.aload_n 0, 1) := by decide +kernel
theorem dX7_pass_337 : decode cX7_pass 337 = .ok (.getfield 43, 3) := by decide +kernel
theorem dX7_pass_340 : decode cX7_pass 340 = .ok (.iload 6, 2) := by decide +kernel
theorem dX7_pass_342 : decode cX7_pass 342 = .ok (.baload, 1) := by decide +kernel
theorem dX7_pass_343 : decode cX7_pass 343 = .ok (.ifCond .ne 43, 3) := by decide +kernel
theorem dX7_pass_346 : decode cX7_pass 346 = .ok (.iload 7, 2) := by decide +kernel
theorem dX7_pass_348 : decode cX7_pass 348 = .ok (.ifCond .eq 38, 3) := by decide +kernel
theorem dX7_pass_351 : decode cX7_pass 351 = .ok (.aload_n 0, 1) := by decide +kernel
theorem dX7_pass_352 : decode cX7_pass 352 = .ok (.getfield 43, 3) := by decide +kernel
theorem dX7_pass_355 : decode cX7_pass 355 = .ok (.iload 6, 2) := by decide +kernel
theorem dX7_pass_357 : decode cX7_pass 357 = .ok (.iconst 1, 1) := by decide +kernel
theorem dX7_pass_358 : decode cX7_pass 358 = .ok (.bastore, 1) := by decide +kernel
theorem dX7_pass_359 : decode cX7_pass 359 = .ok (.aload_n 0, 1) := by decide +kernel
theorem dX7_pass_360 : decode cX7_pass 360 = .ok (.getfield 34, 3) := by decide +kernel
theorem dX7_pass_363 : decode cX7_pass 363 = .ok (.iload 6, 2) := by decide +kernel
theorem dX7_pass_365 : decode cX7_pass 365 = .ok (.aload_n 0, 1) := by decide +kernel
theorem dX7_pass_366 : decode cX7_pass 366 = .ok (.getfield 37, 3) := by decide +kernel
theorem dX7_pass_369 : decode cX7_pass 369 = .ok (.iload 6, 2) := by decide +kernel
theorem dX7_pass_371 : decode cX7_pass 371 = .ok (.iaload, 1) := by decide +kernel
theorem dX7_pass_372 : decode cX7_pass 372 = .ok (.iastore, 1) := by decide +kernel
theorem dX7_pass_373 : decode cX7_pass 373 = .ok (.aload_n 0, 1) := by decide +kernel
theorem dX7_pass_374 : decode cX7_pass 374 = .ok (.getfield 40, 3) := by decide +kernel
theorem dX7_pass_377 : decode cX7_pass 377 = .ok (.iload 6, 2) := by decide +kernel
theorem dX7_pass_379 : decode cX7_pass 379 = .ok (.aload_n 0, 1) := by decide +kernel
theorem dX7_pass_380 : decode cX7_pass 380 = .ok (.getfield 53, 3) := by decide +kernel
theorem dX7_pass_383 : decode cX7_pass 383 = .ok (.iload_n 1, 1) := by decide +kernel
theorem dX7_pass_384 : decode cX7_pass 384 = .ok (.iaload, 1) := by decide +kernel
theorem dX7_pass_385 : decode cX7_pass 385 = .ok (.iastore, 1) := by decide +kernel
theorem dX7_pass_386 : decode cX7_pass 386 = .ok (.iinc 6 1, 3) := by decide +kernel
theorem dX7_pass_389 : decode cX7_pass 389 = .ok (.goto (-120), 3) := by decide +kernel
theorem dX7_pass_392 : decode cX7_pass 392 = .ok (.return_, 1) := by decide +kernel
theorem dX7_sizes_0 : decode cX7_sizes 0 = .ok (.iconst 0, 1) := by decide +kernel
theorem dX7_sizes_1 : decode cX7_sizes 1 = .ok (.istore_n 3, 1) := by decide +kernel
theorem dX7_sizes_2 : decode cX7_sizes 2 = .ok (.aload_n 0, 1) := by decide +kernel
theorem dX7_sizes_3 : decode cX7_sizes 3 = .ok (.getfield 47, 3) := by decide +kernel
theorem dX7_sizes_6 : decode cX7_sizes 6 = .ok (.iload_n 1, 1) := by decide +kernel
theorem dX7_sizes_7 : decode cX7_sizes 7 = .ok (.iload_n 2, 1) := by decide +kernel
theorem dX7_sizes_8 : decode cX7_sizes 8 = .ok (.aload_n 0, 1) := by decide +kernel
theorem dX7_sizes_9 : decode cX7_sizes 9 = .ok (.getfield 7, 3) := by decide +kernel
theorem dX7_sizes_12 : decode cX7_sizes 12 = .ok (.sipush 178, 3) := by decide +kernel
theorem dX7_sizes_15 : decode cX7_sizes 15 = .ok (.iaload, 1) := by decide +kernel
theorem dX7_sizes_16 : decode cX7_sizes 16 = .ok (.aload_n 0, 1) := by decide +kernel
theorem dX7_sizes_17 : decode cX7_sizes 17 = .ok (.getfield 31, 3) := by decide +kernel
theorem dX7_sizes_20 : decode cX7_sizes 20 = .ok (.iload_n 1, 1) := by decide +kernel
theorem dX7_sizes_21 : decode cX7_sizes 21 = .ok (.iaload, 1) := by decide +kernel
theorem dX7_sizes_22 : decode cX7_sizes 22 = .ok (.aload_n 0, 1) := by decide +kernel
theorem dX7_sizes_23 : decode cX7_sizes 23 = .ok (.getfield 28, 3) := by decide +kernel
theorem dX7_sizes_26 : decode cX7_sizes 26 = .ok (.iload_n 1, 1) := by decide +kernel
theorem dX7_sizes_27 : decode cX7_sizes 27 = .ok (.iaload, 1) := by decide +kernel
theorem dX7_sizes_28 : decode cX7_sizes 28 = .ok (.isub, 1) := by decide +kernel
theorem dX7_sizes_29 : decode cX7_sizes 29 = .ok (.iconst 1, 1) := by decide +kernel
theorem dX7_sizes_30 : decode cX7_sizes 30 = .ok (.isub, 1) := by decide +kernel
theorem dX7_sizes_31 : decode cX7_sizes 31 = .ok (.imul, 1) := by decide +kernel
theorem dX7_sizes_32 : decode cX7_sizes 32 = .ok (.isub, 1) := by decide +kernel
theorem dX7_sizes_33 : decode cX7_sizes 33 = .ok (.iastore, 1) := by decide +kernel
theorem dX7_sizes_34 : decode cX7_sizes 34 = .ok (.aload_n 0, 1) := by decide +kernel
theorem dX7_sizes_35 : decode cX7_sizes 35 = .ok (.getfield 28, 3) := by decide +kernel
theorem dX7_sizes_38 : decode cX7_sizes 38 = .ok (.iload_n 1, 1) := by decide +kernel
theorem dX7_sizes_39 : decode cX7_sizes 39 = .ok (.iaload, 1) := by decide +kernel
theorem dX7_sizes_40 : decode cX7_sizes 40 = .ok (.istore 4, 2) := by decide +kernel
theorem dX7_sizes_42 : decode cX7_sizes 42 = .ok (.iload 4, 2) := by decide +kernel
theorem dX7_sizes_44 : decode cX7_sizes 44 = .ok (.aload_n 0, 1) := by decide +kernel
theorem dX7_sizes_45 : decode cX7_sizes 45 = .ok (.getfield 31, 3) := by decide +kernel
theorem dX7_sizes_48 : decode cX7_sizes 48 = .ok (.iload_n 1, 1) := by decide +kernel
theorem dX7_sizes_49 : decode cX7_sizes 49 = .ok (.iaload, 1) := by decide +kernel
theorem dX7_sizes_50 : decode cX7_sizes 50 = .ok (.if_icmp .ge 46, 3) := by decide +kernel
theorem dX7_sizes_53 : decode cX7_sizes 53 = .ok (.iload_n 3, 1) := by decide +kernel
theorem dX7_sizes_54 : decode cX7_sizes 54 = .ok (.aload_n 0, 1) := by decide +kernel
theorem dX7_sizes_55 : decode cX7_sizes 55 = .ok (.aload_n 0, 1) := by decide +kernel
theorem dX7_sizes_56 : decode cX7_sizes 56 = .ok (.getfield 22, 3) := by decide +kernel
theorem dX7_sizes_59 : decode cX7_sizes 59 = .ok (.iload 4, 2) := by decide +kernel
theorem dX7_sizes_61 : decode cX7_sizes 61 = .ok (.iaload, 1) := by decide +kernel
theorem dX7_sizes_62 : decode cX7_sizes 62 = .ok (.invokevirtual 179, 3) := by decide +kernel
theorem dX7_sizes_65 : decode cX7_sizes 65 = .ok (.iadd, 1) := by decide +kernel
theorem dX7_sizes_66 : decode cX7_sizes 66 = .ok (.istore_n 3, 1) := by decide +kernel
theorem dX7_sizes_67 : decode cX7_sizes 67 = .ok (.aload_n 0, 1) := by decide +kernel
theorem dX7_sizes_68 : decode cX7_sizes 68 = .ok (.getfield 47, 3) := by decide +kernel
theorem dX7_sizes_71 : decode cX7_sizes 71 = .ok (.iload_n 1, 1) := by decide +kernel
theorem dX7_sizes_72 : decode cX7_sizes 72 = .ok (.dup2, 1) := by decide +kernel
theorem dX7_sizes_73 : decode cX7_sizes 73 = .ok (.iaload, 1) := by decide +kernel
theorem dX7_sizes_74 : decode cX7_sizes 74 = .ok (.iconst 2, 1) := by decide +kernel
theorem dX7_sizes_75 : decode cX7_sizes 75 = .ok (.aload_n 0, 1) := by decide +kernel
theorem dX7_sizes_76 : decode cX7_sizes 76 = .ok (.aload_n 0, 1) := by decide +kernel
theorem dX7_sizes_77 : decode cX7_sizes 77 = .ok (.getfield 22, 3) := by decide +kernel
theorem dX7_sizes_80 : decode cX7_sizes 80 = .ok (.iload 4, 2) := by decide +kernel
theorem dX7_sizes_82 : decode cX7_sizes 82 = .ok (.iaload, 1) := by decide +kernel
theorem dX7_sizes_83 : decode cX7_sizes 83 = .ok (.iconst 5, 1) := by decide +kernel
theorem dX7_sizes_84 : decode cX7_sizes 84 = .ok (.invokevirtual 157, 3) := by decide +kernel
theorem dX7_sizes_87 : decode cX7_sizes 87 = .ok (.imul, 1) := by decide +kernel
theorem dX7_sizes_88 : decode cX7_sizes 88 = .ok (.isub, 1) := by decide +kernel
theorem dX7_sizes_89 : decode cX7_sizes 89 = .ok (.iastore, 1) := by decide +kernel
theorem dX7_sizes_90 : decode cX7_sizes 90 = .ok (.iinc 4 1, 3) := by decide +kernel
theorem dX7_sizes_93 : decode cX7_sizes 93 = .ok (.goto (-51), 3) := by decide +kernel
theorem dX7_sizes_96 : decode cX7_sizes 96 = .ok (.aload_n 0, 1) := by decide +kernel
theorem dX7_sizes_97 : decode cX7_sizes 97 = .ok (.getfield 56, 3) := by decide +kernel
theorem dX7_sizes_100 : decode cX7_sizes 100 = .ok (.iload_n 1, 1) := by decide +kernel
theorem dX7_sizes_101 : decode cX7_sizes 101 = .ok (.iload_n 3, 1) := by decide +kernel
theorem dX7_sizes_102 : decode cX7_sizes 102 = .ok (.aload_n 0, 1) := by decide +kernel
theorem dX7_sizes_103 : decode cX7_sizes 103 = .ok (.getfield 47, 3) := by decide +kernel
theorem dX7_sizes_106 : decode cX7_sizes 106 = .ok (.iload_n 1, 1) := by decide +kernel
theorem dX7_sizes_107 : decode cX7_sizes 107 = .ok (.iaload, 1) := by decide +kernel
theorem dX7_sizes_108 : decode cX7_sizes 108 = .ok (.if_icmp .ge 7, 3) := by decide +kernel
theorem dX7_sizes_111 : decode cX7_sizes 111 = .ok (.iconst 1, 1) := by decide +kernel
theorem dX7_sizes_112 : decode cX7_sizes 112 = .ok (.goto 4, 3) := by decide +kernel
theorem dX7_sizes_115 : decode cX7_sizes 115 = .ok (.iconst 0, 1) := by decide +kernel
theorem dX7_sizes_116 : decode cX7_sizes 116 = .ok (.bastore, 1) := by decide +kernel
theorem dX7_sizes_117 : decode cX7_sizes 117 = .ok (.aload_n 0, 1) := by decide +kernel
theorem dX7_sizes_118 : decode cX7_sizes 118 = .ok (.getfield 28, 3) := by decide +kernel
theorem dX7_sizes_121 : decode cX7_sizes 121 = .ok (.iload_n 1, 1) := by decide +kernel
theorem dX7_sizes_122 : decode cX7_sizes 122 = .ok (.iaload, 1) := by decide +kernel
theorem dX7_sizes_123 : decode cX7_sizes 123 = .ok (.istore 4, 2) := by decide +kernel
theorem dX7_sizes_125 : decode cX7_sizes 125 = .ok (.iload 4, 2) := by decide +kernel
theorem dX7_sizes_127 : decode cX7_sizes 127 = .ok (.aload_n 0, 1) := by decide +kernel
theorem dX7_sizes_128 : decode cX7_sizes 128 = .ok (.getfield 31, 3) := by decide +kernel
theorem dX7_sizes_131 : decode cX7_sizes 131 = .ok (.iload_n 1, 1) := by decide +kernel
theorem dX7_sizes_132 : decode cX7_sizes 132 = .ok (.iaload, 1) := by decide +kernel
theorem dX7_sizes_133 : decode cX7_sizes 133 = .ok (.if_icmp .ge 120, 3) := by decide +kernel
theorem dX7_sizes_136 : decode cX7_sizes 136 = .ok (.aload_n 0, 1) := by decide +kernel
theorem dX7_sizes_137 : decode cX7_sizes 137 = .ok (.getfield 22, 3) := by decide +kernel
theorem dX7_sizes_140 : decode cX7_sizes 140 = .ok (.iload 4, 2) := by decide +kernel
theorem dX7_sizes_142 : decode cX7_sizes 142 = .ok (.iaload, 1) := by decide +kernel
theorem dX7_sizes_143 : decode cX7_sizes 143 = .ok (.istore 5, 2) := by decide +kernel
theorem dX7_sizes_145 : decode cX7_sizes 145 = .ok (.aload_n 0, 1) := by decide +kernel
theorem dX7_sizes_146 : decode cX7_sizes 146 = .ok (.getfield 43, 3) := by decide +kernel
theorem dX7_sizes_149 : decode cX7_sizes 149 = .ok (.iload 4, 2) := by decide +kernel
theorem dX7_sizes_151 : decode cX7_sizes 151 = .ok (.aload_n 0, 1) := by decide +kernel
theorem dX7_sizes_152 : decode cX7_sizes 152 = .ok (.getfield 56, 3) := by decide +kernel
theorem dX7_sizes_155 : decode cX7_sizes 155 = .ok (.iload_n 1, 1) := by decide +kernel
theorem dX7_sizes_156 : decode cX7_sizes 156 = .ok (.baload, 1) := by decide +kernel
theorem dX7_sizes_157 : decode cX7_sizes 157 = .ok (.ifCond .eq 37, 3) := by decide +kernel
theorem dX7_sizes_160 : decode cX7_sizes 160 = .ok (.aload_n 0, 1) := by decide +kernel
theorem dX7_sizes_161 : decode cX7_sizes 161 = .ok (.iload 5, 2) := by decide +kernel
theorem dX7_sizes_163 : decode cX7_sizes 163 = .ok (.iconst 1, 1) := by decide +kernel
theorem dX7_sizes_164 : decode cX7_sizes 164 = .ok (.invokevirtual 157, 3) := by decide +kernel
theorem dX7_sizes_167 : decode cX7_sizes 167 = .ok (.ifCond .eq 19, 3) := by decide +kernel
theorem dX7_sizes_170 : decode cX7_sizes 170 = .ok (.aload_n 0, 1) := by decide +kernel
theorem dX7_sizes_171 : decode cX7_sizes 171 = .ok (.iload 5, 2) := by decide +kernel
theorem dX7_sizes_173 : decode cX7_sizes 173 = .ok (.iconst 0, 1) := by decide +kernel
theorem dX7_sizes_174 : decode cX7_sizes 174 = .ok (.invokevirtual 157, 3) := by decide +kernel
theorem dX7_sizes_177 : decode cX7_sizes 177 = .ok (.aload_n 0, 1) := by decide +kernel
theorem dX7_sizes_178 : decode cX7_sizes 178 = .ok (.iload 5, 2) := by decide +kernel
theorem dX7_sizes_180 : decode cX7_sizes 180 = .ok (.invokevirtual 179, 3) := by decide +kernel
theorem dX7_sizes_183 : decode cX7_sizes 183 = .ok (.if_icmp .le 7, 3) := by decide +kernel
theorem dX7_sizes_186 : decode cX7_sizes 186 = .ok (.iconst 1, 1) := by decide +kernel
theorem dX7_sizes_187 : decode cX7_sizes 187 = .ok (.goto 38, 3) := by decide +kernel
theorem dX7_sizes_190 : decode cX7_sizes 190 = .ok (.iconst 0, 1) := by decide +kernel
theorem dX7_sizes_191 : decode cX7_sizes 191 = .ok (.goto 34, 3) := by decide +kernel
theorem dX7_sizes_194 : decode cX7_sizes 194 = .ok (.aload_n 0, 1) := by decide +kernel
theorem dX7_sizes_195 : decode cX7_sizes 195 = .ok (.iload 5, 2) := by decide +kernel
theorem dX7_sizes_197 : decode cX7_sizes 197 = .ok (.iconst 2, 1) := by decide +kernel
theorem dX7_sizes_198 : decode cX7_sizes 198 = .ok (.invokevirtual 157, 3) := by decide +kernel
theorem dX7_sizes_201 : decode cX7_sizes 201 = .ok (.ifCond .eq 19, 3) := by decide +kernel
theorem dX7_sizes_204 : decode cX7_sizes 204 = .ok (.aload_n 0, 1) := by decide +kernel
theorem dX7_sizes_205 : decode cX7_sizes 205 = .ok (.iload 5, 2) := by decide +kernel
theorem dX7_sizes_207 : decode cX7_sizes 207 = .ok (.iconst 0, 1) := by decide +kernel
theorem dX7_sizes_208 : decode cX7_sizes 208 = .ok (.invokevirtual 157, 3) := by decide +kernel
theorem dX7_sizes_211 : decode cX7_sizes 211 = .ok (.aload_n 0, 1) := by decide +kernel
theorem dX7_sizes_212 : decode cX7_sizes 212 = .ok (.iload 5, 2) := by decide +kernel
theorem dX7_sizes_214 : decode cX7_sizes 214 = .ok (.invokevirtual 179, 3) := by decide +kernel
theorem dX7_sizes_217 : decode cX7_sizes 217 = .ok (.if_icmp .ge 7, 3) := by decide +kernel
theorem dX7_sizes_220 : decode cX7_sizes 220 = .ok (.iconst 1, 1) := by decide +kernel
theorem dX7_sizes_221 : decode cX7_sizes 221 = .ok (.goto 4, 3) := by decide +kernel
theorem dX7_sizes_224 : decode cX7_sizes 224 = .ok (.iconst 0, 1) := by decide +kernel
theorem dX7_sizes_225 : decode cX7_sizes 225 = .ok (.bastore, 1) := by decide +kernel
theorem dX7_sizes_226 : decode cX7_sizes 226 = .ok (.aload_n 0, 1) := by decide +kernel
theorem dX7_sizes_227 : decode cX7_sizes 227 = .ok (.getfield 34, 3) := by decide +kernel
theorem dX7_sizes_230 : decode cX7_sizes 230 = .ok (.iload 4, 2) := by decide +kernel
theorem dX7_sizes_232 : decode cX7_sizes 232 = .ok (.aload_n 0, 1) := by decide +kernel
theorem dX7_sizes_233 : decode cX7_sizes 233 = .ok (.iload 5, 2) := by decide +kernel
theorem dX7_sizes_235 : decode cX7_sizes 235 = .ok (.invokevirtual 179, 3) := by decide +kernel
theorem dX7_sizes_238 : decode cX7_sizes 238 = .ok (.iastore, 1) := by decide +kernel
theorem dX7_sizes_239 : decode cX7_sizes 239 = .ok (.aload_n 0, 1) := by decide +kernel
theorem dX7_sizes_240 : decode cX7_sizes 240 = .ok (.getfield 40, 3) := by decide +kernel
theorem dX7_sizes_243 : decode cX7_sizes 243 = .ok (.iload 4, 2) := by decide +kernel
theorem dX7_sizes_245 : decode cX7_sizes 245 = .ok (.iconst 0, 1) := by decide +kernel
theorem dX7_sizes_246 : decode cX7_sizes 246 = .ok (.iastore, 1) := by decide +kernel
theorem dX7_sizes_247 : decode cX7_sizes 247 = .ok (.iinc 4 1, 3) := by decide +kernel
theorem dX7_sizes_250 : decode cX7_sizes 250 = .ok (.goto (-125), 3) := by decide +kernel
theorem dX7_sizes_253 : decode cX7_sizes 253 = .ok (.aload_n 0, 1) := by decide +kernel
theorem dX7_sizes_254 : decode cX7_sizes 254 = .ok (.getfield 53, 3) := by decide +kernel
theorem dX7_sizes_257 : decode cX7_sizes 257 = .ok (.iload_n 1, 1) := by decide +kernel
theorem dX7_sizes_258 : decode cX7_sizes 258 = .ok (.iconst 0, 1) := by decide +kernel
theorem dX7_sizes_259 : decode cX7_sizes 259 = .ok (.iastore, 1) := by decide +kernel
theorem dX7_sizes_260 : decode cX7_sizes 260 = .ok (.aload_n 0, 1) := by decide +kernel
theorem dX7_sizes_261 : decode cX7_sizes 261 = .ok (.iload_n 1, 1) := by decide +kernel
theorem dX7_sizes_262 : decode cX7_sizes 262 = .ok (.invokevirtual 195, 3) := by decide +kernel
theorem dX7_sizes_265 : decode cX7_sizes 265 = .ok (.ifCond .eq 21, 3) := by decide +kernel
theorem dX7_sizes_268 : decode cX7_sizes 268 = .ok (.aload_n 0, 1) := by decide +kernel
theorem dX7_sizes_269 : decode cX7_sizes 269 = .ok (.getfield 53, 3) := by decide +kernel
theorem dX7_sizes_272 : decode cX7_sizes 272 = .ok (.iload_n 1, 1) := by decide +kernel
theorem dX7_sizes_273 : decode cX7_sizes 273 = .ok (.dup2, 1) := by decide +kernel
theorem dX7_sizes_274 : decode cX7_sizes 274 = .ok (.iaload, 1) := by decide +kernel
theorem dX7_sizes_275 : decode cX7_sizes 275 = .ok (.iconst 1, 1) := by decide +kernel
theorem dX7_sizes_276 : decode cX7_sizes 276 = .ok (.iadd, 1) := by decide +kernel
theorem dX7_sizes_277 : decode cX7_sizes 277 = .ok (.iastore, 1) := by decide +kernel
theorem dX7_sizes_278 : decode cX7_sizes 278 = .ok (.aload_n 0, 1) := by decide +kernel
theorem dX7_sizes_279 : decode cX7_sizes 279 = .ok (.iload_n 1, 1) := by decide +kernel
theorem dX7_sizes_280 : decode cX7_sizes 280 = .ok (.invokevirtual 198, 3) := by decide +kernel
theorem dX7_sizes_283 : decode cX7_sizes 283 = .ok (.goto (-23), 3) := by decide +kernel
theorem dX7_sizes_286 : decode cX7_sizes 286 = .ok (.aload_n 0, 1) := by decide +kernel
theorem dX7_sizes_287 : decode cX7_sizes 287 = .ok (.getfield 50, 3) := by decide +kernel
theorem dX7_sizes_290 : decode cX7_sizes 290 = .ok (.iload_n 1, 1) := by decide +kernel
theorem dX7_sizes_291 : decode cX7_sizes 291 = .ok (.aload_n 0, 1) := by decide +kernel
theorem dX7_sizes_292 : decode cX7_sizes 292 = .ok (.getfield 47, 3) := by decide +kernel
theorem dX7_sizes_295 : decode cX7_sizes 295 = .ok (.iload_n 1, 1) := by decide +kernel
theorem dX7_sizes_296 : decode cX7_sizes 296 = .ok (.iaload, 1) := by decide +kernel
theorem dX7_sizes_297 : decode cX7_sizes 297 = .ok (.iastore, 1) := by decide +kernel
theorem dX7_sizes_298 : decode cX7_sizes 298 = .ok (.aload_n 0, 1) := by decide +kernel
theorem dX7_sizes_299 : decode cX7_sizes 299 = .ok (.getfield 28, 3) := by decide +kernel
theorem dX7_sizes_302 : decode cX7_sizes 302 = .ok (.iload_n 1, 1) := by decide +kernel
theorem dX7_sizes_303 : decode cX7_sizes 303 = .ok (.iaload, 1) := by decide +kernel
theorem dX7_sizes_304 : decode cX7_sizes 304 = .ok (.istore 4, 2) := by decide +kernel
theorem dX7_sizes_306 : decode cX7_sizes 306 = .ok (.iload 4, 2) := by decide +kernel
theorem dX7_sizes_308 : decode cX7_sizes 308 = .ok (.aload_n 0, 1) := by decide +kernel
theorem dX7_sizes_309 : decode cX7_sizes 309 = .ok (.getfield 31, 3) := by decide +kernel
theorem dX7_sizes_312 : decode cX7_sizes 312 = .ok (.iload_n 1, 1) := by decide +kernel
theorem dX7_sizes_313 : decode cX7_sizes 313 = .ok (.iaload, 1) := by decide +kernel
theorem dX7_sizes_314 : decode cX7_sizes 314 = .ok (.if_icmp .ge 25, 3) := by decide +kernel
theorem dX7_sizes_317 : decode cX7_sizes 317 = .ok (.aload_n 0, 1) := by decide +kernel
theorem dX7_sizes_318 : decode cX7_sizes 318 = .ok (.getfield 50, 3) := by decide +kernel
theorem dX7_sizes_321 : decode cX7_sizes 321 = .ok (.iload_n 1, 1) := by decide +kernel
theorem dX7_sizes_322 : decode cX7_sizes 322 = .ok (.dup2, 1) := by decide +kernel
theorem dX7_sizes_323 : decode cX7_sizes 323 = .ok (.iaload, 1) := by decide +kernel
theorem dX7_sizes_324 : decode cX7_sizes 324 = .ok (.aload_n 0, 1) := by decide +kernel
theorem dX7_sizes_325 : decode cX7_sizes 325 = .ok (.getfield 34, 3) := by decide +kernel
theorem dX7_sizes_328 : decode cX7_sizes 328 = .ok (.iload 4, 2) := by decide +kernel
theorem dX7_sizes_330 : decode cX7_sizes 330 = .ok (.iaload, 1) := by decide +kernel
theorem dX7_sizes_331 : decode cX7_sizes 331 = .ok (.isub, 1) := by decide +kernel
theorem dX7_sizes_332 : decode cX7_sizes 332 = .ok (.iastore, 1) := by decide +kernel
theorem dX7_sizes_333 : decode cX7_sizes 333 = .ok (.iinc 4 1, 3) := by decide +kernel
theorem dX7_sizes_336 : decode cX7_sizes 336 = .ok (.goto (-30), 3) := by decide +kernel
theorem dX7_sizes_339 : decode cX7_sizes 339 = .ok (.return_, 1) := by decide +kernel
theorem dX7_shift_0 : decode cX7_shift 0 = .ok (.aload_n 0, 1) := by decide +kernel
theorem dX7_shift_1 : decode cX7_shift 1 = .ok (.getfield 31, 3) := by decide +kernel
theorem dX7_shift_4 : decode cX7_shift 4 = .ok (.iload_n 1, 1) := by decide +kernel
theorem dX7_shift_5 : decode cX7_shift 5 = .ok (.iaload, 1) := by decide +kernel
theorem dX7_shift_6 : decode cX7_shift 6 = .ok (.aload_n 0, 1) := by decide +kernel
theorem dX7_shift_7 : decode cX7_shift 7 = .ok (.getfield 28, 3) := by decide +kernel
theorem dX7_shift_10 : decode cX7_shift 10 = .ok (.iload_n 1, 1) := by decide +kernel
theorem dX7_shift_11 : decode cX7_shift 11 = .ok (.iaload, 1) := by decide +kernel
theorem dX7_shift_12 : decode cX7_shift 12 = .ok (.isub, 1) := by decide +kernel
theorem dX7_shift_13 : decode cX7_shift 13 = .ok (.istore_n 3, 1) := by decide +kernel
theorem dX7_shift_14 : decode cX7_shift 14 = .ok (.aload_n 0, 1) := by decide +kernel
theorem dX7_shift_15 : decode cX7_shift 15 = .ok (.getfield 50, 3) := by decide +kernel
theorem dX7_shift_18 : decode cX7_shift 18 = .ok (.iload_n 1, 1) := by decide +kernel
theorem dX7_shift_19 : decode cX7_shift 19 = .ok (.iaload, 1) := by decide +kernel
theorem dX7_shift_20 : decode cX7_shift 20 = .ok (.istore 4, 2) := by decide +kernel
theorem dX7_shift_22 : decode cX7_shift 22 = .ok (.aload_n 0, 1) := by decide +kernel
theorem dX7_shift_23 : decode cX7_shift 23 = .ok (.getfield 7, 3) := by decide +kernel
theorem dX7_shift_26 : decode cX7_shift 26 = .ok (.sipush 181, 3) := by decide +kernel
theorem dX7_shift_29 : decode cX7_shift 29 = .ok (.iaload, 1) := by decide +kernel
theorem dX7_shift_30 : decode cX7_shift 30 = .ok (.istore 5, 2) := by decide +kernel
theorem dX7_shift_32 : decode cX7_shift 32 = .ok (.iload 4, 2) := by decide +kernel
theorem dX7_shift_34 : decode cX7_shift 34 = .ok (.ifCond .lt 8, 3) := by decide +kernel
theorem dX7_shift_37 : decode cX7_shift 37 = .ok (.iload_n 3, 1) := by decide +kernel
theorem dX7_shift_38 : decode cX7_shift 38 = .ok (.iconst 1, 1) := by decide +kernel
theorem dX7_shift_39 : decode cX7_shift 39 = .ok (.if_icmp .ne 27, 3) := by decide +kernel
theorem dX7_shift_42 : decode cX7_shift 42 = .ok (.iload 5, 2) := by decide +kernel
theorem dX7_shift_44 : decode cX7_shift 44 = .ok (.iconst 3, 1) := by decide +kernel
theorem dX7_shift_45 : decode cX7_shift 45 = .ok (.if_icmp .ne 7, 3) := by decide +kernel
theorem dX7_shift_48 : decode cX7_shift 48 = .ok (.iconst 0, 1) := by decide +kernel
theorem dX7_shift_49 : decode cX7_shift 49 = .ok (.goto 15, 3) := by decide +kernel
theorem dX7_shift_52 : decode cX7_shift 52 = .ok (.iload 5, 2) := by decide +kernel
theorem dX7_shift_54 : decode cX7_shift 54 = .ok (.iconst 3, 1) := by decide +kernel
theorem dX7_shift_55 : decode cX7_shift 55 = .ok (.if_icmp .le 7, 3) := by decide +kernel
theorem dX7_shift_58 : decode cX7_shift 58 = .ok (.iconst 2, 1) := by decide +kernel
theorem dX7_shift_59 : decode cX7_shift 59 = .ok (.goto 5, 3) := by decide +kernel
theorem dX7_shift_62 : decode cX7_shift 62 = .ok (.iload 5, 2) := by decide +kernel
theorem dX7_shift_64 : decode cX7_shift 64 = .ok (.istore 5, 2) := by decide +kernel
theorem dX7_shift_66 : decode cX7_shift 66 = .ok (.iload 5, 2) := by decide +kernel
theorem dX7_shift_68 : decode cX7_shift 68 = .ok (.tableswitch 70 0 4 #[36, 38, 41, 48, 57], 36) := by decide +kernel
theorem dX7_shift_104 : decode cX7_shift 104 = .ok (.iconst 0, 1) := by decide +kernel
theorem dX7_shift_105 : decode cX7_shift 105 = .ok (.ireturn, 1) := by decide +kernel
theorem dX7_shift_106 : decode cX7_shift 106 = .ok (.iload 4, 2) := by decide +kernel
theorem dX7_shift_108 : decode cX7_shift 108 = .ok (.ireturn, 1) := by decide +kernel
theorem dX7_shift_109 : decode cX7_shift 109 = .ok (.iload 4, 2) := by decide +kernel
theorem dX7_shift_111 : decode cX7_shift 111 = .ok (.iconst 2, 1) := by decide +kernel
theorem dX7_shift_112 : decode cX7_shift 112 = .ok (.invokestatic 201, 3) := by decide +kernel
theorem dX7_shift_115 : decode cX7_shift 115 = .ok (.ireturn, 1) := by decide +kernel
theorem dX7_shift_116 : decode cX7_shift 116 = .ok (.iload 4, 2) := by decide +kernel
theorem dX7_shift_118 : decode cX7_shift 118 = .ok (.iload_n 2, 1) := by decide +kernel
theorem dX7_shift_119 : decode cX7_shift 119 = .ok (.imul, 1) := by decide +kernel
theorem dX7_shift_120 : decode cX7_shift 120 = .ok (.iload_n 3, 1) := by decide +kernel
theorem dX7_shift_121 : decode cX7_shift 121 = .ok (.iconst 1, 1) := by decide +kernel
theorem dX7_shift_122 : decode cX7_shift 122 = .ok (.isub, 1) := by decide +kernel
theorem dX7_shift_123 : decode cX7_shift 123 = .ok (.idiv, 1) := by decide +kernel
theorem dX7_shift_124 : decode cX7_shift 124 = .ok (.ireturn, 1) := by decide +kernel
theorem dX7_shift_125 : decode cX7_shift 125 = .ok (.iload 4, 2) := by decide +kernel
theorem dX7_shift_127 : decode cX7_shift 127 = .ok (.iconst 2, 1) := by decide +kernel
theorem dX7_shift_128 : decode cX7_shift 128 = .ok (.iload_n 2, 1) := by decide +kernel
theorem dX7_shift_129 : decode cX7_shift 129 = .ok (.imul, 1) := by decide +kernel
theorem dX7_shift_130 : decode cX7_shift 130 = .ok (.iconst 1, 1) := by decide +kernel
theorem dX7_shift_131 : decode cX7_shift 131 = .ok (.iadd, 1) := by decide +kernel
theorem dX7_shift_132 : decode cX7_shift 132 = .ok (.imul, 1) := by decide +kernel
theorem dX7_shift_133 : decode cX7_shift 133 = .ok (.iconst 2, 1) := by decide +kernel
theorem dX7_shift_134 : decode cX7_shift 134 = .ok (.iload_n 3, 1) := by decide +kernel
theorem dX7_shift_135 : decode cX7_shift 135 = .ok (.imul, 1) := by decide +kernel
theorem dX7_shift_136 : decode cX7_shift 136 = .ok (.idiv, 1) := by decide +kernel
theorem dX7_shift_137 : decode cX7_shift 137 = .ok (.ireturn, 1) := by decide +kernel
theorem dX7_shift_138 : decode cX7_shift 138 = .ok (.iload 4, 2) := by decide +kernel
theorem dX7_shift_140 : decode cX7_shift 140 = .ok (.iload_n 2, 1) := by decide +kernel
theorem dX7_shift_141 : decode cX7_shift 141 = .ok (.iconst 1, 1) := by decide +kernel
theorem dX7_shift_142 : decode cX7_shift 142 = .ok (.iadd, 1) := by decide +kernel
theorem dX7_shift_143 : decode cX7_shift 143 = .ok (.imul, 1) := by decide +kernel
theorem dX7_shift_144 : decode cX7_shift 144 = .ok (.iload_n 3, 1) := by decide +kernel
theorem dX7_shift_145 : decode cX7_shift 145 = .ok (.iconst 1, 1) := by decide +kernel
theorem dX7_shift_146 : decode cX7_shift 146 = .ok (.iadd, 1) := by decide +kernel
theorem dX7_shift_147 : decode cX7_shift 147 = .ok (.idiv, 1) := by decide +kernel
theorem dX7_shift_148 : decode cX7_shift 148 = .ok (.ireturn, 1) := by decide +kernel
theorem dX7_along_0 : decode cX7_along 0 = .ok (.iconst 0, 1) := by decide +kernel
theorem dX7_along_1 : decode cX7_along 1 = .ok (.istore_n 3, 1) := by decide +kernel
theorem dX7_along_2 : decode cX7_along 2 = .ok (.aload_n 0, 1) := by decide +kernel
theorem dX7_along_3 : decode cX7_along 3 = .ok (.getfield 28, 3) := by decide +kernel
theorem dX7_along_6 : decode cX7_along 6 = .ok (.iload_n 1, 1) := by decide +kernel
theorem dX7_along_7 : decode cX7_along 7 = .ok (.iaload, 1) := by decide +kernel
theorem dX7_along_8 : decode cX7_along 8 = .ok (.istore 4, 2) := by decide +kernel
theorem dX7_along_10 : decode cX7_along 10 = .ok (.iload 4, 2) := by decide +kernel
theorem dX7_along_12 : decode cX7_along 12 = .ok (.aload_n 0, 1) := by decide +kernel
theorem dX7_along_13 : decode cX7_along 13 = .ok (.getfield 31, 3) := by decide +kernel
theorem dX7_along_16 : decode cX7_along 16 = .ok (.iload_n 1, 1) := by decide +kernel
theorem dX7_along_17 : decode cX7_along 17 = .ok (.iaload, 1) := by decide +kernel
theorem dX7_along_18 : decode cX7_along 18 = .ok (.if_icmp .ge 104, 3) := by decide +kernel
theorem dX7_along_21 : decode cX7_along 21 = .ok (.aload_n 0, 1) := by decide +kernel
theorem dX7_along_22 : decode cX7_along 22 = .ok (.aload_n 0, 1) := by decide +kernel
theorem dX7_along_23 : decode cX7_along 23 = .ok (.getfield 22, 3) := by decide +kernel
theorem dX7_along_26 : decode cX7_along 26 = .ok (.iload 4, 2) := by decide +kernel
theorem dX7_along_28 : decode cX7_along 28 = .ok (.iaload, 1) := by decide +kernel
theorem dX7_along_29 : decode cX7_along 29 = .ok (.iconst 5, 1) := by decide +kernel
theorem dX7_along_30 : decode cX7_along 30 = .ok (.invokevirtual 157, 3) := by decide +kernel
theorem dX7_along_33 : decode cX7_along 33 = .ok (.istore 5, 2) := by decide +kernel
theorem dX7_along_35 : decode cX7_along 35 = .ok (.iload_n 3, 1) := by decide +kernel
theorem dX7_along_36 : decode cX7_along 36 = .ok (.iload 5, 2) := by decide +kernel
theorem dX7_along_38 : decode cX7_along 38 = .ok (.iadd, 1) := by decide +kernel
theorem dX7_along_39 : decode cX7_along 39 = .ok (.aload_n 0, 1) := by decide +kernel
theorem dX7_along_40 : decode cX7_along 40 = .ok (.iload_n 1, 1) := by decide +kernel
theorem dX7_along_41 : decode cX7_along 41 = .ok (.iload 4, 2) := by decide +kernel
theorem dX7_along_43 : decode cX7_along 43 = .ok (.aload_n 0, 1) := by decide +kernel
theorem dX7_along_44 : decode cX7_along 44 = .ok (.getfield 28, 3) := by decide +kernel
theorem dX7_along_47 : decode cX7_along 47 = .ok (.iload_n 1, 1) := by decide +kernel
theorem dX7_along_48 : decode cX7_along 48 = .ok (.iaload, 1) := by decide +kernel
theorem dX7_along_49 : decode cX7_along 49 = .ok (.isub, 1) := by decide +kernel
theorem dX7_along_50 : decode cX7_along 50 = .ok (.invokevirtual 204, 3) := by decide +kernel
theorem dX7_along_53 : decode cX7_along 53 = .ok (.iadd, 1) := by decide +kernel
theorem dX7_along_54 : decode cX7_along 54 = .ok (.istore 6, 2) := by decide +kernel
theorem dX7_along_56 : decode cX7_along 56 = .ok (.aload_n 0, 1) := by decide +kernel
theorem dX7_along_57 : decode cX7_along 57 = .ok (.getfield 59, 3) := by decide +kernel
theorem dX7_along_60 : decode cX7_along 60 = .ok (.iload 4, 2) := by decide +kernel
theorem dX7_along_62 : decode cX7_along 62 = .ok (.aload_n 0, 1) := by decide +kernel
theorem dX7_along_63 : decode cX7_along 63 = .ok (.getfield 7, 3) := by decide +kernel
theorem dX7_along_66 : decode cX7_along 66 = .ok (.sipush 183, 3) := by decide +kernel
theorem dX7_along_69 : decode cX7_along 69 = .ok (.iaload, 1) := by decide +kernel
theorem dX7_along_70 : decode cX7_along 70 = .ok (.iconst 1, 1) := by decide +kernel
theorem dX7_along_71 : decode cX7_along 71 = .ok (.if_icmp .ne 18, 3) := by decide +kernel
theorem dX7_along_74 : decode cX7_along 74 = .ok (.iload_n 2, 1) := by decide +kernel
theorem dX7_along_75 : decode cX7_along 75 = .ok (.iload 6, 2) := by decide +kernel
theorem dX7_along_77 : decode cX7_along 77 = .ok (.isub, 1) := by decide +kernel
theorem dX7_along_78 : decode cX7_along 78 = .ok (.aload_n 0, 1) := by decide +kernel
theorem dX7_along_79 : decode cX7_along 79 = .ok (.getfield 34, 3) := by decide +kernel
theorem dX7_along_82 : decode cX7_along 82 = .ok (.iload 4, 2) := by decide +kernel
theorem dX7_along_84 : decode cX7_along 84 = .ok (.iaload, 1) := by decide +kernel
theorem dX7_along_85 : decode cX7_along 85 = .ok (.isub, 1) := by decide +kernel
theorem dX7_along_86 : decode cX7_along 86 = .ok (.goto 5, 3) := by decide +kernel
theorem dX7_along_89 : decode cX7_along 89 = .ok (.iload 6, 2) := by decide +kernel
theorem dX7_along_91 : decode cX7_along 91 = .ok (.iastore, 1) := by decide +kernel
theorem dX7_along_92 : decode cX7_along 92 = .ok (.iload_n 3, 1) := by decide +kernel
theorem dX7_along_93 : decode cX7_along 93 = .ok (.iconst 2, 1) := by decide +kernel
theorem dX7_along_94 : decode cX7_along 94 = .ok (.iload 5, 2) := by decide +kernel
theorem dX7_along_96 : decode cX7_along 96 = .ok (.imul, 1) := by decide +kernel
theorem dX7_along_97 : decode cX7_along 97 = .ok (.aload_n 0, 1) := by decide +kernel
theorem dX7_along_98 : decode cX7_along 98 = .ok (.getfield 34, 3) := by decide +kernel
theorem dX7_along_101 : decode cX7_along 101 = .ok (.iload 4, 2) := by decide +kernel
theorem dX7_along_103 : decode cX7_along 103 = .ok (.iaload, 1) := by decide +kernel
theorem dX7_along_104 : decode cX7_along 104 = .ok (.iadd, 1) := by decide +kernel
theorem dX7_along_105 : decode cX7_along 105 = .ok (.aload_n 0, 1) := by decide +kernel
theorem dX7_along_106 : decode cX7_along 106 = .ok (.getfield 7, 3) := by decide +kernel
theorem dX7_along_109 : decode cX7_along 109 = .ok (.sipush 178, 3) := by decide +kernel
theorem dX7_along_112 : decode cX7_along 112 = .ok (.iaload, 1) := by decide +kernel
theorem dX7_along_113 : decode cX7_along 113 = .ok (.iadd, 1) := by decide +kernel
theorem dX7_along_114 : decode cX7_along 114 = .ok (.iadd, 1) := by decide +kernel
theorem dX7_along_115 : decode cX7_along 115 = .ok (.istore_n 3, 1) := by decide +kernel
theorem dX7_along_116 : decode cX7_along 116 = .ok (.iinc 4 1, 3) := by decide +kernel
theorem dX7_along_119 : decode cX7_along 119 = .ok (.goto (-109), 3) := by decide +kernel
theorem dX7_along_122 : decode cX7_along 122 = .ok (.return_, 1) := by decide +kernel
theorem dX7_wayOf_0 : decode cX7_wayOf 0 = .ok (.aload_n 0, 1) := by decide +kernel
theorem dX7_wayOf_1 : decode cX7_wayOf 1 = .ok (.aload_n 0, 1) := by decide +kernel
theorem dX7_wayOf_2 : decode cX7_wayOf 2 = .ok (.getfield 22, 3) := by decide +kernel
theorem dX7_wayOf_5 : decode cX7_wayOf 5 = .ok (.iload_n 1, 1) := by decide +kernel
theorem dX7_wayOf_6 : decode cX7_wayOf 6 = .ok (.iaload, 1) := by decide +kernel
theorem dX7_wayOf_7 : decode cX7_wayOf 7 = .ok (.bipush 9, 2) := by decide +kernel
theorem dX7_wayOf_9 : decode cX7_wayOf 9 = .ok (.invokevirtual 157, 3) := by decide +kernel
theorem dX7_wayOf_12 : decode cX7_wayOf 12 = .ok (.istore_n 2, 1) := by decide +kernel
theorem dX7_wayOf_13 : decode cX7_wayOf 13 = .ok (.iload_n 2, 1) := by decide +kernel
theorem dX7_wayOf_14 : decode cX7_wayOf 14 = .ok (.iconst 4, 1) := by decide +kernel
theorem dX7_wayOf_15 : decode cX7_wayOf 15 = .ok (.if_icmp .ne 14, 3) := by decide +kernel
theorem dX7_wayOf_18 : decode cX7_wayOf 18 = .ok (.aload_n 0, 1) := by decide +kernel
theorem dX7_wayOf_19 : decode cX7_wayOf 19 = .ok (.getfield 7, 3) := by decide +kernel
theorem dX7_wayOf_22 : decode cX7_wayOf 22 = .ok (.sipush 182, 3) := by decide +kernel
theorem dX7_wayOf_25 : decode cX7_wayOf 25 = .ok (.iaload, 1) := by decide +kernel
theorem dX7_wayOf_26 : decode cX7_wayOf 26 = .ok (.goto 4, 3) := by decide +kernel
theorem dX7_wayOf_29 : decode cX7_wayOf 29 = .ok (.iload_n 2, 1) := by decide +kernel
theorem dX7_wayOf_30 : decode cX7_wayOf 30 = .ok (.ireturn, 1) := by decide +kernel
theorem dX7_above_0 : decode cX7_above 0 = .ok (.aload_n 0, 1) := by decide +kernel
theorem dX7_above_1 : decode cX7_above 1 = .ok (.aload_n 0, 1) := by decide +kernel
theorem dX7_above_2 : decode cX7_above 2 = .ok (.getfield 22, 3) := by decide +kernel
theorem dX7_above_5 : decode cX7_above 5 = .ok (.iload_n 1, 1) := by decide +kernel
theorem dX7_above_6 : decode cX7_above 6 = .ok (.iaload, 1) := by decide +kernel
theorem dX7_above_7 : decode cX7_above 7 = .ok (.bipush 7, 2) := by decide +kernel
theorem dX7_above_9 : decode cX7_above 9 = .ok (.invokevirtual 157, 3) := by decide +kernel
theorem dX7_above_12 : decode cX7_above 12 = .ok (.aload_n 0, 1) := by decide +kernel
theorem dX7_above_13 : decode cX7_above 13 = .ok (.aload_n 0, 1) := by decide +kernel
theorem dX7_above_14 : decode cX7_above 14 = .ok (.getfield 22, 3) := by decide +kernel
theorem dX7_above_17 : decode cX7_above 17 = .ok (.iload_n 1, 1) := by decide +kernel
theorem dX7_above_18 : decode cX7_above 18 = .ok (.iaload, 1) := by decide +kernel
theorem dX7_above_19 : decode cX7_above 19 = .ok (.bipush 8, 2) := by decide +kernel
theorem dX7_above_21 : decode cX7_above 21 = .ok (.invokevirtual 157, 3) := by decide +kernel
theorem dX7_above_24 : decode cX7_above 24 = .ok (.isub, 1) := by decide +kernel
theorem dX7_above_25 : decode cX7_above 25 = .ok (.ireturn, 1) := by decide +kernel
theorem dX7_across_0 : decode cX7_across 0 = .ok (.sipush (-1001), 3) := by decide +kernel
theorem dX7_across_3 : decode cX7_across 3 = .ok (.istore_n 2, 1) := by decide +kernel
theorem dX7_across_4 : decode cX7_across 4 = .ok (.iconst 0, 1) := by decide +kernel
theorem dX7_across_5 : decode cX7_across 5 = .ok (.istore_n 3, 1) := by decide +kernel
theorem dX7_across_6 : decode cX7_across 6 = .ok (.iconst 0, 1) := by decide +kernel
theorem dX7_across_7 : decode cX7_across 7 = .ok (.istore 4, 2) := by decide +kernel
theorem dX7_across_9 : decode cX7_across 9 = .ok (.aload_n 0, 1) := by decide +kernel
theorem dX7_across_10 : decode cX7_across 10 = .ok (.getfield 28, 3) := by decide +kernel
theorem dX7_across_13 : decode cX7_across 13 = .ok (.iload_n 1, 1) := by decide +kernel
theorem dX7_across_14 : decode cX7_across 14 = .ok (.iaload, 1) := by decide +kernel
theorem dX7_across_15 : decode cX7_across 15 = .ok (.istore 5, 2) := by decide +kernel
theorem dX7_across_17 : decode cX7_across 17 = .ok (.iload 5, 2) := by decide +kernel
theorem dX7_across_19 : decode cX7_across 19 = .ok (.aload_n 0, 1) := by decide +kernel
theorem dX7_across_20 : decode cX7_across 20 = .ok (.getfield 31, 3) := by decide +kernel
theorem dX7_across_23 : decode cX7_across 23 = .ok (.iload_n 1, 1) := by decide +kernel
theorem dX7_across_24 : decode cX7_across 24 = .ok (.iaload, 1) := by decide +kernel
theorem dX7_across_25 : decode cX7_across 25 = .ok (.if_icmp .ge 93, 3) := by decide +kernel
theorem dX7_across_28 : decode cX7_across 28 = .ok (.aload_n 0, 1) := by decide +kernel
theorem dX7_across_29 : decode cX7_across 29 = .ok (.iload 5, 2) := by decide +kernel
theorem dX7_across_31 : decode cX7_across 31 = .ok (.invokevirtual 207, 3) := by decide +kernel
theorem dX7_across_34 : decode cX7_across 34 = .ok (.iconst 3, 1) := by decide +kernel
theorem dX7_across_35 : decode cX7_across 35 = .ok (.if_icmp .ne 7, 3) := by decide +kernel
theorem dX7_across_38 : decode cX7_across 38 = .ok (.iconst 1, 1) := by decide +kernel
theorem dX7_across_39 : decode cX7_across 39 = .ok (.goto 4, 3) := by decide +kernel
theorem dX7_across_42 : decode cX7_across 42 = .ok (.iconst 0, 1) := by decide +kernel
theorem dX7_across_43 : decode cX7_across 43 = .ok (.istore 6, 2) := by decide +kernel
theorem dX7_across_45 : decode cX7_across 45 = .ok (.iload 6, 2) := by decide +kernel
theorem dX7_across_47 : decode cX7_across 47 = .ok (.ifCond .eq 16, 3) := by decide +kernel
theorem dX7_across_50 : decode cX7_across 50 = .ok (.iload_n 2, 1) := by decide +kernel
theorem dX7_across_51 : decode cX7_across 51 = .ok (.aload_n 0, 1) := by decide +kernel
theorem dX7_across_52 : decode cX7_across 52 = .ok (.iload 5, 2) := by decide +kernel
theorem dX7_across_54 : decode cX7_across 54 = .ok (.invokevirtual 210, 3) := by decide +kernel
theorem dX7_across_57 : decode cX7_across 57 = .ok (.invokestatic 167, 3) := by decide +kernel
theorem dX7_across_60 : decode cX7_across 60 = .ok (.goto 4, 3) := by decide +kernel
theorem dX7_across_63 : decode cX7_across 63 = .ok (.iload_n 2, 1) := by decide +kernel
theorem dX7_across_64 : decode cX7_across 64 = .ok (.istore_n 2, 1) := by decide +kernel
theorem dX7_across_65 : decode cX7_across 65 = .ok (.iload 6, 2) := by decide +kernel
theorem dX7_across_67 : decode cX7_across 67 = .ok (.ifCond .eq 23, 3) := by decide +kernel
theorem dX7_across_70 : decode cX7_across 70 = .ok (.iload_n 3, 1) := by decide +kernel
theorem dX7_across_71 : decode cX7_across 71 = .ok (.aload_n 0, 1) := by decide +kernel
theorem dX7_across_72 : decode cX7_across 72 = .ok (.aload_n 0, 1) := by decide +kernel
theorem dX7_across_73 : decode cX7_across 73 = .ok (.getfield 22, 3) := by decide +kernel
theorem dX7_across_76 : decode cX7_across 76 = .ok (.iload 5, 2) := by decide +kernel
end
section
theorem dX7_across_78 : decode cX7_across 78 = .ok (.iaload, 1) := by decide +kernel
theorem dX7_across_79 : decode cX7_across 79 = .ok (.bipush 8, 2) := by decide +kernel
theorem dX7_across_81 : decode cX7_across 81 = .ok (.invokevirtual 157, 3) := by decide +kernel
theorem dX7_across_84 : decode cX7_across 84 = .ok (.invokestatic 167, 3) := by decide +kernel
theorem dX7_across_87 : decode cX7_across 87 = .ok (.goto 4, 3) := by decide +kernel
theorem dX7_across_90 : decode cX7_across 90 = .ok (.iload_n 3, 1) := by decide +kernel
theorem dX7_across_91 : decode cX7_across 91 = .ok (.istore_n 3, 1) := by decide +kernel
theorem dX7_across_92 : decode cX7_across 92 = .ok (.iload 4, 2) := by decide +kernel
theorem dX7_across_94 : decode cX7_across 94 = .ok (.aload_n 0, 1) := by decide +kernel
theorem dX7_across_95 : decode cX7_across 95 = .ok (.aload_n 0, 1) := by decide +kernel
theorem dX7_across_96 : decode cX7_across 96 = .ok (.getfield 22, 3) := by decide +kernel
theorem dX7_across_99 : decode cX7_across 99 = .ok (.iload 5, 2) := by decide +kernel
theorem dX7_across_101 : decode cX7_across 101 = .ok (.iaload, 1) := by decide +kernel
theorem dX7_across_102 : decode cX7_across 102 = .ok (.bipush 7, 2) := by decide +kernel
theorem dX7_across_104 : decode cX7_across 104 = .ok (.invokevirtual 157, 3) := by decide +kernel
theorem dX7_across_107 : decode cX7_across 107 = .ok (.invokestatic 167, 3) := by decide +kernel
theorem dX7_across_110 : decode cX7_across 110 = .ok (.istore 4, 2) := by decide +kernel
theorem dX7_across_112 : decode cX7_across 112 = .ok (.iinc 5 1, 3) := by decide +kernel
theorem dX7_across_115 : decode cX7_across 115 = .ok (.goto (-98), 3) := by decide +kernel
theorem dX7_across_118 : decode cX7_across 118 = .ok (.iload_n 2, 1) := by decide +kernel
theorem dX7_across_119 : decode cX7_across 119 = .ok (.sipush (-1001), 3) := by decide +kernel
theorem dX7_across_122 : decode cX7_across 122 = .ok (.if_icmp .ne 8, 3) := by decide +kernel
theorem dX7_across_125 : decode cX7_across 125 = .ok (.iload 4, 2) := by decide +kernel
theorem dX7_across_127 : decode cX7_across 127 = .ok (.goto 11, 3) := by decide +kernel
theorem dX7_across_130 : decode cX7_across 130 = .ok (.iload 4, 2) := by decide +kernel
theorem dX7_across_132 : decode cX7_across 132 = .ok (.iload_n 2, 1) := by decide +kernel
theorem dX7_across_133 : decode cX7_across 133 = .ok (.iload_n 3, 1) := by decide +kernel
theorem dX7_across_134 : decode cX7_across 134 = .ok (.iadd, 1) := by decide +kernel
theorem dX7_across_135 : decode cX7_across 135 = .ok (.invokestatic 167, 3) := by decide +kernel
theorem dX7_across_138 : decode cX7_across 138 = .ok (.istore 4, 2) := by decide +kernel
theorem dX7_across_140 : decode cX7_across 140 = .ok (.aload_n 0, 1) := by decide +kernel
theorem dX7_across_141 : decode cX7_across 141 = .ok (.getfield 65, 3) := by decide +kernel
theorem dX7_across_144 : decode cX7_across 144 = .ok (.iload_n 1, 1) := by decide +kernel
theorem dX7_across_145 : decode cX7_across 145 = .ok (.iload_n 1, 1) := by decide +kernel
theorem dX7_across_146 : decode cX7_across 146 = .ok (.ifCond .ne 7, 3) := by decide +kernel
theorem dX7_across_149 : decode cX7_across 149 = .ok (.iconst 0, 1) := by decide +kernel
theorem dX7_across_150 : decode cX7_across 150 = .ok (.goto 29, 3) := by decide +kernel
theorem dX7_across_153 : decode cX7_across 153 = .ok (.aload_n 0, 1) := by decide +kernel
theorem dX7_across_154 : decode cX7_across 154 = .ok (.getfield 65, 3) := by decide +kernel
theorem dX7_across_157 : decode cX7_across 157 = .ok (.iload_n 1, 1) := by decide +kernel
theorem dX7_across_158 : decode cX7_across 158 = .ok (.iconst 1, 1) := by decide +kernel
theorem dX7_across_159 : decode cX7_across 159 = .ok (.isub, 1) := by decide +kernel
theorem dX7_across_160 : decode cX7_across 160 = .ok (.iaload, 1) := by decide +kernel
theorem dX7_across_161 : decode cX7_across 161 = .ok (.aload_n 0, 1) := by decide +kernel
theorem dX7_across_162 : decode cX7_across 162 = .ok (.getfield 68, 3) := by decide +kernel
theorem dX7_across_165 : decode cX7_across 165 = .ok (.iload_n 1, 1) := by decide +kernel
theorem dX7_across_166 : decode cX7_across 166 = .ok (.iconst 1, 1) := by decide +kernel
theorem dX7_across_167 : decode cX7_across 167 = .ok (.isub, 1) := by decide +kernel
theorem dX7_across_168 : decode cX7_across 168 = .ok (.iaload, 1) := by decide +kernel
theorem dX7_across_169 : decode cX7_across 169 = .ok (.iadd, 1) := by decide +kernel
theorem dX7_across_170 : decode cX7_across 170 = .ok (.aload_n 0, 1) := by decide +kernel
theorem dX7_across_171 : decode cX7_across 171 = .ok (.getfield 7, 3) := by decide +kernel
theorem dX7_across_174 : decode cX7_across 174 = .ok (.sipush 179, 3) := by decide +kernel
theorem dX7_across_177 : decode cX7_across 177 = .ok (.iaload, 1) := by decide +kernel
theorem dX7_across_178 : decode cX7_across 178 = .ok (.iadd, 1) := by decide +kernel
theorem dX7_across_179 : decode cX7_across 179 = .ok (.iastore, 1) := by decide +kernel
theorem dX7_across_180 : decode cX7_across 180 = .ok (.aload_n 0, 1) := by decide +kernel
theorem dX7_across_181 : decode cX7_across 181 = .ok (.getfield 68, 3) := by decide +kernel
theorem dX7_across_184 : decode cX7_across 184 = .ok (.iload_n 1, 1) := by decide +kernel
theorem dX7_across_185 : decode cX7_across 185 = .ok (.iload 4, 2) := by decide +kernel
theorem dX7_across_187 : decode cX7_across 187 = .ok (.iastore, 1) := by decide +kernel
theorem dX7_across_188 : decode cX7_across 188 = .ok (.aload_n 0, 1) := by decide +kernel
theorem dX7_across_189 : decode cX7_across 189 = .ok (.getfield 28, 3) := by decide +kernel
theorem dX7_across_192 : decode cX7_across 192 = .ok (.iload_n 1, 1) := by decide +kernel
theorem dX7_across_193 : decode cX7_across 193 = .ok (.iaload, 1) := by decide +kernel
theorem dX7_across_194 : decode cX7_across 194 = .ok (.istore 5, 2) := by decide +kernel
theorem dX7_across_196 : decode cX7_across 196 = .ok (.iload 5, 2) := by decide +kernel
theorem dX7_across_198 : decode cX7_across 198 = .ok (.aload_n 0, 1) := by decide +kernel
theorem dX7_across_199 : decode cX7_across 199 = .ok (.getfield 31, 3) := by decide +kernel
theorem dX7_across_202 : decode cX7_across 202 = .ok (.iload_n 1, 1) := by decide +kernel
theorem dX7_across_203 : decode cX7_across 203 = .ok (.iaload, 1) := by decide +kernel
theorem dX7_across_204 : decode cX7_across 204 = .ok (.if_icmp .ge 90, 3) := by decide +kernel
theorem dX7_across_207 : decode cX7_across 207 = .ok (.iload 4, 2) := by decide +kernel
theorem dX7_across_209 : decode cX7_across 209 = .ok (.aload_n 0, 1) := by decide +kernel
theorem dX7_across_210 : decode cX7_across 210 = .ok (.aload_n 0, 1) := by decide +kernel
theorem dX7_across_211 : decode cX7_across 211 = .ok (.getfield 22, 3) := by decide +kernel
theorem dX7_across_214 : decode cX7_across 214 = .ok (.iload 5, 2) := by decide +kernel
theorem dX7_across_216 : decode cX7_across 216 = .ok (.iaload, 1) := by decide +kernel
theorem dX7_across_217 : decode cX7_across 217 = .ok (.bipush 7, 2) := by decide +kernel
theorem dX7_across_219 : decode cX7_across 219 = .ok (.invokevirtual 157, 3) := by decide +kernel
theorem dX7_across_222 : decode cX7_across 222 = .ok (.isub, 1) := by decide +kernel
theorem dX7_across_223 : decode cX7_across 223 = .ok (.istore 6, 2) := by decide +kernel
theorem dX7_across_225 : decode cX7_across 225 = .ok (.aload_n 0, 1) := by decide +kernel
theorem dX7_across_226 : decode cX7_across 226 = .ok (.iload 5, 2) := by decide +kernel
theorem dX7_across_228 : decode cX7_across 228 = .ok (.invokevirtual 207, 3) := by decide +kernel
theorem dX7_across_231 : decode cX7_across 231 = .ok (.istore 7, 2) := by decide +kernel
theorem dX7_across_233 : decode cX7_across 233 = .ok (.aload_n 0, 1) := by decide +kernel
theorem dX7_across_234 : decode cX7_across 234 = .ok (.getfield 62, 3) := by decide +kernel
theorem dX7_across_237 : decode cX7_across 237 = .ok (.iload 5, 2) := by decide +kernel
theorem dX7_across_239 : decode cX7_across 239 = .ok (.aload_n 0, 1) := by decide +kernel
theorem dX7_across_240 : decode cX7_across 240 = .ok (.getfield 65, 3) := by decide +kernel
theorem dX7_across_243 : decode cX7_across 243 = .ok (.iload_n 1, 1) := by decide +kernel
theorem dX7_across_244 : decode cX7_across 244 = .ok (.iaload, 1) := by decide +kernel
theorem dX7_across_245 : decode cX7_across 245 = .ok (.iload 7, 2) := by decide +kernel
theorem dX7_across_247 : decode cX7_across 247 = .ok (.ifCond .ne 7, 3) := by decide +kernel
theorem dX7_across_250 : decode cX7_across 250 = .ok (.iconst 0, 1) := by decide +kernel
theorem dX7_across_251 : decode cX7_across 251 = .ok (.goto 35, 3) := by decide +kernel
theorem dX7_across_254 : decode cX7_across 254 = .ok (.iload 7, 2) := by decide +kernel
theorem dX7_across_256 : decode cX7_across 256 = .ok (.iconst 1, 1) := by decide +kernel
theorem dX7_across_257 : decode cX7_across 257 = .ok (.if_icmp .ne 8, 3) := by decide +kernel
theorem dX7_across_260 : decode cX7_across 260 = .ok (.iload 6, 2) := by decide +kernel
theorem dX7_across_262 : decode cX7_across 262 = .ok (.goto 24, 3) := by decide +kernel
theorem dX7_across_265 : decode cX7_across 265 = .ok (.iload 7, 2) := by decide +kernel
theorem dX7_across_267 : decode cX7_across 267 = .ok (.iconst 2, 1) := by decide +kernel
theorem dX7_across_268 : decode cX7_across 268 = .ok (.if_icmp .ne 10, 3) := by decide +kernel
theorem dX7_across_271 : decode cX7_across 271 = .ok (.iload 6, 2) := by decide +kernel
theorem dX7_across_273 : decode cX7_across 273 = .ok (.iconst 2, 1) := by decide +kernel
theorem dX7_across_274 : decode cX7_across 274 = .ok (.idiv, 1) := by decide +kernel
theorem dX7_across_275 : decode cX7_across 275 = .ok (.goto 11, 3) := by decide +kernel
theorem dX7_across_278 : decode cX7_across 278 = .ok (.iload_n 2, 1) := by decide +kernel
theorem dX7_across_279 : decode cX7_across 279 = .ok (.aload_n 0, 1) := by decide +kernel
theorem dX7_across_280 : decode cX7_across 280 = .ok (.iload 5, 2) := by decide +kernel
theorem dX7_across_282 : decode cX7_across 282 = .ok (.invokevirtual 210, 3) := by decide +kernel
theorem dX7_across_285 : decode cX7_across 285 = .ok (.isub, 1) := by decide +kernel
theorem dX7_across_286 : decode cX7_across 286 = .ok (.iadd, 1) := by decide +kernel
theorem dX7_across_287 : decode cX7_across 287 = .ok (.iastore, 1) := by decide +kernel
theorem dX7_across_288 : decode cX7_across 288 = .ok (.iinc 5 1, 3) := by decide +kernel
theorem dX7_across_291 : decode cX7_across 291 = .ok (.goto (-95), 3) := by decide +kernel
theorem dX7_across_294 : decode cX7_across 294 = .ok (.return_, 1) := by decide +kernel
theorem dX7_draws_0 : decode cX7_draws 0 = .ok (.aload_n 0, 1) := by decide +kernel
theorem dX7_draws_1 : decode cX7_draws 1 = .ok (.invokevirtual 213, 3) := by decide +kernel
theorem dX7_draws_4 : decode cX7_draws 4 = .ok (.aload_n 0, 1) := by decide +kernel
theorem dX7_draws_5 : decode cX7_draws 5 = .ok (.iload_n 1, 1) := by decide +kernel
theorem dX7_draws_6 : decode cX7_draws 6 = .ok (.invokevirtual 216, 3) := by decide +kernel
theorem dX7_draws_9 : decode cX7_draws 9 = .ok (.iconst 0, 1) := by decide +kernel
theorem dX7_draws_10 : decode cX7_draws 10 = .ok (.istore_n 2, 1) := by decide +kernel
theorem dX7_draws_11 : decode cX7_draws 11 = .ok (.iload_n 2, 1) := by decide +kernel
theorem dX7_draws_12 : decode cX7_draws 12 = .ok (.aload_n 0, 1) := by decide +kernel
theorem dX7_draws_13 : decode cX7_draws 13 = .ok (.getfield 182, 3) := by decide +kernel
theorem dX7_draws_16 : decode cX7_draws 16 = .ok (.if_icmp .ge 26, 3) := by decide +kernel
theorem dX7_draws_19 : decode cX7_draws 19 = .ok (.aload_n 0, 1) := by decide +kernel
theorem dX7_draws_20 : decode cX7_draws 20 = .ok (.iload_n 2, 1) := by decide +kernel
theorem dX7_draws_21 : decode cX7_draws 21 = .ok (.iload_n 1, 1) := by decide +kernel
theorem dX7_draws_22 : decode cX7_draws 22 = .ok (.invokevirtual 219, 3) := by decide +kernel
theorem dX7_draws_25 : decode cX7_draws 25 = .ok (.aload_n 0, 1) := by decide +kernel
theorem dX7_draws_26 : decode cX7_draws 26 = .ok (.iload_n 2, 1) := by decide +kernel
theorem dX7_draws_27 : decode cX7_draws 27 = .ok (.iload_n 1, 1) := by decide +kernel
theorem dX7_draws_28 : decode cX7_draws 28 = .ok (.invokevirtual 222, 3) := by decide +kernel
theorem dX7_draws_31 : decode cX7_draws 31 = .ok (.aload_n 0, 1) := by decide +kernel
theorem dX7_draws_32 : decode cX7_draws 32 = .ok (.iload_n 2, 1) := by decide +kernel
theorem dX7_draws_33 : decode cX7_draws 33 = .ok (.invokevirtual 225, 3) := by decide +kernel
theorem dX7_draws_36 : decode cX7_draws 36 = .ok (.iinc 2 1, 3) := by decide +kernel
theorem dX7_draws_39 : decode cX7_draws 39 = .ok (.goto (-28), 3) := by decide +kernel
theorem dX7_draws_42 : decode cX7_draws 42 = .ok (.return_, 1) := by decide +kernel
theorem dX7_item_0 : decode cX7_item 0 = .ok (.aload_n 0, 1) := by decide +kernel
theorem dX7_item_1 : decode cX7_item 1 = .ok (.iload_n 1, 1) := by decide +kernel
theorem dX7_item_2 : decode cX7_item 2 = .ok (.invokevirtual 153, 3) := by decide +kernel
theorem dX7_item_5 : decode cX7_item 5 = .ok (.ifCond .eq 13, 3) := by decide +kernel
theorem dX7_item_8 : decode cX7_item 8 = .ok (.iload_n 2, 1) := by decide +kernel
theorem dX7_item_9 : decode cX7_item 9 = .ok (.iconst 0, 1) := by decide +kernel
theorem dX7_item_10 : decode cX7_item 10 = .ok (.bipush 11, 2) := by decide +kernel
theorem dX7_item_12 : decode cX7_item 12 = .ok (.invokestatic 75, 3) := by decide +kernel
theorem dX7_item_15 : decode cX7_item 15 = .ok (.ifCond .ne 7, 3) := by decide +kernel
theorem dX7_item_18 : decode cX7_item 18 = .ok (.sipush (-1002), 3) := by decide +kernel
theorem dX7_item_21 : decode cX7_item 21 = .ok (.ireturn, 1) := by decide +kernel
theorem dX7_item_22 : decode cX7_item 22 = .ok (.iload_n 2, 1) := by decide +kernel
theorem dX7_item_23 : decode cX7_item 23 = .ok (.bipush 11, 2) := by decide +kernel
theorem dX7_item_25 : decode cX7_item 25 = .ok (.if_icmp .ne 11, 3) := by decide +kernel
theorem dX7_item_28 : decode cX7_item 28 = .ok (.aload_n 0, 1) := by decide +kernel
theorem dX7_item_29 : decode cX7_item 29 = .ok (.iload_n 1, 1) := by decide +kernel
theorem dX7_item_30 : decode cX7_item 30 = .ok (.invokevirtual 179, 3) := by decide +kernel
theorem dX7_item_33 : decode cX7_item 33 = .ok (.goto 9, 3) := by decide +kernel
theorem dX7_item_36 : decode cX7_item 36 = .ok (.aload_n 0, 1) := by decide +kernel
theorem dX7_item_37 : decode cX7_item 37 = .ok (.iload_n 1, 1) := by decide +kernel
theorem dX7_item_38 : decode cX7_item 38 = .ok (.iload_n 2, 1) := by decide +kernel
theorem dX7_item_39 : decode cX7_item 39 = .ok (.invokevirtual 157, 3) := by decide +kernel
theorem dX7_item_42 : decode cX7_item 42 = .ok (.ireturn, 1) := by decide +kernel
theorem dX7_liesAt_0 : decode cX7_liesAt 0 = .ok (.iload_n 2, 1) := by decide +kernel
theorem dX7_liesAt_1 : decode cX7_liesAt 1 = .ok (.tableswitch 104 0 6 #[43, 50, 52, 59, 66, 73, 86], 43) := by decide +kernel
theorem dX7_liesAt_44 : decode cX7_liesAt 44 = .ok (.aload_n 0, 1) := by decide +kernel
theorem dX7_liesAt_45 : decode cX7_liesAt 45 = .ok (.getfield 25, 3) := by decide +kernel
theorem dX7_liesAt_48 : decode cX7_liesAt 48 = .ok (.iload_n 1, 1) := by decide +kernel
theorem dX7_liesAt_49 : decode cX7_liesAt 49 = .ok (.iaload, 1) := by decide +kernel
theorem dX7_liesAt_50 : decode cX7_liesAt 50 = .ok (.ireturn, 1) := by decide +kernel
theorem dX7_liesAt_51 : decode cX7_liesAt 51 = .ok (.iload_n 1, 1) := by decide +kernel
theorem dX7_liesAt_52 : decode cX7_liesAt 52 = .ok (.ireturn, 1) := by decide +kernel
theorem dX7_liesAt_53 : decode cX7_liesAt 53 = .ok (.aload_n 0, 1) := by decide +kernel
theorem dX7_liesAt_54 : decode cX7_liesAt 54 = .ok (.getfield 59, 3) := by decide +kernel
theorem dX7_liesAt_57 : decode cX7_liesAt 57 = .ok (.iload_n 1, 1) := by decide +kernel
theorem dX7_liesAt_58 : decode cX7_liesAt 58 = .ok (.iaload, 1) := by decide +kernel
theorem dX7_liesAt_59 : decode cX7_liesAt 59 = .ok (.ireturn, 1) := by decide +kernel
theorem dX7_liesAt_60 : decode cX7_liesAt 60 = .ok (.aload_n 0, 1) := by decide +kernel
theorem dX7_liesAt_61 : decode cX7_liesAt 61 = .ok (.getfield 34, 3) := by decide +kernel
theorem dX7_liesAt_64 : decode cX7_liesAt 64 = .ok (.iload_n 1, 1) := by decide +kernel
theorem dX7_liesAt_65 : decode cX7_liesAt 65 = .ok (.iaload, 1) := by decide +kernel
theorem dX7_liesAt_66 : decode cX7_liesAt 66 = .ok (.ireturn, 1) := by decide +kernel
theorem dX7_liesAt_67 : decode cX7_liesAt 67 = .ok (.aload_n 0, 1) := by decide +kernel
theorem dX7_liesAt_68 : decode cX7_liesAt 68 = .ok (.getfield 62, 3) := by decide +kernel
theorem dX7_liesAt_71 : decode cX7_liesAt 71 = .ok (.iload_n 1, 1) := by decide +kernel
theorem dX7_liesAt_72 : decode cX7_liesAt 72 = .ok (.iaload, 1) := by decide +kernel
theorem dX7_liesAt_73 : decode cX7_liesAt 73 = .ok (.ireturn, 1) := by decide +kernel
theorem dX7_liesAt_74 : decode cX7_liesAt 74 = .ok (.aload_n 0, 1) := by decide +kernel
theorem dX7_liesAt_75 : decode cX7_liesAt 75 = .ok (.getfield 62, 3) := by decide +kernel
theorem dX7_liesAt_78 : decode cX7_liesAt 78 = .ok (.iload_n 1, 1) := by decide +kernel
theorem dX7_liesAt_79 : decode cX7_liesAt 79 = .ok (.iaload, 1) := by decide +kernel
theorem dX7_liesAt_80 : decode cX7_liesAt 80 = .ok (.aload_n 0, 1) := by decide +kernel
theorem dX7_liesAt_81 : decode cX7_liesAt 81 = .ok (.iload_n 1, 1) := by decide +kernel
theorem dX7_liesAt_82 : decode cX7_liesAt 82 = .ok (.invokevirtual 210, 3) := by decide +kernel
theorem dX7_liesAt_85 : decode cX7_liesAt 85 = .ok (.iadd, 1) := by decide +kernel
theorem dX7_liesAt_86 : decode cX7_liesAt 86 = .ok (.ireturn, 1) := by decide +kernel
theorem dX7_liesAt_87 : decode cX7_liesAt 87 = .ok (.aload_n 0, 1) := by decide +kernel
theorem dX7_liesAt_88 : decode cX7_liesAt 88 = .ok (.getfield 34, 3) := by decide +kernel
theorem dX7_liesAt_91 : decode cX7_liesAt 91 = .ok (.iload_n 1, 1) := by decide +kernel
theorem dX7_liesAt_92 : decode cX7_liesAt 92 = .ok (.iaload, 1) := by decide +kernel
theorem dX7_liesAt_93 : decode cX7_liesAt 93 = .ok (.aload_n 0, 1) := by decide +kernel
theorem dX7_liesAt_94 : decode cX7_liesAt 94 = .ok (.aload_n 0, 1) := by decide +kernel
theorem dX7_liesAt_95 : decode cX7_liesAt 95 = .ok (.getfield 22, 3) := by decide +kernel
theorem dX7_liesAt_98 : decode cX7_liesAt 98 = .ok (.iload_n 1, 1) := by decide +kernel
theorem dX7_liesAt_99 : decode cX7_liesAt 99 = .ok (.iaload, 1) := by decide +kernel
theorem dX7_liesAt_100 : decode cX7_liesAt 100 = .ok (.invokevirtual 179, 3) := by decide +kernel
theorem dX7_liesAt_103 : decode cX7_liesAt 103 = .ok (.isub, 1) := by decide +kernel
theorem dX7_liesAt_104 : decode cX7_liesAt 104 = .ok (.ireturn, 1) := by decide +kernel
theorem dX7_liesAt_105 : decode cX7_liesAt 105 = .ok (.aload_n 0, 1) := by decide +kernel
theorem dX7_liesAt_106 : decode cX7_liesAt 106 = .ok (.getfield 40, 3) := by decide +kernel
theorem dX7_liesAt_109 : decode cX7_liesAt 109 = .ok (.iload_n 1, 1) := by decide +kernel
theorem dX7_liesAt_110 : decode cX7_liesAt 110 = .ok (.iaload, 1) := by decide +kernel
theorem dX7_liesAt_111 : decode cX7_liesAt 111 = .ok (.ireturn, 1) := by decide +kernel
theorem dX7_lies_0 : decode cX7_lies 0 = .ok (.aload_n 0, 1) := by decide +kernel
theorem dX7_lies_1 : decode cX7_lies 1 = .ok (.iload_n 1, 1) := by decide +kernel
theorem dX7_lies_2 : decode cX7_lies 2 = .ok (.invokevirtual 153, 3) := by decide +kernel
theorem dX7_lies_5 : decode cX7_lies 5 = .ok (.ifCond .eq 13, 3) := by decide +kernel
theorem dX7_lies_8 : decode cX7_lies 8 = .ok (.iload_n 2, 1) := by decide +kernel
theorem dX7_lies_9 : decode cX7_lies 9 = .ok (.iconst 0, 1) := by decide +kernel
theorem dX7_lies_10 : decode cX7_lies 10 = .ok (.bipush 7, 2) := by decide +kernel
theorem dX7_lies_12 : decode cX7_lies 12 = .ok (.invokestatic 75, 3) := by decide +kernel
theorem dX7_lies_15 : decode cX7_lies 15 = .ok (.ifCond .ne 7, 3) := by decide +kernel
theorem dX7_lies_18 : decode cX7_lies 18 = .ok (.sipush (-1002), 3) := by decide +kernel
theorem dX7_lies_21 : decode cX7_lies 21 = .ok (.ireturn, 1) := by decide +kernel
theorem dX7_lies_22 : decode cX7_lies 22 = .ok (.aload_n 0, 1) := by decide +kernel
theorem dX7_lies_23 : decode cX7_lies 23 = .ok (.iload_n 1, 1) := by decide +kernel
theorem dX7_lies_24 : decode cX7_lies 24 = .ok (.bipush 10, 2) := by decide +kernel
theorem dX7_lies_26 : decode cX7_lies 26 = .ok (.invokevirtual 157, 3) := by decide +kernel
theorem dX7_lies_29 : decode cX7_lies 29 = .ok (.iconst 1, 1) := by decide +kernel
theorem dX7_lies_30 : decode cX7_lies 30 = .ok (.if_icmp .ne 7, 3) := by decide +kernel
theorem dX7_lies_33 : decode cX7_lies 33 = .ok (.sipush (-1003), 3) := by decide +kernel
theorem dX7_lies_36 : decode cX7_lies 36 = .ok (.ireturn, 1) := by decide +kernel
theorem dX7_lies_37 : decode cX7_lies 37 = .ok (.aload_n 0, 1) := by decide +kernel
theorem dX7_lies_38 : decode cX7_lies 38 = .ok (.aload_n 0, 1) := by decide +kernel
theorem dX7_lies_39 : decode cX7_lies 39 = .ok (.getfield 7, 3) := by decide +kernel
theorem dX7_lies_42 : decode cX7_lies 42 = .ok (.sipush 177, 3) := by decide +kernel
theorem dX7_lies_45 : decode cX7_lies 45 = .ok (.iaload, 1) := by decide +kernel
theorem dX7_lies_46 : decode cX7_lies 46 = .ok (.invokevirtual 161, 3) := by decide +kernel
theorem dX7_lies_49 : decode cX7_lies 49 = .ok (.aload_n 0, 1) := by decide +kernel
theorem dX7_lies_50 : decode cX7_lies 50 = .ok (.aload_n 0, 1) := by decide +kernel
theorem dX7_lies_51 : decode cX7_lies 51 = .ok (.iload_n 1, 1) := by decide +kernel
theorem dX7_lies_52 : decode cX7_lies 52 = .ok (.invokevirtual 164, 3) := by decide +kernel
theorem dX7_lies_55 : decode cX7_lies 55 = .ok (.iload_n 2, 1) := by decide +kernel
theorem dX7_lies_56 : decode cX7_lies 56 = .ok (.invokevirtual 228, 3) := by decide +kernel
theorem dX7_lies_59 : decode cX7_lies 59 = .ok (.ireturn, 1) := by decide +kernel
theorem dX7_ordered_0 : decode cX7_ordered 0 = .ok (.iload_n 1, 1) := by decide +kernel
theorem dX7_ordered_1 : decode cX7_ordered 1 = .ok (.ifCond .ge 7, 3) := by decide +kernel
theorem dX7_ordered_4 : decode cX7_ordered 4 = .ok (.sipush (-1002), 3) := by decide +kernel
theorem dX7_ordered_7 : decode cX7_ordered 7 = .ok (.ireturn, 1) := by decide +kernel
theorem dX7_ordered_8 : decode cX7_ordered 8 = .ok (.aload_n 0, 1) := by decide +kernel
theorem dX7_ordered_9 : decode cX7_ordered 9 = .ok (.invokevirtual 213, 3) := by decide +kernel
theorem dX7_ordered_12 : decode cX7_ordered 12 = .ok (.iload_n 1, 1) := by decide +kernel
theorem dX7_ordered_13 : decode cX7_ordered 13 = .ok (.aload_n 0, 1) := by decide +kernel
theorem dX7_ordered_14 : decode cX7_ordered 14 = .ok (.getfield 176, 3) := by decide +kernel
theorem dX7_ordered_17 : decode cX7_ordered 17 = .ok (.if_icmp .ge 12, 3) := by decide +kernel
theorem dX7_ordered_20 : decode cX7_ordered 20 = .ok (.aload_n 0, 1) := by decide +kernel
theorem dX7_ordered_21 : decode cX7_ordered 21 = .ok (.getfield 22, 3) := by decide +kernel
theorem dX7_ordered_24 : decode cX7_ordered 24 = .ok (.iload_n 1, 1) := by decide +kernel
theorem dX7_ordered_25 : decode cX7_ordered 25 = .ok (.iaload, 1) := by decide +kernel
theorem dX7_ordered_26 : decode cX7_ordered 26 = .ok (.goto 6, 3) := by decide +kernel
theorem dX7_ordered_29 : decode cX7_ordered 29 = .ok (.sipush (-1001), 3) := by decide +kernel
theorem dX7_ordered_32 : decode cX7_ordered 32 = .ok (.ireturn, 1) := by decide +kernel
theorem dX7_outer_0 : decode cX7_outer 0 = .ok (.aload_n 0, 1) := by decide +kernel
theorem dX7_outer_1 : decode cX7_outer 1 = .ok (.getfield 7, 3) := by decide +kernel
theorem dX7_outer_4 : decode cX7_outer 4 = .ok (.sipush 178, 3) := by decide +kernel
theorem dX7_outer_7 : decode cX7_outer 7 = .ok (.iaload, 1) := by decide +kernel
theorem dX7_outer_8 : decode cX7_outer 8 = .ok (.aload_n 0, 1) := by decide +kernel
theorem dX7_outer_9 : decode cX7_outer 9 = .ok (.getfield 31, 3) := by decide +kernel
theorem dX7_outer_12 : decode cX7_outer 12 = .ok (.iload_n 1, 1) := by decide +kernel
theorem dX7_outer_13 : decode cX7_outer 13 = .ok (.iaload, 1) := by decide +kernel
theorem dX7_outer_14 : decode cX7_outer 14 = .ok (.aload_n 0, 1) := by decide +kernel
theorem dX7_outer_15 : decode cX7_outer 15 = .ok (.getfield 28, 3) := by decide +kernel
theorem dX7_outer_18 : decode cX7_outer 18 = .ok (.iload_n 1, 1) := by decide +kernel
theorem dX7_outer_19 : decode cX7_outer 19 = .ok (.iaload, 1) := by decide +kernel
theorem dX7_outer_20 : decode cX7_outer 20 = .ok (.isub, 1) := by decide +kernel
theorem dX7_outer_21 : decode cX7_outer 21 = .ok (.iconst 1, 1) := by decide +kernel
theorem dX7_outer_22 : decode cX7_outer 22 = .ok (.isub, 1) := by decide +kernel
theorem dX7_outer_23 : decode cX7_outer 23 = .ok (.imul, 1) := by decide +kernel
theorem dX7_outer_24 : decode cX7_outer 24 = .ok (.istore_n 2, 1) := by decide +kernel
theorem dX7_outer_25 : decode cX7_outer 25 = .ok (.aload_n 0, 1) := by decide +kernel
theorem dX7_outer_26 : decode cX7_outer 26 = .ok (.getfield 28, 3) := by decide +kernel
theorem dX7_outer_29 : decode cX7_outer 29 = .ok (.iload_n 1, 1) := by decide +kernel
theorem dX7_outer_30 : decode cX7_outer 30 = .ok (.iaload, 1) := by decide +kernel
theorem dX7_outer_31 : decode cX7_outer 31 = .ok (.istore_n 3, 1) := by decide +kernel
theorem dX7_outer_32 : decode cX7_outer 32 = .ok (.iload_n 3, 1) := by decide +kernel
theorem dX7_outer_33 : decode cX7_outer 33 = .ok (.aload_n 0, 1) := by decide +kernel
theorem dX7_outer_34 : decode cX7_outer 34 = .ok (.getfield 31, 3) := by decide +kernel
theorem dX7_outer_37 : decode cX7_outer 37 = .ok (.iload_n 1, 1) := by decide +kernel
theorem dX7_outer_38 : decode cX7_outer 38 = .ok (.iaload, 1) := by decide +kernel
theorem dX7_outer_39 : decode cX7_outer 39 = .ok (.if_icmp .ge 17, 3) := by decide +kernel
theorem dX7_outer_42 : decode cX7_outer 42 = .ok (.iload_n 2, 1) := by decide +kernel
theorem dX7_outer_43 : decode cX7_outer 43 = .ok (.aload_n 0, 1) := by decide +kernel
theorem dX7_outer_44 : decode cX7_outer 44 = .ok (.iload_n 3, 1) := by decide +kernel
theorem dX7_outer_45 : decode cX7_outer 45 = .ok (.invokevirtual 185, 3) := by decide +kernel
theorem dX7_outer_48 : decode cX7_outer 48 = .ok (.iadd, 1) := by decide +kernel
theorem dX7_outer_49 : decode cX7_outer 49 = .ok (.istore_n 2, 1) := by decide +kernel
theorem dX7_outer_50 : decode cX7_outer 50 = .ok (.iinc 3 1, 3) := by decide +kernel
theorem dX7_outer_53 : decode cX7_outer 53 = .ok (.goto (-21), 3) := by decide +kernel
theorem dX7_outer_56 : decode cX7_outer 56 = .ok (.iload_n 2, 1) := by decide +kernel
theorem dX7_outer_57 : decode cX7_outer 57 = .ok (.ireturn, 1) := by decide +kernel
theorem dX7_linePart_0 : decode cX7_linePart 0 = .ok (.iload_n 2, 1) := by decide +kernel
theorem dX7_linePart_1 : decode cX7_linePart 1 = .ok (.tableswitch 107 0 6 #[43, 57, 64, 71, 78, 85, 100], 43) := by decide +kernel
theorem dX7_linePart_44 : decode cX7_linePart 44 = .ok (.aload_n 0, 1) := by decide +kernel
theorem dX7_linePart_45 : decode cX7_linePart 45 = .ok (.getfield 31, 3) := by decide +kernel
theorem dX7_linePart_48 : decode cX7_linePart 48 = .ok (.iload_n 1, 1) := by decide +kernel
theorem dX7_linePart_49 : decode cX7_linePart 49 = .ok (.iaload, 1) := by decide +kernel
theorem dX7_linePart_50 : decode cX7_linePart 50 = .ok (.aload_n 0, 1) := by decide +kernel
theorem dX7_linePart_51 : decode cX7_linePart 51 = .ok (.getfield 28, 3) := by decide +kernel
theorem dX7_linePart_54 : decode cX7_linePart 54 = .ok (.iload_n 1, 1) := by decide +kernel
theorem dX7_linePart_55 : decode cX7_linePart 55 = .ok (.iaload, 1) := by decide +kernel
theorem dX7_linePart_56 : decode cX7_linePart 56 = .ok (.isub, 1) := by decide +kernel
theorem dX7_linePart_57 : decode cX7_linePart 57 = .ok (.ireturn, 1) := by decide +kernel
theorem dX7_linePart_58 : decode cX7_linePart 58 = .ok (.aload_n 0, 1) := by decide +kernel
theorem dX7_linePart_59 : decode cX7_linePart 59 = .ok (.getfield 28, 3) := by decide +kernel
theorem dX7_linePart_62 : decode cX7_linePart 62 = .ok (.iload_n 1, 1) := by decide +kernel
theorem dX7_linePart_63 : decode cX7_linePart 63 = .ok (.iaload, 1) := by decide +kernel
theorem dX7_linePart_64 : decode cX7_linePart 64 = .ok (.ireturn, 1) := by decide +kernel
theorem dX7_linePart_65 : decode cX7_linePart 65 = .ok (.aload_n 0, 1) := by decide +kernel
theorem dX7_linePart_66 : decode cX7_linePart 66 = .ok (.getfield 65, 3) := by decide +kernel
theorem dX7_linePart_69 : decode cX7_linePart 69 = .ok (.iload_n 1, 1) := by decide +kernel
theorem dX7_linePart_70 : decode cX7_linePart 70 = .ok (.iaload, 1) := by decide +kernel
theorem dX7_linePart_71 : decode cX7_linePart 71 = .ok (.ireturn, 1) := by decide +kernel
theorem dX7_linePart_72 : decode cX7_linePart 72 = .ok (.aload_n 0, 1) := by decide +kernel
theorem dX7_linePart_73 : decode cX7_linePart 73 = .ok (.getfield 68, 3) := by decide +kernel
theorem dX7_linePart_76 : decode cX7_linePart 76 = .ok (.iload_n 1, 1) := by decide +kernel
theorem dX7_linePart_77 : decode cX7_linePart 77 = .ok (.iaload, 1) := by decide +kernel
theorem dX7_linePart_78 : decode cX7_linePart 78 = .ok (.ireturn, 1) := by decide +kernel
theorem dX7_linePart_79 : decode cX7_linePart 79 = .ok (.aload_n 0, 1) := by decide +kernel
theorem dX7_linePart_80 : decode cX7_linePart 80 = .ok (.getfield 50, 3) := by decide +kernel
theorem dX7_linePart_83 : decode cX7_linePart 83 = .ok (.iload_n 1, 1) := by decide +kernel
theorem dX7_linePart_84 : decode cX7_linePart 84 = .ok (.iaload, 1) := by decide +kernel
theorem dX7_linePart_85 : decode cX7_linePart 85 = .ok (.ireturn, 1) := by decide +kernel
theorem dX7_linePart_86 : decode cX7_linePart 86 = .ok (.aload_n 0, 1) := by decide +kernel
theorem dX7_linePart_87 : decode cX7_linePart 87 = .ok (.getfield 56, 3) := by decide +kernel
theorem dX7_linePart_90 : decode cX7_linePart 90 = .ok (.iload_n 1, 1) := by decide +kernel
theorem dX7_linePart_91 : decode cX7_linePart 91 = .ok (.baload, 1) := by decide +kernel
theorem dX7_linePart_92 : decode cX7_linePart 92 = .ok (.ifCond .eq 7, 3) := by decide +kernel
theorem dX7_linePart_95 : decode cX7_linePart 95 = .ok (.iconst 1, 1) := by decide +kernel
theorem dX7_linePart_96 : decode cX7_linePart 96 = .ok (.goto 4, 3) := by decide +kernel
theorem dX7_linePart_99 : decode cX7_linePart 99 = .ok (.iconst 0, 1) := by decide +kernel
theorem dX7_linePart_100 : decode cX7_linePart 100 = .ok (.ireturn, 1) := by decide +kernel
theorem dX7_linePart_101 : decode cX7_linePart 101 = .ok (.aload_n 0, 1) := by decide +kernel
theorem dX7_linePart_102 : decode cX7_linePart 102 = .ok (.getfield 53, 3) := by decide +kernel
theorem dX7_linePart_105 : decode cX7_linePart 105 = .ok (.iload_n 1, 1) := by decide +kernel
theorem dX7_linePart_106 : decode cX7_linePart 106 = .ok (.iaload, 1) := by decide +kernel
theorem dX7_linePart_107 : decode cX7_linePart 107 = .ok (.ireturn, 1) := by decide +kernel
theorem dX7_linePart_108 : decode cX7_linePart 108 = .ok (.aload_n 0, 1) := by decide +kernel
theorem dX7_linePart_109 : decode cX7_linePart 109 = .ok (.iload_n 1, 1) := by decide +kernel
theorem dX7_linePart_110 : decode cX7_linePart 110 = .ok (.invokevirtual 231, 3) := by decide +kernel
theorem dX7_linePart_113 : decode cX7_linePart 113 = .ok (.ireturn, 1) := by decide +kernel
theorem dX7_line_0 : decode cX7_line 0 = .ok (.iload_n 1, 1) := by decide +kernel
theorem dX7_line_1 : decode cX7_line 1 = .ok (.ifCond .lt 13, 3) := by decide +kernel
theorem dX7_line_4 : decode cX7_line 4 = .ok (.iload_n 2, 1) := by decide +kernel
theorem dX7_line_5 : decode cX7_line 5 = .ok (.iconst 0, 1) := by decide +kernel
theorem dX7_line_6 : decode cX7_line 6 = .ok (.bipush 7, 2) := by decide +kernel
theorem dX7_line_8 : decode cX7_line 8 = .ok (.invokestatic 75, 3) := by decide +kernel
theorem dX7_line_11 : decode cX7_line 11 = .ok (.ifCond .ne 7, 3) := by decide +kernel
theorem dX7_line_14 : decode cX7_line 14 = .ok (.sipush (-1002), 3) := by decide +kernel
theorem dX7_line_17 : decode cX7_line 17 = .ok (.ireturn, 1) := by decide +kernel
theorem dX7_line_18 : decode cX7_line 18 = .ok (.aload_n 0, 1) := by decide +kernel
theorem dX7_line_19 : decode cX7_line 19 = .ok (.aload_n 0, 1) := by decide +kernel
theorem dX7_line_20 : decode cX7_line 20 = .ok (.getfield 7, 3) := by decide +kernel
theorem dX7_line_23 : decode cX7_line 23 = .ok (.sipush 177, 3) := by decide +kernel
theorem dX7_line_26 : decode cX7_line 26 = .ok (.iaload, 1) := by decide +kernel
theorem dX7_line_27 : decode cX7_line 27 = .ok (.invokevirtual 161, 3) := by decide +kernel
theorem dX7_line_30 : decode cX7_line 30 = .ok (.iload_n 1, 1) := by decide +kernel
theorem dX7_line_31 : decode cX7_line 31 = .ok (.aload_n 0, 1) := by decide +kernel
theorem dX7_line_32 : decode cX7_line 32 = .ok (.getfield 182, 3) := by decide +kernel
theorem dX7_line_35 : decode cX7_line 35 = .ok (.if_icmp .ge 12, 3) := by decide +kernel
theorem dX7_line_38 : decode cX7_line 38 = .ok (.aload_n 0, 1) := by decide +kernel
theorem dX7_line_39 : decode cX7_line 39 = .ok (.iload_n 1, 1) := by decide +kernel
theorem dX7_line_40 : decode cX7_line 40 = .ok (.iload_n 2, 1) := by decide +kernel
theorem dX7_line_41 : decode cX7_line 41 = .ok (.invokevirtual 234, 3) := by decide +kernel
theorem dX7_line_44 : decode cX7_line 44 = .ok (.goto 6, 3) := by decide +kernel
theorem dX7_line_47 : decode cX7_line 47 = .ok (.sipush (-1001), 3) := by decide +kernel
theorem dX7_line_50 : decode cX7_line 50 = .ok (.ireturn, 1) := by decide +kernel
theorem dX7_at_0 : decode cX7_at 0 = .ok (.iload_n 1, 1) := by decide +kernel
theorem dX7_at_1 : decode cX7_at 1 = .ok (.sipush (-2000), 3) := by decide +kernel
theorem dX7_at_4 : decode cX7_at 4 = .ok (.sipush 2000, 3) := by decide +kernel
theorem dX7_at_7 : decode cX7_at 7 = .ok (.invokestatic 75, 3) := by decide +kernel
theorem dX7_at_10 : decode cX7_at 10 = .ok (.ifCond .eq 14, 3) := by decide +kernel
theorem dX7_at_13 : decode cX7_at 13 = .ok (.iload_n 2, 1) := by decide +kernel
theorem dX7_at_14 : decode cX7_at 14 = .ok (.iconst 0, 1) := by decide +kernel
theorem dX7_at_15 : decode cX7_at 15 = .ok (.sipush 5000, 3) := by decide +kernel
theorem dX7_at_18 : decode cX7_at 18 = .ok (.invokestatic 75, 3) := by decide +kernel
theorem dX7_at_21 : decode cX7_at 21 = .ok (.ifCond .ne 7, 3) := by decide +kernel
theorem dX7_at_24 : decode cX7_at 24 = .ok (.sipush (-1002), 3) := by decide +kernel
theorem dX7_at_27 : decode cX7_at 27 = .ok (.ireturn, 1) := by decide +kernel
theorem dX7_at_28 : decode cX7_at 28 = .ok (.aload_n 0, 1) := by decide +kernel
theorem dX7_at_29 : decode cX7_at 29 = .ok (.aload_n 0, 1) := by decide +kernel
theorem dX7_at_30 : decode cX7_at 30 = .ok (.getfield 7, 3) := by decide +kernel
theorem dX7_at_33 : decode cX7_at 33 = .ok (.sipush 177, 3) := by decide +kernel
theorem dX7_at_36 : decode cX7_at 36 = .ok (.iaload, 1) := by decide +kernel
theorem dX7_at_37 : decode cX7_at 37 = .ok (.invokevirtual 161, 3) := by decide +kernel
theorem dX7_at_40 : decode cX7_at 40 = .ok (.sipush (-1001), 3) := by decide +kernel
theorem dX7_at_43 : decode cX7_at 43 = .ok (.istore_n 3, 1) := by decide +kernel
theorem dX7_at_44 : decode cX7_at 44 = .ok (.iconst 0, 1) := by decide +kernel
theorem dX7_at_45 : decode cX7_at 45 = .ok (.istore 4, 2) := by decide +kernel
theorem dX7_at_47 : decode cX7_at 47 = .ok (.iload 4, 2) := by decide +kernel
theorem dX7_at_49 : decode cX7_at 49 = .ok (.aload_n 0, 1) := by decide +kernel
theorem dX7_at_50 : decode cX7_at 50 = .ok (.getfield 176, 3) := by decide +kernel
theorem dX7_at_53 : decode cX7_at 53 = .ok (.if_icmp .ge 101, 3) := by decide +kernel
theorem dX7_at_56 : decode cX7_at 56 = .ok (.iload_n 1, 1) := by decide +kernel
theorem dX7_at_57 : decode cX7_at 57 = .ok (.aload_n 0, 1) := by decide +kernel
theorem dX7_at_58 : decode cX7_at 58 = .ok (.getfield 59, 3) := by decide +kernel
theorem dX7_at_61 : decode cX7_at 61 = .ok (.iload 4, 2) := by decide +kernel
theorem dX7_at_63 : decode cX7_at 63 = .ok (.iaload, 1) := by decide +kernel
theorem dX7_at_64 : decode cX7_at 64 = .ok (.aload_n 0, 1) := by decide +kernel
theorem dX7_at_65 : decode cX7_at 65 = .ok (.getfield 59, 3) := by decide +kernel
theorem dX7_at_68 : decode cX7_at 68 = .ok (.iload 4, 2) := by decide +kernel
theorem dX7_at_70 : decode cX7_at 70 = .ok (.iaload, 1) := by decide +kernel
theorem dX7_at_71 : decode cX7_at 71 = .ok (.aload_n 0, 1) := by decide +kernel
theorem dX7_at_72 : decode cX7_at 72 = .ok (.getfield 34, 3) := by decide +kernel
theorem dX7_at_75 : decode cX7_at 75 = .ok (.iload 4, 2) := by decide +kernel
theorem dX7_at_77 : decode cX7_at 77 = .ok (.iaload, 1) := by decide +kernel
theorem dX7_at_78 : decode cX7_at 78 = .ok (.iadd, 1) := by decide +kernel
theorem dX7_at_79 : decode cX7_at 79 = .ok (.iconst 1, 1) := by decide +kernel
theorem dX7_at_80 : decode cX7_at 80 = .ok (.isub, 1) := by decide +kernel
theorem dX7_at_81 : decode cX7_at 81 = .ok (.invokestatic 75, 3) := by decide +kernel
theorem dX7_at_84 : decode cX7_at 84 = .ok (.ifCond .eq 44, 3) := by decide +kernel
theorem dX7_at_87 : decode cX7_at 87 = .ok (.iload_n 2, 1) := by decide +kernel
theorem dX7_at_88 : decode cX7_at 88 = .ok (.aload_n 0, 1) := by decide +kernel
theorem dX7_at_89 : decode cX7_at 89 = .ok (.getfield 62, 3) := by decide +kernel
theorem dX7_at_92 : decode cX7_at 92 = .ok (.iload 4, 2) := by decide +kernel
theorem dX7_at_94 : decode cX7_at 94 = .ok (.iaload, 1) := by decide +kernel
theorem dX7_at_95 : decode cX7_at 95 = .ok (.aload_n 0, 1) := by decide +kernel
theorem dX7_at_96 : decode cX7_at 96 = .ok (.getfield 62, 3) := by decide +kernel
theorem dX7_at_99 : decode cX7_at 99 = .ok (.iload 4, 2) := by decide +kernel
theorem dX7_at_101 : decode cX7_at 101 = .ok (.iaload, 1) := by decide +kernel
theorem dX7_at_102 : decode cX7_at 102 = .ok (.aload_n 0, 1) := by decide +kernel
theorem dX7_at_103 : decode cX7_at 103 = .ok (.aload_n 0, 1) := by decide +kernel
theorem dX7_at_104 : decode cX7_at 104 = .ok (.getfield 22, 3) := by decide +kernel
theorem dX7_at_107 : decode cX7_at 107 = .ok (.iload 4, 2) := by decide +kernel
theorem dX7_at_109 : decode cX7_at 109 = .ok (.iaload, 1) := by decide +kernel
theorem dX7_at_110 : decode cX7_at 110 = .ok (.bipush 7, 2) := by decide +kernel
theorem dX7_at_112 : decode cX7_at 112 = .ok (.invokevirtual 157, 3) := by decide +kernel
theorem dX7_at_115 : decode cX7_at 115 = .ok (.iadd, 1) := by decide +kernel
theorem dX7_at_116 : decode cX7_at 116 = .ok (.iconst 1, 1) := by decide +kernel
theorem dX7_at_117 : decode cX7_at 117 = .ok (.isub, 1) := by decide +kernel
theorem dX7_at_118 : decode cX7_at 118 = .ok (.invokestatic 75, 3) := by decide +kernel
theorem dX7_at_121 : decode cX7_at 121 = .ok (.ifCond .eq 7, 3) := by decide +kernel
theorem dX7_at_124 : decode cX7_at 124 = .ok (.iconst 1, 1) := by decide +kernel
theorem dX7_at_125 : decode cX7_at 125 = .ok (.goto 4, 3) := by decide +kernel
theorem dX7_at_128 : decode cX7_at 128 = .ok (.iconst 0, 1) := by decide +kernel
theorem dX7_at_129 : decode cX7_at 129 = .ok (.istore 5, 2) := by decide +kernel
theorem dX7_at_131 : decode cX7_at 131 = .ok (.iload 5, 2) := by decide +kernel
theorem dX7_at_133 : decode cX7_at 133 = .ok (.ifCond .eq 13, 3) := by decide +kernel
theorem dX7_at_136 : decode cX7_at 136 = .ok (.aload_n 0, 1) := by decide +kernel
theorem dX7_at_137 : decode cX7_at 137 = .ok (.getfield 22, 3) := by decide +kernel
theorem dX7_at_140 : decode cX7_at 140 = .ok (.iload 4, 2) := by decide +kernel
theorem dX7_at_142 : decode cX7_at 142 = .ok (.iaload, 1) := by decide +kernel
theorem dX7_at_143 : decode cX7_at 143 = .ok (.goto 4, 3) := by decide +kernel
theorem dX7_at_146 : decode cX7_at 146 = .ok (.iload_n 3, 1) := by decide +kernel
theorem dX7_at_147 : decode cX7_at 147 = .ok (.istore_n 3, 1) := by decide +kernel
theorem dX7_at_148 : decode cX7_at 148 = .ok (.iinc 4 1, 3) := by decide +kernel
theorem dX7_at_151 : decode cX7_at 151 = .ok (.goto (-104), 3) := by decide +kernel
theorem dX7_at_154 : decode cX7_at 154 = .ok (.iload_n 3, 1) := by decide +kernel
theorem dX7_at_155 : decode cX7_at 155 = .ok (.ireturn, 1) := by decide +kernel
theorem dX7_fits_0 : decode cX7_fits 0 = .ok (.iload_n 1, 1) := by decide +kernel
theorem dX7_fits_1 : decode cX7_fits 1 = .ok (.iconst 1, 1) := by decide +kernel
theorem dX7_fits_2 : decode cX7_fits 2 = .ok (.if_icmp .eq 11, 3) := by decide +kernel
theorem dX7_fits_5 : decode cX7_fits 5 = .ok (.aload_n 0, 1) := by decide +kernel
theorem dX7_fits_6 : decode cX7_fits 6 = .ok (.getfield 182, 3) := by decide +kernel
theorem dX7_fits_9 : decode cX7_fits 9 = .ok (.iload_n 2, 1) := by decide +kernel
theorem dX7_fits_10 : decode cX7_fits 10 = .ok (.if_icmp .gt 7, 3) := by decide +kernel
theorem dX7_fits_13 : decode cX7_fits 13 = .ok (.iconst 1, 1) := by decide +kernel
theorem dX7_fits_14 : decode cX7_fits 14 = .ok (.goto 4, 3) := by decide +kernel
theorem dX7_fits_17 : decode cX7_fits 17 = .ok (.iconst 0, 1) := by decide +kernel
theorem dX7_fits_18 : decode cX7_fits 18 = .ok (.istore_n 3, 1) := by decide +kernel
theorem dX7_fits_19 : decode cX7_fits 19 = .ok (.iconst 0, 1) := by decide +kernel
theorem dX7_fits_20 : decode cX7_fits 20 = .ok (.istore 4, 2) := by decide +kernel
theorem dX7_fits_22 : decode cX7_fits 22 = .ok (.iload 4, 2) := by decide +kernel
theorem dX7_fits_24 : decode cX7_fits 24 = .ok (.aload_n 0, 1) := by decide +kernel
theorem dX7_fits_25 : decode cX7_fits 25 = .ok (.getfield 182, 3) := by decide +kernel
theorem dX7_fits_28 : decode cX7_fits 28 = .ok (.if_icmp .ge 34, 3) := by decide +kernel
theorem dX7_fits_31 : decode cX7_fits 31 = .ok (.iload_n 1, 1) := by decide +kernel
theorem dX7_fits_32 : decode cX7_fits 32 = .ok (.iconst 1, 1) := by decide +kernel
theorem dX7_fits_33 : decode cX7_fits 33 = .ok (.if_icmp .ne 29, 3) := by decide +kernel
theorem dX7_fits_36 : decode cX7_fits 36 = .ok (.iload_n 3, 1) := by decide +kernel
theorem dX7_fits_37 : decode cX7_fits 37 = .ok (.ifCond .eq 17, 3) := by decide +kernel
theorem dX7_fits_40 : decode cX7_fits 40 = .ok (.aload_n 0, 1) := by decide +kernel
theorem dX7_fits_41 : decode cX7_fits 41 = .ok (.getfield 50, 3) := by decide +kernel
theorem dX7_fits_44 : decode cX7_fits 44 = .ok (.iload 4, 2) := by decide +kernel
theorem dX7_fits_46 : decode cX7_fits 46 = .ok (.iaload, 1) := by decide +kernel
theorem dX7_fits_47 : decode cX7_fits 47 = .ok (.ifCond .lt 7, 3) := by decide +kernel
theorem dX7_fits_50 : decode cX7_fits 50 = .ok (.iconst 1, 1) := by decide +kernel
theorem dX7_fits_51 : decode cX7_fits 51 = .ok (.goto 4, 3) := by decide +kernel
theorem dX7_fits_54 : decode cX7_fits 54 = .ok (.iconst 0, 1) := by decide +kernel
theorem dX7_fits_55 : decode cX7_fits 55 = .ok (.istore_n 3, 1) := by decide +kernel
theorem dX7_fits_56 : decode cX7_fits 56 = .ok (.iinc 4 1, 3) := by decide +kernel
theorem dX7_fits_59 : decode cX7_fits 59 = .ok (.goto (-37), 3) := by decide +kernel
theorem dX7_fits_62 : decode cX7_fits 62 = .ok (.iload_n 3, 1) := by decide +kernel
theorem dX7_fits_63 : decode cX7_fits 63 = .ok (.ireturn, 1) := by decide +kernel
theorem dX7_leastWidth_0 : decode cX7_leastWidth 0 = .ok (.iload_n 1, 1) := by decide +kernel
theorem dX7_leastWidth_1 : decode cX7_leastWidth 1 = .ok (.iconst 0, 1) := by decide +kernel
theorem dX7_leastWidth_2 : decode cX7_leastWidth 2 = .ok (.iconst 1, 1) := by decide +kernel
theorem dX7_leastWidth_3 : decode cX7_leastWidth 3 = .ok (.invokestatic 75, 3) := by decide +kernel
theorem dX7_leastWidth_6 : decode cX7_leastWidth 6 = .ok (.ifCond .eq 29, 3) := by decide +kernel
theorem dX7_leastWidth_9 : decode cX7_leastWidth 9 = .ok (.iload_n 2, 1) := by decide +kernel
theorem dX7_leastWidth_10 : decode cX7_leastWidth 10 = .ok (.iload_n 1, 1) := by decide +kernel
theorem dX7_leastWidth_11 : decode cX7_leastWidth 11 = .ok (.ifCond .ne 7, 3) := by decide +kernel
theorem dX7_leastWidth_14 : decode cX7_leastWidth 14 = .ok (.iconst 1, 1) := by decide +kernel
theorem dX7_leastWidth_15 : decode cX7_leastWidth 15 = .ok (.goto 4, 3) := by decide +kernel
theorem dX7_leastWidth_18 : decode cX7_leastWidth 18 = .ok (.iconst 0, 1) := by decide +kernel
theorem dX7_leastWidth_19 : decode cX7_leastWidth 19 = .ok (.iload_n 1, 1) := by decide +kernel
theorem dX7_leastWidth_20 : decode cX7_leastWidth 20 = .ok (.ifCond .ne 8, 3) := by decide +kernel
theorem dX7_leastWidth_23 : decode cX7_leastWidth 23 = .ok (.bipush 16, 2) := by decide +kernel
theorem dX7_leastWidth_25 : decode cX7_leastWidth 25 = .ok (.goto 4, 3) := by decide +kernel
theorem dX7_leastWidth_28 : decode cX7_leastWidth 28 = .ok (.iconst 0, 1) := by decide +kernel
theorem dX7_leastWidth_29 : decode cX7_leastWidth 29 = .ok (.invokestatic 75, 3) := by decide +kernel
theorem dX7_leastWidth_32 : decode cX7_leastWidth 32 = .ok (.ifCond .ne 7, 3) := by decide +kernel
theorem dX7_leastWidth_35 : decode cX7_leastWidth 35 = .ok (.sipush (-1002), 3) := by decide +kernel
theorem dX7_leastWidth_38 : decode cX7_leastWidth 38 = .ok (.ireturn, 1) := by decide +kernel
theorem dX7_leastWidth_39 : decode cX7_leastWidth 39 = .ok (.bipush 20, 2) := by decide +kernel
theorem dX7_leastWidth_41 : decode cX7_leastWidth 41 = .ok (.istore_n 3, 1) := by decide +kernel
theorem dX7_leastWidth_42 : decode cX7_leastWidth 42 = .ok (.iload_n 3, 1) := by decide +kernel
theorem dX7_leastWidth_43 : decode cX7_leastWidth 43 = .ok (.sipush 999, 3) := by decide +kernel
theorem dX7_leastWidth_46 : decode cX7_leastWidth 46 = .ok (.if_icmp .gt 25, 3) := by decide +kernel
theorem dX7_leastWidth_49 : decode cX7_leastWidth 49 = .ok (.aload_n 0, 1) := by decide +kernel
theorem dX7_leastWidth_50 : decode cX7_leastWidth 50 = .ok (.iload_n 3, 1) := by decide +kernel
theorem dX7_leastWidth_51 : decode cX7_leastWidth 51 = .ok (.invokevirtual 161, 3) := by decide +kernel
theorem dX7_leastWidth_54 : decode cX7_leastWidth 54 = .ok (.aload_n 0, 1) := by decide +kernel
theorem dX7_leastWidth_55 : decode cX7_leastWidth 55 = .ok (.iload_n 1, 1) := by decide +kernel
theorem dX7_leastWidth_56 : decode cX7_leastWidth 56 = .ok (.iload_n 2, 1) := by decide +kernel
theorem dX7_leastWidth_57 : decode cX7_leastWidth 57 = .ok (.invokevirtual 237, 3) := by decide +kernel
theorem dX7_leastWidth_60 : decode cX7_leastWidth 60 = .ok (.ifCond .eq 5, 3) := by decide +kernel
theorem dX7_leastWidth_63 : decode cX7_leastWidth 63 = .ok (.iload_n 3, 1) := by decide +kernel
theorem dX7_leastWidth_64 : decode cX7_leastWidth 64 = .ok (.ireturn, 1) := by decide +kernel
theorem dX7_leastWidth_65 : decode cX7_leastWidth 65 = .ok (.iinc 3 1, 3) := by decide +kernel
theorem dX7_leastWidth_68 : decode cX7_leastWidth 68 = .ok (.goto (-26), 3) := by decide +kernel
theorem dX7_leastWidth_71 : decode cX7_leastWidth 71 = .ok (.sipush (-1001), 3) := by decide +kernel
theorem dX7_leastWidth_74 : decode cX7_leastWidth 74 = .ok (.ireturn, 1) := by decide +kernel
theorem dX7_hidden_0 : decode cX7_hidden 0 = .ok (.iconst 0, 1) := by decide +kernel
theorem dX7_hidden_1 : decode cX7_hidden 1 = .ok (.istore_n 1, 1) := by decide +kernel
theorem dX7_hidden_2 : decode cX7_hidden 2 = .ok (.iconst 0, 1) := by decide +kernel
theorem dX7_hidden_3 : decode cX7_hidden 3 = .ok (.istore_n 2, 1) := by decide +kernel
theorem dX7_hidden_4 : decode cX7_hidden 4 = .ok (.iload_n 2, 1) := by decide +kernel
theorem dX7_hidden_5 : decode cX7_hidden 5 = .ok (.aload_n 0, 1) := by decide +kernel
theorem dX7_hidden_6 : decode cX7_hidden 6 = .ok (.getfield 7, 3) := by decide +kernel
theorem dX7_hidden_9 : decode cX7_hidden 9 = .ok (.sipush 176, 3) := by decide +kernel
theorem dX7_hidden_12 : decode cX7_hidden 12 = .ok (.iaload, 1) := by decide +kernel
theorem dX7_hidden_13 : decode cX7_hidden 13 = .ok (.if_icmp .ge 19, 3) := by decide +kernel
theorem dX7_hidden_16 : decode cX7_hidden 16 = .ok (.iload_n 1, 1) := by decide +kernel
theorem dX7_hidden_17 : decode cX7_hidden 17 = .ok (.aload_n 0, 1) := by decide +kernel
theorem dX7_hidden_18 : decode cX7_hidden 18 = .ok (.iload_n 2, 1) := by decide +kernel
theorem dX7_hidden_19 : decode cX7_hidden 19 = .ok (.bipush 10, 2) := by decide +kernel
theorem dX7_hidden_21 : decode cX7_hidden 21 = .ok (.invokevirtual 157, 3) := by decide +kernel
theorem dX7_hidden_24 : decode cX7_hidden 24 = .ok (.iadd, 1) := by decide +kernel
theorem dX7_hidden_25 : decode cX7_hidden 25 = .ok (.istore_n 1, 1) := by decide +kernel
theorem dX7_hidden_26 : decode cX7_hidden 26 = .ok (.iinc 2 1, 3) := by decide +kernel
theorem dX7_hidden_29 : decode cX7_hidden 29 = .ok (.goto (-25), 3) := by decide +kernel
theorem dX7_hidden_32 : decode cX7_hidden 32 = .ok (.iload_n 1, 1) := by decide +kernel
theorem dX7_hidden_33 : decode cX7_hidden 33 = .ok (.ireturn, 1) := by decide +kernel
theorem dX7_farthest_0 : decode cX7_farthest 0 = .ok (.sipush (-1001), 3) := by decide +kernel
theorem dX7_farthest_3 : decode cX7_farthest 3 = .ok (.istore_n 1, 1) := by decide +kernel
theorem dX7_farthest_4 : decode cX7_farthest 4 = .ok (.iconst 0, 1) := by decide +kernel
theorem dX7_farthest_5 : decode cX7_farthest 5 = .ok (.istore_n 2, 1) := by decide +kernel
theorem dX7_farthest_6 : decode cX7_farthest 6 = .ok (.iload_n 2, 1) := by decide +kernel
theorem dX7_farthest_7 : decode cX7_farthest 7 = .ok (.aload_n 0, 1) := by decide +kernel
theorem dX7_farthest_8 : decode cX7_farthest 8 = .ok (.getfield 176, 3) := by decide +kernel
theorem dX7_farthest_11 : decode cX7_farthest 11 = .ok (.if_icmp .ge 38, 3) := by decide +kernel
theorem dX7_farthest_14 : decode cX7_farthest 14 = .ok (.aload_n 0, 1) := by decide +kernel
theorem dX7_farthest_15 : decode cX7_farthest 15 = .ok (.getfield 59, 3) := by decide +kernel
theorem dX7_farthest_18 : decode cX7_farthest 18 = .ok (.iload_n 2, 1) := by decide +kernel
theorem dX7_farthest_19 : decode cX7_farthest 19 = .ok (.iaload, 1) := by decide +kernel
theorem dX7_farthest_20 : decode cX7_farthest 20 = .ok (.aload_n 0, 1) := by decide +kernel
theorem dX7_farthest_21 : decode cX7_farthest 21 = .ok (.getfield 34, 3) := by decide +kernel
theorem dX7_farthest_24 : decode cX7_farthest 24 = .ok (.iload_n 2, 1) := by decide +kernel
theorem dX7_farthest_25 : decode cX7_farthest 25 = .ok (.iaload, 1) := by decide +kernel
theorem dX7_farthest_26 : decode cX7_farthest 26 = .ok (.iadd, 1) := by decide +kernel
theorem dX7_farthest_27 : decode cX7_farthest 27 = .ok (.istore_n 3, 1) := by decide +kernel
theorem dX7_farthest_28 : decode cX7_farthest 28 = .ok (.iload_n 2, 1) := by decide +kernel
theorem dX7_farthest_29 : decode cX7_farthest 29 = .ok (.ifCond .eq 8, 3) := by decide +kernel
theorem dX7_farthest_32 : decode cX7_farthest 32 = .ok (.iload_n 3, 1) := by decide +kernel
theorem dX7_farthest_33 : decode cX7_farthest 33 = .ok (.iload_n 1, 1) := by decide +kernel
theorem dX7_farthest_34 : decode cX7_farthest 34 = .ok (.if_icmp .le 7, 3) := by decide +kernel
theorem dX7_farthest_37 : decode cX7_farthest 37 = .ok (.iload_n 3, 1) := by decide +kernel
theorem dX7_farthest_38 : decode cX7_farthest 38 = .ok (.goto 4, 3) := by decide +kernel
theorem dX7_farthest_41 : decode cX7_farthest 41 = .ok (.iload_n 1, 1) := by decide +kernel
theorem dX7_farthest_42 : decode cX7_farthest 42 = .ok (.istore_n 1, 1) := by decide +kernel
theorem dX7_farthest_43 : decode cX7_farthest 43 = .ok (.iinc 2 1, 3) := by decide +kernel
theorem dX7_farthest_46 : decode cX7_farthest 46 = .ok (.goto (-40), 3) := by decide +kernel
theorem dX7_farthest_49 : decode cX7_farthest 49 = .ok (.iload_n 1, 1) := by decide +kernel
theorem dX7_farthest_50 : decode cX7_farthest 50 = .ok (.ireturn, 1) := by decide +kernel
theorem dX7_number_0 : decode cX7_number 0 = .ok (.iload_n 1, 1) := by decide +kernel
theorem dX7_number_1 : decode cX7_number 1 = .ok (.tableswitch 112 0 6 #[43, 52, 57, 62, 97, 102, 107], 43) := by decide +kernel
theorem dX7_number_44 : decode cX7_number 44 = .ok (.aload_n 0, 1) := by decide +kernel
theorem dX7_number_45 : decode cX7_number 45 = .ok (.getfield 7, 3) := by decide +kernel
theorem dX7_number_48 : decode cX7_number 48 = .ok (.sipush 176, 3) := by decide +kernel
theorem dX7_number_51 : decode cX7_number 51 = .ok (.iaload, 1) := by decide +kernel
theorem dX7_number_52 : decode cX7_number 52 = .ok (.ireturn, 1) := by decide +kernel
theorem dX7_number_53 : decode cX7_number 53 = .ok (.aload_n 0, 1) := by decide +kernel
theorem dX7_number_54 : decode cX7_number 54 = .ok (.invokevirtual 241, 3) := by decide +kernel
theorem dX7_number_57 : decode cX7_number 57 = .ok (.ireturn, 1) := by decide +kernel
theorem dX7_number_58 : decode cX7_number 58 = .ok (.aload_n 0, 1) := by decide +kernel
theorem dX7_number_59 : decode cX7_number 59 = .ok (.getfield 182, 3) := by decide +kernel
theorem dX7_number_62 : decode cX7_number 62 = .ok (.ireturn, 1) := by decide +kernel
theorem dX7_number_63 : decode cX7_number 63 = .ok (.aload_n 0, 1) := by decide +kernel
theorem dX7_number_64 : decode cX7_number 64 = .ok (.getfield 182, 3) := by decide +kernel
theorem dX7_number_67 : decode cX7_number 67 = .ok (.ifCond .ne 7, 3) := by decide +kernel
theorem dX7_number_70 : decode cX7_number 70 = .ok (.iconst 0, 1) := by decide +kernel
theorem dX7_number_71 : decode cX7_number 71 = .ok (.goto 26, 3) := by decide +kernel
theorem dX7_number_74 : decode cX7_number 74 = .ok (.aload_n 0, 1) := by decide +kernel
theorem dX7_number_75 : decode cX7_number 75 = .ok (.getfield 65, 3) := by decide +kernel
theorem dX7_number_78 : decode cX7_number 78 = .ok (.aload_n 0, 1) := by decide +kernel
theorem dX7_number_79 : decode cX7_number 79 = .ok (.getfield 182, 3) := by decide +kernel
theorem dX7_number_82 : decode cX7_number 82 = .ok (.iconst 1, 1) := by decide +kernel
theorem dX7_number_83 : decode cX7_number 83 = .ok (.isub, 1) := by decide +kernel
theorem dX7_number_84 : decode cX7_number 84 = .ok (.iaload, 1) := by decide +kernel
theorem dX7_number_85 : decode cX7_number 85 = .ok (.aload_n 0, 1) := by decide +kernel
theorem dX7_number_86 : decode cX7_number 86 = .ok (.getfield 68, 3) := by decide +kernel
theorem dX7_number_89 : decode cX7_number 89 = .ok (.aload_n 0, 1) := by decide +kernel
theorem dX7_number_90 : decode cX7_number 90 = .ok (.getfield 182, 3) := by decide +kernel
theorem dX7_number_93 : decode cX7_number 93 = .ok (.iconst 1, 1) := by decide +kernel
theorem dX7_number_94 : decode cX7_number 94 = .ok (.isub, 1) := by decide +kernel
theorem dX7_number_95 : decode cX7_number 95 = .ok (.iaload, 1) := by decide +kernel
theorem dX7_number_96 : decode cX7_number 96 = .ok (.iadd, 1) := by decide +kernel
theorem dX7_number_97 : decode cX7_number 97 = .ok (.ireturn, 1) := by decide +kernel
theorem dX7_number_98 : decode cX7_number 98 = .ok (.aload_n 0, 1) := by decide +kernel
theorem dX7_number_99 : decode cX7_number 99 = .ok (.invokevirtual 244, 3) := by decide +kernel
theorem dX7_number_102 : decode cX7_number 102 = .ok (.ireturn, 1) := by decide +kernel
theorem dX7_number_103 : decode cX7_number 103 = .ok (.aload_n 0, 1) := by decide +kernel
theorem dX7_number_104 : decode cX7_number 104 = .ok (.getfield 71, 3) := by decide +kernel
theorem dX7_number_107 : decode cX7_number 107 = .ok (.ireturn, 1) := by decide +kernel
theorem dX7_number_108 : decode cX7_number 108 = .ok (.aload_n 0, 1) := by decide +kernel
theorem dX7_number_109 : decode cX7_number 109 = .ok (.getfield 79, 3) := by decide +kernel
theorem dX7_number_112 : decode cX7_number 112 = .ok (.ireturn, 1) := by decide +kernel
theorem dX7_number_113 : decode cX7_number 113 = .ok (.aload_n 0, 1) := by decide +kernel
theorem dX7_number_114 : decode cX7_number 114 = .ok (.getfield 7, 3) := by decide +kernel
theorem dX7_number_117 : decode cX7_number 117 = .ok (.sipush 177, 3) := by decide +kernel
theorem dX7_number_120 : decode cX7_number 120 = .ok (.iload_n 1, 1) := by decide +kernel
theorem dX7_number_121 : decode cX7_number 121 = .ok (.iadd, 1) := by decide +kernel
theorem dX7_number_122 : decode cX7_number 122 = .ok (.bipush 7, 2) := by decide +kernel
theorem dX7_number_124 : decode cX7_number 124 = .ok (.isub, 1) := by decide +kernel
theorem dX7_number_125 : decode cX7_number 125 = .ok (.iaload, 1) := by decide +kernel
theorem dX7_number_126 : decode cX7_number 126 = .ok (.ireturn, 1) := by decide +kernel
theorem dX7_count_0 : decode cX7_count 0 = .ok (.iload_n 1, 1) := by decide +kernel
theorem dX7_count_1 : decode cX7_count 1 = .ok (.iconst 0, 1) := by decide +kernel
theorem dX7_count_2 : decode cX7_count 2 = .ok (.bipush 13, 2) := by decide +kernel
theorem dX7_count_4 : decode cX7_count 4 = .ok (.invokestatic 75, 3) := by decide +kernel
theorem dX7_count_7 : decode cX7_count 7 = .ok (.ifCond .ne 7, 3) := by decide +kernel
theorem dX7_count_10 : decode cX7_count 10 = .ok (.sipush (-1002), 3) := by decide +kernel
theorem dX7_count_13 : decode cX7_count 13 = .ok (.ireturn, 1) := by decide +kernel
theorem dX7_count_14 : decode cX7_count 14 = .ok (.aload_n 0, 1) := by decide +kernel
theorem dX7_count_15 : decode cX7_count 15 = .ok (.aload_n 0, 1) := by decide +kernel
theorem dX7_count_16 : decode cX7_count 16 = .ok (.getfield 7, 3) := by decide +kernel
theorem dX7_count_19 : decode cX7_count 19 = .ok (.sipush 177, 3) := by decide +kernel
theorem dX7_count_22 : decode cX7_count 22 = .ok (.iaload, 1) := by decide +kernel
theorem dX7_count_23 : decode cX7_count 23 = .ok (.invokevirtual 161, 3) := by decide +kernel
theorem dX7_count_26 : decode cX7_count 26 = .ok (.aload_n 0, 1) := by decide +kernel
theorem dX7_count_27 : decode cX7_count 27 = .ok (.iload_n 1, 1) := by decide +kernel
theorem dX7_count_28 : decode cX7_count 28 = .ok (.invokevirtual 247, 3) := by decide +kernel
theorem dX7_count_31 : decode cX7_count 31 = .ok (.ireturn, 1) := by decide +kernel
theorem dX7_mixes_0 : decode cX7_mixes 0 = .ok (.aload_n 0, 1) := by decide +kernel
theorem dX7_mixes_1 : decode cX7_mixes 1 = .ok (.ldc2_w 250, 3) := by decide +kernel
theorem dX7_mixes_4 : decode cX7_mixes 4 = .ok (.aload_n 0, 1) := by decide +kernel
theorem dX7_mixes_5 : decode cX7_mixes 5 = .ok (.getfield 252, 3) := by decide +kernel
theorem dX7_mixes_8 : decode cX7_mixes 8 = .ok (.lmul, 1) := by decide +kernel
theorem dX7_mixes_9 : decode cX7_mixes 9 = .ok (.lload_n 1, 1) := by decide +kernel
theorem dX7_mixes_10 : decode cX7_mixes 10 = .ok (.ladd, 1) := by decide +kernel
theorem dX7_mixes_11 : decode cX7_mixes 11 = .ok (.putfield 252, 3) := by decide +kernel
theorem dX7_mixes_14 : decode cX7_mixes 14 = .ok (.return_, 1) := by decide +kernel
theorem dX7_mixesItem_0 : decode cX7_mixesItem 0 = .ok (.iconst 0, 1) := by decide +kernel
theorem dX7_mixesItem_1 : decode cX7_mixesItem 1 = .ok (.istore_n 2, 1) := by decide +kernel
theorem dX7_mixesItem_2 : decode cX7_mixesItem 2 = .ok (.iload_n 2, 1) := by decide +kernel
theorem dX7_mixesItem_3 : decode cX7_mixesItem 3 = .ok (.bipush 12, 2) := by decide +kernel
theorem dX7_mixesItem_5 : decode cX7_mixesItem 5 = .ok (.if_icmp .ge 20, 3) := by decide +kernel
theorem dX7_mixesItem_8 : decode cX7_mixesItem 8 = .ok (.aload_n 0, 1) := by decide +kernel
theorem dX7_mixesItem_9 : decode cX7_mixesItem 9 = .ok (.aload_n 0, 1) := by decide +kernel
theorem dX7_mixesItem_10 : decode cX7_mixesItem 10 = .ok (.iload_n 1, 1) := by decide +kernel
theorem dX7_mixesItem_11 : decode cX7_mixesItem 11 = .ok (.iload_n 2, 1) := by decide +kernel
theorem dX7_mixesItem_12 : decode cX7_mixesItem 12 = .ok (.invokevirtual 256, 3) := by decide +kernel
theorem dX7_mixesItem_15 : decode cX7_mixesItem 15 = .ok (.i2l, 1) := by decide +kernel
theorem dX7_mixesItem_16 : decode cX7_mixesItem 16 = .ok (.invokevirtual 259, 3) := by decide +kernel
theorem dX7_mixesItem_19 : decode cX7_mixesItem 19 = .ok (.iinc 2 1, 3) := by decide +kernel
theorem dX7_mixesItem_22 : decode cX7_mixesItem 22 = .ok (.goto (-20), 3) := by decide +kernel
theorem dX7_mixesItem_25 : decode cX7_mixesItem 25 = .ok (.aload_n 0, 1) := by decide +kernel
theorem dX7_mixesItem_26 : decode cX7_mixesItem 26 = .ok (.iload_n 1, 1) := by decide +kernel
theorem dX7_mixesItem_27 : decode cX7_mixesItem 27 = .ok (.invokevirtual 164, 3) := by decide +kernel
theorem dX7_mixesItem_30 : decode cX7_mixesItem 30 = .ok (.istore_n 2, 1) := by decide +kernel
theorem dX7_mixesItem_31 : decode cX7_mixesItem 31 = .ok (.iconst 0, 1) := by decide +kernel
theorem dX7_mixesItem_32 : decode cX7_mixesItem 32 = .ok (.istore_n 3, 1) := by decide +kernel
theorem dX7_mixesItem_33 : decode cX7_mixesItem 33 = .ok (.iload_n 3, 1) := by decide +kernel
theorem dX7_mixesItem_34 : decode cX7_mixesItem 34 = .ok (.bipush 8, 2) := by decide +kernel
theorem dX7_mixesItem_36 : decode cX7_mixesItem 36 = .ok (.if_icmp .ge 27, 3) := by decide +kernel
theorem dX7_mixesItem_39 : decode cX7_mixesItem 39 = .ok (.iload_n 2, 1) := by decide +kernel
theorem dX7_mixesItem_40 : decode cX7_mixesItem 40 = .ok (.sipush (-1001), 3) := by decide +kernel
theorem dX7_mixesItem_43 : decode cX7_mixesItem 43 = .ok (.if_icmp .eq 20, 3) := by decide +kernel
theorem dX7_mixesItem_46 : decode cX7_mixesItem 46 = .ok (.aload_n 0, 1) := by decide +kernel
theorem dX7_mixesItem_47 : decode cX7_mixesItem 47 = .ok (.aload_n 0, 1) := by decide +kernel
theorem dX7_mixesItem_48 : decode cX7_mixesItem 48 = .ok (.iload_n 2, 1) := by decide +kernel
theorem dX7_mixesItem_49 : decode cX7_mixesItem 49 = .ok (.iload_n 3, 1) := by decide +kernel
theorem dX7_mixesItem_50 : decode cX7_mixesItem 50 = .ok (.invokevirtual 228, 3) := by decide +kernel
theorem dX7_mixesItem_53 : decode cX7_mixesItem 53 = .ok (.i2l, 1) := by decide +kernel
theorem dX7_mixesItem_54 : decode cX7_mixesItem 54 = .ok (.invokevirtual 259, 3) := by decide +kernel
theorem dX7_mixesItem_57 : decode cX7_mixesItem 57 = .ok (.iinc 3 1, 3) := by decide +kernel
theorem dX7_mixesItem_60 : decode cX7_mixesItem 60 = .ok (.goto (-27), 3) := by decide +kernel
theorem dX7_mixesItem_63 : decode cX7_mixesItem 63 = .ok (.return_, 1) := by decide +kernel
theorem dX7_digest_0 : decode cX7_digest 0 = .ok (.aload_n 0, 1) := by decide +kernel
theorem dX7_digest_1 : decode cX7_digest 1 = .ok (.ldc2_w 263, 3) := by decide +kernel
theorem dX7_digest_4 : decode cX7_digest 4 = .ok (.putfield 252, 3) := by decide +kernel
theorem dX7_digest_7 : decode cX7_digest 7 = .ok (.aload_n 0, 1) := by decide +kernel
theorem dX7_digest_8 : decode cX7_digest 8 = .ok (.aload_n 0, 1) := by decide +kernel
theorem dX7_digest_9 : decode cX7_digest 9 = .ok (.getfield 7, 3) := by decide +kernel
theorem dX7_digest_12 : decode cX7_digest 12 = .ok (.sipush 177, 3) := by decide +kernel
theorem dX7_digest_15 : decode cX7_digest 15 = .ok (.iaload, 1) := by decide +kernel
theorem dX7_digest_16 : decode cX7_digest 16 = .ok (.invokevirtual 161, 3) := by decide +kernel
theorem dX7_digest_19 : decode cX7_digest 19 = .ok (.iconst 0, 1) := by decide +kernel
theorem dX7_digest_20 : decode cX7_digest 20 = .ok (.istore_n 1, 1) := by decide +kernel
theorem dX7_digest_21 : decode cX7_digest 21 = .ok (.iload_n 1, 1) := by decide +kernel
theorem dX7_digest_22 : decode cX7_digest 22 = .ok (.bipush 14, 2) := by decide +kernel
theorem dX7_digest_24 : decode cX7_digest 24 = .ok (.if_icmp .ge 19, 3) := by decide +kernel
theorem dX7_digest_27 : decode cX7_digest 27 = .ok (.aload_n 0, 1) := by decide +kernel
theorem dX7_digest_28 : decode cX7_digest 28 = .ok (.aload_n 0, 1) := by decide +kernel
theorem dX7_digest_29 : decode cX7_digest 29 = .ok (.iload_n 1, 1) := by decide +kernel
theorem dX7_digest_30 : decode cX7_digest 30 = .ok (.invokevirtual 247, 3) := by decide +kernel
theorem dX7_digest_33 : decode cX7_digest 33 = .ok (.i2l, 1) := by decide +kernel
theorem dX7_digest_34 : decode cX7_digest 34 = .ok (.invokevirtual 259, 3) := by decide +kernel
theorem dX7_digest_37 : decode cX7_digest 37 = .ok (.iinc 1 1, 3) := by decide +kernel
theorem dX7_digest_40 : decode cX7_digest 40 = .ok (.goto (-19), 3) := by decide +kernel
theorem dX7_digest_43 : decode cX7_digest 43 = .ok (.iconst 0, 1) := by decide +kernel
theorem dX7_digest_44 : decode cX7_digest 44 = .ok (.istore_n 1, 1) := by decide +kernel
theorem dX7_digest_45 : decode cX7_digest 45 = .ok (.iload_n 1, 1) := by decide +kernel
theorem dX7_digest_46 : decode cX7_digest 46 = .ok (.aload_n 0, 1) := by decide +kernel
theorem dX7_digest_47 : decode cX7_digest 47 = .ok (.getfield 7, 3) := by decide +kernel
theorem dX7_digest_50 : decode cX7_digest 50 = .ok (.sipush 176, 3) := by decide +kernel
theorem dX7_digest_53 : decode cX7_digest 53 = .ok (.iaload, 1) := by decide +kernel
theorem dX7_digest_54 : decode cX7_digest 54 = .ok (.if_icmp .ge 14, 3) := by decide +kernel
theorem dX7_digest_57 : decode cX7_digest 57 = .ok (.aload_n 0, 1) := by decide +kernel
theorem dX7_digest_58 : decode cX7_digest 58 = .ok (.iload_n 1, 1) := by decide +kernel
theorem dX7_digest_59 : decode cX7_digest 59 = .ok (.invokevirtual 265, 3) := by decide +kernel
theorem dX7_digest_62 : decode cX7_digest 62 = .ok (.iinc 1 1, 3) := by decide +kernel
theorem dX7_digest_65 : decode cX7_digest 65 = .ok (.goto (-20), 3) := by decide +kernel
theorem dX7_digest_68 : decode cX7_digest 68 = .ok (.iconst 0, 1) := by decide +kernel
theorem dX7_digest_69 : decode cX7_digest 69 = .ok (.istore_n 1, 1) := by decide +kernel
theorem dX7_digest_70 : decode cX7_digest 70 = .ok (.iload_n 1, 1) := by decide +kernel
theorem dX7_digest_71 : decode cX7_digest 71 = .ok (.bipush 8, 2) := by decide +kernel
theorem dX7_digest_73 : decode cX7_digest 73 = .ok (.aload_n 0, 1) := by decide +kernel
theorem dX7_digest_74 : decode cX7_digest 74 = .ok (.getfield 182, 3) := by decide +kernel
theorem dX7_digest_77 : decode cX7_digest 77 = .ok (.imul, 1) := by decide +kernel
theorem dX7_digest_78 : decode cX7_digest 78 = .ok (.if_icmp .ge 26, 3) := by decide +kernel
theorem dX7_digest_81 : decode cX7_digest 81 = .ok (.aload_n 0, 1) := by decide +kernel
theorem dX7_digest_82 : decode cX7_digest 82 = .ok (.aload_n 0, 1) := by decide +kernel
theorem dX7_digest_83 : decode cX7_digest 83 = .ok (.iload_n 1, 1) := by decide +kernel
theorem dX7_digest_84 : decode cX7_digest 84 = .ok (.bipush 8, 2) := by decide +kernel
theorem dX7_digest_86 : decode cX7_digest 86 = .ok (.idiv, 1) := by decide +kernel
theorem dX7_digest_87 : decode cX7_digest 87 = .ok (.iload_n 1, 1) := by decide +kernel
theorem dX7_digest_88 : decode cX7_digest 88 = .ok (.bipush 8, 2) := by decide +kernel
theorem dX7_digest_90 : decode cX7_digest 90 = .ok (.irem, 1) := by decide +kernel
theorem dX7_digest_91 : decode cX7_digest 91 = .ok (.invokevirtual 234, 3) := by decide +kernel
theorem dX7_digest_94 : decode cX7_digest 94 = .ok (.i2l, 1) := by decide +kernel
theorem dX7_digest_95 : decode cX7_digest 95 = .ok (.invokevirtual 259, 3) := by decide +kernel
theorem dX7_digest_98 : decode cX7_digest 98 = .ok (.iinc 1 1, 3) := by decide +kernel
theorem dX7_digest_101 : decode cX7_digest 101 = .ok (.goto (-31), 3) := by decide +kernel
theorem dX7_digest_104 : decode cX7_digest 104 = .ok (.iconst 0, 1) := by decide +kernel
theorem dX7_digest_105 : decode cX7_digest 105 = .ok (.istore_n 1, 1) := by decide +kernel
theorem dX7_digest_106 : decode cX7_digest 106 = .ok (.iload_n 1, 1) := by decide +kernel
theorem dX7_digest_107 : decode cX7_digest 107 = .ok (.aload_n 0, 1) := by decide +kernel
theorem dX7_digest_108 : decode cX7_digest 108 = .ok (.getfield 176, 3) := by decide +kernel
theorem dX7_digest_111 : decode cX7_digest 111 = .ok (.if_icmp .ge 20, 3) := by decide +kernel
theorem dX7_digest_114 : decode cX7_digest 114 = .ok (.aload_n 0, 1) := by decide +kernel
theorem dX7_digest_115 : decode cX7_digest 115 = .ok (.aload_n 0, 1) := by decide +kernel
theorem dX7_digest_116 : decode cX7_digest 116 = .ok (.getfield 22, 3) := by decide +kernel
theorem dX7_digest_119 : decode cX7_digest 119 = .ok (.iload_n 1, 1) := by decide +kernel
theorem dX7_digest_120 : decode cX7_digest 120 = .ok (.iaload, 1) := by decide +kernel
theorem dX7_digest_121 : decode cX7_digest 121 = .ok (.i2l, 1) := by decide +kernel
theorem dX7_digest_122 : decode cX7_digest 122 = .ok (.invokevirtual 259, 3) := by decide +kernel
theorem dX7_digest_125 : decode cX7_digest 125 = .ok (.iinc 1 1, 3) := by decide +kernel
theorem dX7_digest_128 : decode cX7_digest 128 = .ok (.goto (-22), 3) := by decide +kernel
theorem dX7_digest_131 : decode cX7_digest 131 = .ok (.iconst 0, 1) := by decide +kernel
theorem dX7_digest_132 : decode cX7_digest 132 = .ok (.istore_n 1, 1) := by decide +kernel
theorem dX7_digest_133 : decode cX7_digest 133 = .ok (.iload_n 1, 1) := by decide +kernel
theorem dX7_digest_134 : decode cX7_digest 134 = .ok (.aload_n 0, 1) := by decide +kernel
theorem dX7_digest_135 : decode cX7_digest 135 = .ok (.getfield 79, 3) := by decide +kernel
theorem dX7_digest_138 : decode cX7_digest 138 = .ok (.if_icmp .ge 20, 3) := by decide +kernel
theorem dX7_digest_141 : decode cX7_digest 141 = .ok (.aload_n 0, 1) := by decide +kernel
theorem dX7_digest_142 : decode cX7_digest 142 = .ok (.aload_n 0, 1) := by decide +kernel
theorem dX7_digest_143 : decode cX7_digest 143 = .ok (.getfield 16, 3) := by decide +kernel
theorem dX7_digest_146 : decode cX7_digest 146 = .ok (.iload_n 1, 1) := by decide +kernel
theorem dX7_digest_147 : decode cX7_digest 147 = .ok (.iaload, 1) := by decide +kernel
theorem dX7_digest_148 : decode cX7_digest 148 = .ok (.i2l, 1) := by decide +kernel
theorem dX7_digest_149 : decode cX7_digest 149 = .ok (.invokevirtual 259, 3) := by decide +kernel
theorem dX7_digest_152 : decode cX7_digest 152 = .ok (.iinc 1 1, 3) := by decide +kernel
theorem dX7_digest_155 : decode cX7_digest 155 = .ok (.goto (-22), 3) := by decide +kernel
theorem dX7_digest_158 : decode cX7_digest 158 = .ok (.aload_n 0, 1) := by decide +kernel
theorem dX7_digest_159 : decode cX7_digest 159 = .ok (.getfield 252, 3) := by decide +kernel
theorem dX7_digest_162 : decode cX7_digest 162 = .ok (.lreturn, 1) := by decide +kernel
theorem dJ9_floorDiv_7cf53_0 : decode cJ9_floorDiv_7cf53 0 = .ok (.iload_n 0, 1) := by decide +kernel
theorem dJ9_floorDiv_7cf53_1 : decode cJ9_floorDiv_7cf53 1 = .ok (.iload_n 1, 1) := by decide +kernel
theorem dJ9_floorDiv_7cf53_2 : decode cJ9_floorDiv_7cf53 2 = .ok (.idiv, 1) := by decide +kernel
theorem dJ9_floorDiv_7cf53_3 : decode cJ9_floorDiv_7cf53 3 = .ok (.istore_n 2, 1) := by decide +kernel
theorem dJ9_floorDiv_7cf53_4 : decode cJ9_floorDiv_7cf53 4 = .ok (.iload_n 0, 1) := by decide +kernel
theorem dJ9_floorDiv_7cf53_5 : decode cJ9_floorDiv_7cf53 5 = .ok (.iload_n 1, 1) := by decide +kernel
theorem dJ9_floorDiv_7cf53_6 : decode cJ9_floorDiv_7cf53 6 = .ok (.ixor, 1) := by decide +kernel
theorem dJ9_floorDiv_7cf53_7 : decode cJ9_floorDiv_7cf53 7 = .ok (.ifCond .ge 14, 3) := by decide +kernel
theorem dJ9_floorDiv_7cf53_10 : decode cJ9_floorDiv_7cf53 10 = .ok (.iload_n 2, 1) := by decide +kernel
theorem dJ9_floorDiv_7cf53_11 : decode cJ9_floorDiv_7cf53 11 = .ok (.iload_n 1, 1) := by decide +kernel
theorem dJ9_floorDiv_7cf53_12 : decode cJ9_floorDiv_7cf53 12 = .ok (.imul, 1) := by decide +kernel
theorem dJ9_floorDiv_7cf53_13 : decode cJ9_floorDiv_7cf53 13 = .ok (.iload_n 0, 1) := by decide +kernel
theorem dJ9_floorDiv_7cf53_14 : decode cJ9_floorDiv_7cf53 14 = .ok (.if_icmp .eq 7, 3) := by decide +kernel
theorem dJ9_floorDiv_7cf53_17 : decode cJ9_floorDiv_7cf53 17 = .ok (.iload_n 2, 1) := by decide +kernel
theorem dJ9_floorDiv_7cf53_18 : decode cJ9_floorDiv_7cf53 18 = .ok (.iconst 1, 1) := by decide +kernel
theorem dJ9_floorDiv_7cf53_19 : decode cJ9_floorDiv_7cf53 19 = .ok (.isub, 1) := by decide +kernel
theorem dJ9_floorDiv_7cf53_20 : decode cJ9_floorDiv_7cf53 20 = .ok (.ireturn, 1) := by decide +kernel
theorem dJ9_floorDiv_7cf53_21 : decode cJ9_floorDiv_7cf53 21 = .ok (.iload_n 2, 1) := by decide +kernel
theorem dJ9_floorDiv_7cf53_22 : decode cJ9_floorDiv_7cf53 22 = .ok (.ireturn, 1) := by decide +kernel
theorem dJ9_floorMod_7cf53_0 : decode cJ9_floorMod_7cf53 0 = .ok (.iload_n 0, 1) := by decide +kernel
theorem dJ9_floorMod_7cf53_1 : decode cJ9_floorMod_7cf53 1 = .ok (.iload_n 1, 1) := by decide +kernel
theorem dJ9_floorMod_7cf53_2 : decode cJ9_floorMod_7cf53 2 = .ok (.irem, 1) := by decide +kernel
theorem dJ9_floorMod_7cf53_3 : decode cJ9_floorMod_7cf53 3 = .ok (.istore_n 2, 1) := by decide +kernel
theorem dJ9_floorMod_7cf53_4 : decode cJ9_floorMod_7cf53 4 = .ok (.iload_n 0, 1) := by decide +kernel
theorem dJ9_floorMod_7cf53_5 : decode cJ9_floorMod_7cf53 5 = .ok (.iload_n 1, 1) := by decide +kernel
theorem dJ9_floorMod_7cf53_6 : decode cJ9_floorMod_7cf53 6 = .ok (.ixor, 1) := by decide +kernel
theorem dJ9_floorMod_7cf53_7 : decode cJ9_floorMod_7cf53 7 = .ok (.ifCond .ge 11, 3) := by decide +kernel
theorem dJ9_floorMod_7cf53_10 : decode cJ9_floorMod_7cf53 10 = .ok (.iload_n 2, 1) := by decide +kernel
theorem dJ9_floorMod_7cf53_11 : decode cJ9_floorMod_7cf53 11 = .ok (.ifCond .eq 7, 3) := by decide +kernel
theorem dJ9_floorMod_7cf53_14 : decode cJ9_floorMod_7cf53 14 = .ok (.iload_n 2, 1) := by decide +kernel
theorem dJ9_floorMod_7cf53_15 : decode cJ9_floorMod_7cf53 15 = .ok (.iload_n 1, 1) := by decide +kernel
theorem dJ9_floorMod_7cf53_16 : decode cJ9_floorMod_7cf53 16 = .ok (.iadd, 1) := by decide +kernel
theorem dJ9_floorMod_7cf53_17 : decode cJ9_floorMod_7cf53 17 = .ok (.ireturn, 1) := by decide +kernel
theorem dJ9_floorMod_7cf53_18 : decode cJ9_floorMod_7cf53 18 = .ok (.iload_n 2, 1) := by decide +kernel
theorem dJ9_floorMod_7cf53_19 : decode cJ9_floorMod_7cf53 19 = .ok (.ireturn, 1) := by decide +kernel
theorem dJ9_max_7cf53_0 : decode cJ9_max_7cf53 0 = .ok (.iload_n 0, 1) := by decide +kernel
theorem dJ9_max_7cf53_1 : decode cJ9_max_7cf53 1 = .ok (.iload_n 1, 1) := by decide +kernel
theorem dJ9_max_7cf53_2 : decode cJ9_max_7cf53 2 = .ok (.if_icmp .lt 7, 3) := by decide +kernel
theorem dJ9_max_7cf53_5 : decode cJ9_max_7cf53 5 = .ok (.iload_n 0, 1) := by decide +kernel
theorem dJ9_max_7cf53_6 : decode cJ9_max_7cf53 6 = .ok (.goto 4, 3) := by decide +kernel
theorem dJ9_max_7cf53_9 : decode cJ9_max_7cf53 9 = .ok (.iload_n 1, 1) := by decide +kernel
theorem dJ9_max_7cf53_10 : decode cJ9_max_7cf53 10 = .ok (.ireturn, 1) := by decide +kernel
theorem dJ9_min_7cf53_0 : decode cJ9_min_7cf53 0 = .ok (.iload_n 0, 1) := by decide +kernel
theorem dJ9_min_7cf53_1 : decode cJ9_min_7cf53 1 = .ok (.iload_n 1, 1) := by decide +kernel
theorem dJ9_min_7cf53_2 : decode cJ9_min_7cf53 2 = .ok (.if_icmp .gt 7, 3) := by decide +kernel
theorem dJ9_min_7cf53_5 : decode cJ9_min_7cf53 5 = .ok (.iload_n 0, 1) := by decide +kernel
theorem dJ9_min_7cf53_6 : decode cJ9_min_7cf53 6 = .ok (.goto 4, 3) := by decide +kernel
theorem dJ9_min_7cf53_9 : decode cJ9_min_7cf53 9 = .ok (.iload_n 1, 1) := by decide +kernel
theorem dJ9_min_7cf53_10 : decode cJ9_min_7cf53 10 = .ok (.ireturn, 1) := by decide +kernel
theorem dJ0_length_8abf5_0 : decode cJ0_length_8abf5 0 = .ok (.aload_n 0, 1) := by decide +kernel
theorem dJ0_length_8abf5_1 : decode cJ0_length_8abf5 1 = .ok (.getfield 9, 3) := by decide +kernel
theorem dJ0_length_8abf5_4 : decode cJ0_length_8abf5 4 = .ok (.arraylength, 1) := by decide +kernel
theorem dJ0_length_8abf5_5 : decode cJ0_length_8abf5 5 = .ok (.aload_n 0, 1) := by decide +kernel
theorem dJ0_length_8abf5_6 : decode cJ0_length_8abf5 6 = .ok (.invokevirtual 335, 3) := by decide +kernel
theorem dJ0_length_8abf5_9 : decode cJ0_length_8abf5 9 = .ok (.ishr, 1) := by decide +kernel
theorem dJ0_length_8abf5_10 : decode cJ0_length_8abf5 10 = .ok (.ireturn, 1) := by decide +kernel
theorem dJ0_charAt_5068e_0 : decode cJ0_charAt_5068e 0 = .ok (.aload_n 0, 1) := by decide +kernel
theorem dJ0_charAt_5068e_1 : decode cJ0_charAt_5068e 1 = .ok (.invokevirtual 492, 3) := by decide +kernel
theorem dJ0_charAt_5068e_4 : decode cJ0_charAt_5068e 4 = .ok (.ifCond .eq 12, 3) := by decide +kernel
theorem dJ0_charAt_5068e_7 : decode cJ0_charAt_5068e 7 = .ok (.aload_n 0, 1) := by decide +kernel
theorem dJ0_charAt_5068e_8 : decode cJ0_charAt_5068e 8 = .ok (.getfield 9, 3) := by decide +kernel
theorem dJ0_charAt_5068e_11 : decode cJ0_charAt_5068e 11 = .ok (.iload_n 1, 1) := by decide +kernel
theorem dJ0_charAt_5068e_12 : decode cJ0_charAt_5068e 12 = .ok (.invokestatic 495, 3) := by decide +kernel
theorem dJ0_charAt_5068e_15 : decode cJ0_charAt_5068e 15 = .ok (.ireturn, 1) := by decide +kernel
theorem dJ0_charAt_5068e_16 : decode cJ0_charAt_5068e 16 = .ok (.aload_n 0, 1) := by decide +kernel
theorem dJ0_charAt_5068e_17 : decode cJ0_charAt_5068e 17 = .ok (.getfield 9, 3) := by decide +kernel
theorem dJ0_charAt_5068e_20 : decode cJ0_charAt_5068e 20 = .ok (.iload_n 1, 1) := by decide +kernel
theorem dJ0_charAt_5068e_21 : decode cJ0_charAt_5068e 21 = .ok (.invokestatic 498, 3) := by decide +kernel
theorem dJ0_charAt_5068e_24 : decode cJ0_charAt_5068e 24 = .ok (.ireturn, 1) := by decide +kernel
theorem dJ0_coder_7d493_0 : decode cJ0_coder_7d493 0 = .ok (.getstatic 38, 3) := by decide +kernel
theorem dJ0_coder_7d493_3 : decode cJ0_coder_7d493 3 = .ok (.ifCond .eq 10, 3) := by decide +kernel
theorem dJ0_coder_7d493_6 : decode cJ0_coder_7d493 6 = .ok (.aload_n 0, 1) := by decide +kernel
theorem dJ0_coder_7d493_7 : decode cJ0_coder_7d493 7 = .ok (.getfield 15, 3) := by decide +kernel
theorem dJ0_coder_7d493_10 : decode cJ0_coder_7d493 10 = .ok (.goto 4, 3) := by decide +kernel
theorem dJ0_coder_7d493_13 : decode cJ0_coder_7d493 13 = .ok (.iconst 1, 1) := by decide +kernel
theorem dJ0_coder_7d493_14 : decode cJ0_coder_7d493 14 = .ok (.ireturn, 1) := by decide +kernel
theorem dJ0_isLatin1_aae02_0 : decode cJ0_isLatin1_aae02 0 = .ok (.getstatic 38, 3) := by decide +kernel
theorem dJ0_isLatin1_aae02_3 : decode cJ0_isLatin1_aae02 3 = .ok (.ifCond .eq 14, 3) := by decide +kernel
theorem dJ0_isLatin1_aae02_6 : decode cJ0_isLatin1_aae02 6 = .ok (.aload_n 0, 1) := by decide +kernel
theorem dJ0_isLatin1_aae02_7 : decode cJ0_isLatin1_aae02 7 = .ok (.getfield 15, 3) := by decide +kernel
theorem dJ0_isLatin1_aae02_10 : decode cJ0_isLatin1_aae02 10 = .ok (.ifCond .ne 7, 3) := by decide +kernel
theorem dJ0_isLatin1_aae02_13 : decode cJ0_isLatin1_aae02 13 = .ok (.iconst 1, 1) := by decide +kernel
theorem dJ0_isLatin1_aae02_14 : decode cJ0_isLatin1_aae02 14 = .ok (.goto 4, 3) := by decide +kernel
theorem dJ0_isLatin1_aae02_17 : decode cJ0_isLatin1_aae02 17 = .ok (.iconst 0, 1) := by decide +kernel
theorem dJ0_isLatin1_aae02_18 : decode cJ0_isLatin1_aae02 18 = .ok (.ireturn, 1) := by decide +kernel
theorem dJ0_checkIndex_df160_0 : decode cJ0_checkIndex_df160 0 = .ok (.iload_n 0, 1) := by decide +kernel
theorem dJ0_checkIndex_df160_1 : decode cJ0_checkIndex_df160 1 = .ok (.iload_n 1, 1) := by decide +kernel
theorem dJ0_checkIndex_df160_2 : decode cJ0_checkIndex_df160 2 = .ok (.getstatic 1053, 3) := by decide +kernel
theorem dJ0_checkIndex_df160_5 : decode cJ0_checkIndex_df160 5 = .ok (.invokestatic 1059, 3) := by decide +kernel
theorem dJ0_checkIndex_df160_8 : decode cJ0_checkIndex_df160 8 = .ok (.pop, 1) := by decide +kernel
theorem dJ0_checkIndex_df160_9 : decode cJ0_checkIndex_df160 9 = .ok (.return_, 1) := by decide +kernel
theorem dJ1_charAt_3b067_0 : decode cJ1_charAt_3b067 0 = .ok (.iload_n 1, 1) := by decide +kernel
theorem dJ1_charAt_3b067_1 : decode cJ1_charAt_3b067 1 = .ok (.aload_n 0, 1) := by decide +kernel
theorem dJ1_charAt_3b067_2 : decode cJ1_charAt_3b067 2 = .ok (.arraylength, 1) := by decide +kernel
theorem dJ1_charAt_3b067_3 : decode cJ1_charAt_3b067 3 = .ok (.invokestatic 9, 3) := by decide +kernel
theorem dJ1_charAt_3b067_6 : decode cJ1_charAt_3b067 6 = .ok (.aload_n 0, 1) := by decide +kernel
theorem dJ1_charAt_3b067_7 : decode cJ1_charAt_3b067 7 = .ok (.iload_n 1, 1) := by decide +kernel
theorem dJ1_charAt_3b067_8 : decode cJ1_charAt_3b067 8 = .ok (.baload, 1) := by decide +kernel
theorem dJ1_charAt_3b067_9 : decode cJ1_charAt_3b067 9 = .ok (.sipush 255, 3) := by decide +kernel
theorem dJ1_charAt_3b067_12 : decode cJ1_charAt_3b067 12 = .ok (.iand, 1) := by decide +kernel
theorem dJ1_charAt_3b067_13 : decode cJ1_charAt_3b067 13 = .ok (.i2c, 1) := by decide +kernel
theorem dJ1_charAt_3b067_14 : decode cJ1_charAt_3b067 14 = .ok (.ireturn, 1) := by decide +kernel
theorem dJ2_getChar_3b067_0 : decode cJ2_getChar_3b067 0 = .ok (.getstatic 44, 3) := by decide +kernel
theorem dJ2_getChar_3b067_3 : decode cJ2_getChar_3b067 3 = .ok (.ifCond .ne 25, 3) := by decide +kernel
theorem dJ2_getChar_3b067_6 : decode cJ2_getChar_3b067 6 = .ok (.iload_n 1, 1) := by decide +kernel
theorem dJ2_getChar_3b067_7 : decode cJ2_getChar_3b067 7 = .ok (.ifCond .lt 11, 3) := by decide +kernel
theorem dJ2_getChar_3b067_10 : decode cJ2_getChar_3b067 10 = .ok (.iload_n 1, 1) := by decide +kernel
theorem dJ2_getChar_3b067_11 : decode cJ2_getChar_3b067 11 = .ok (.aload_n 0, 1) := by decide +kernel
theorem dJ2_getChar_3b067_12 : decode cJ2_getChar_3b067 12 = .ok (.invokestatic 48, 3) := by decide +kernel
theorem dJ2_getChar_3b067_15 : decode cJ2_getChar_3b067 15 = .ok (.if_icmp .lt 13, 3) := by decide +kernel
theorem dJ2_getChar_3b067_18 : decode cJ2_getChar_3b067 18 = .ok (.new 52, 3) := by decide +kernel
theorem dJ2_getChar_3b067_21 : decode cJ2_getChar_3b067 21 = .ok (.dup, 1) := by decide +kernel
theorem dJ2_getChar_3b067_22 : decode cJ2_getChar_3b067 22 = .ok (.ldc 54, 2) := by decide +kernel
theorem dJ2_getChar_3b067_24 : decode cJ2_getChar_3b067 24 = .ok (.invokespecial 56, 3) := by decide +kernel
theorem dJ2_getChar_3b067_27 : decode cJ2_getChar_3b067 27 = .ok (.athrow, 1) := by decide +kernel
theorem dJ2_getChar_3b067_28 : decode cJ2_getChar_3b067 28 = .ok (.iload_n 1, 1) := by decide +kernel
theorem dJ2_getChar_3b067_29 : decode cJ2_getChar_3b067 29 = .ok (.iconst 1, 1) := by decide +kernel
theorem dJ2_getChar_3b067_30 : decode cJ2_getChar_3b067 30 = .ok (.ishl, 1) := by decide +kernel
theorem dJ2_getChar_3b067_31 : decode cJ2_getChar_3b067 31 = .ok (.istore_n 1, 1) := by decide +kernel
theorem dJ2_getChar_3b067_32 : decode cJ2_getChar_3b067 32 = .ok (.aload_n 0, 1) := by decide +kernel
theorem dJ2_getChar_3b067_33 : decode cJ2_getChar_3b067 33 = .ok (.iload_n 1, 1) := by decide +kernel
theorem dJ2_getChar_3b067_34 : decode cJ2_getChar_3b067 34 = .ok (.iinc 1 1, 3) := by decide +kernel
theorem dJ2_getChar_3b067_37 : decode cJ2_getChar_3b067 37 = .ok (.baload, 1) := by decide +kernel
theorem dJ2_getChar_3b067_38 : decode cJ2_getChar_3b067 38 = .ok (.sipush 255, 3) := by decide +kernel
theorem dJ2_getChar_3b067_41 : decode cJ2_getChar_3b067 41 = .ok (.iand, 1) := by decide +kernel
theorem dJ2_getChar_3b067_42 : decode cJ2_getChar_3b067 42 = .ok (.getstatic 59, 3) := by decide +kernel
theorem dJ2_getChar_3b067_45 : decode cJ2_getChar_3b067 45 = .ok (.ishl, 1) := by decide +kernel
theorem dJ2_getChar_3b067_46 : decode cJ2_getChar_3b067 46 = .ok (.aload_n 0, 1) := by decide +kernel
theorem dJ2_getChar_3b067_47 : decode cJ2_getChar_3b067 47 = .ok (.iload_n 1, 1) := by decide +kernel
theorem dJ2_getChar_3b067_48 : decode cJ2_getChar_3b067 48 = .ok (.baload, 1) := by decide +kernel
theorem dJ2_getChar_3b067_49 : decode cJ2_getChar_3b067 49 = .ok (.sipush 255, 3) := by decide +kernel
theorem dJ2_getChar_3b067_52 : decode cJ2_getChar_3b067 52 = .ok (.iand, 1) := by decide +kernel
theorem dJ2_getChar_3b067_53 : decode cJ2_getChar_3b067 53 = .ok (.getstatic 63, 3) := by decide +kernel
theorem dJ2_getChar_3b067_56 : decode cJ2_getChar_3b067 56 = .ok (.ishl, 1) := by decide +kernel
theorem dJ2_getChar_3b067_57 : decode cJ2_getChar_3b067 57 = .ok (.ior, 1) := by decide +kernel
theorem dJ2_getChar_3b067_58 : decode cJ2_getChar_3b067 58 = .ok (.i2c, 1) := by decide +kernel
theorem dJ2_getChar_3b067_59 : decode cJ2_getChar_3b067 59 = .ok (.ireturn, 1) := by decide +kernel
theorem dJ2_length_9d52b_0 : decode cJ2_length_9d52b 0 = .ok (.aload_n 0, 1) := by decide +kernel
theorem dJ2_length_9d52b_1 : decode cJ2_length_9d52b 1 = .ok (.arraylength, 1) := by decide +kernel
theorem dJ2_length_9d52b_2 : decode cJ2_length_9d52b 2 = .ok (.iconst 1, 1) := by decide +kernel
theorem dJ2_length_9d52b_3 : decode cJ2_length_9d52b 3 = .ok (.ishr, 1) := by decide +kernel
theorem dJ2_length_9d52b_4 : decode cJ2_length_9d52b 4 = .ok (.ireturn, 1) := by decide +kernel
theorem dJ2_charAt_3b067_0 : decode cJ2_charAt_3b067 0 = .ok (.iload_n 1, 1) := by decide +kernel
theorem dJ2_charAt_3b067_1 : decode cJ2_charAt_3b067 1 = .ok (.aload_n 0, 1) := by decide +kernel
theorem dJ2_charAt_3b067_2 : decode cJ2_charAt_3b067 2 = .ok (.invokestatic 67, 3) := by decide +kernel
theorem dJ2_charAt_3b067_5 : decode cJ2_charAt_3b067 5 = .ok (.aload_n 0, 1) := by decide +kernel
theorem dJ2_charAt_3b067_6 : decode cJ2_charAt_3b067 6 = .ok (.iload_n 1, 1) := by decide +kernel
theorem dJ2_charAt_3b067_7 : decode cJ2_charAt_3b067 7 = .ok (.invokestatic 71, 3) := by decide +kernel
theorem dJ2_charAt_3b067_10 : decode cJ2_charAt_3b067 10 = .ok (.ireturn, 1) := by decide +kernel
theorem dJ2_checkIndex_2214a_0 : decode cJ2_checkIndex_2214a 0 = .ok (.iload_n 0, 1) := by decide +kernel
theorem dJ2_checkIndex_2214a_1 : decode cJ2_checkIndex_2214a 1 = .ok (.aload_n 1, 1) := by decide +kernel
theorem dJ2_checkIndex_2214a_2 : decode cJ2_checkIndex_2214a 2 = .ok (.invokestatic 48, 3) := by decide +kernel
theorem dJ2_checkIndex_2214a_5 : decode cJ2_checkIndex_2214a 5 = .ok (.invokestatic 414, 3) := by decide +kernel
theorem dJ2_checkIndex_2214a_8 : decode cJ2_checkIndex_2214a 8 = .ok (.return_, 1) := by decide +kernel
theorem dJ3_checkIndex_8e157_0 : decode cJ3_checkIndex_8e157 0 = .ok (.iload_n 0, 1) := by decide +kernel
theorem dJ3_checkIndex_8e157_1 : decode cJ3_checkIndex_8e157 1 = .ok (.ifCond .lt 8, 3) := by decide +kernel
theorem dJ3_checkIndex_8e157_4 : decode cJ3_checkIndex_8e157 4 = .ok (.iload_n 0, 1) := by decide +kernel
theorem dJ3_checkIndex_8e157_5 : decode cJ3_checkIndex_8e157 5 = .ok (.iload_n 1, 1) := by decide +kernel
theorem dJ3_checkIndex_8e157_6 : decode cJ3_checkIndex_8e157 6 = .ok (.if_icmp .lt 10, 3) := by decide +kernel
theorem dJ3_checkIndex_8e157_9 : decode cJ3_checkIndex_8e157 9 = .ok (.aload_n 2, 1) := by decide +kernel
theorem dJ3_checkIndex_8e157_10 : decode cJ3_checkIndex_8e157 10 = .ok (.iload_n 0, 1) := by decide +kernel
theorem dJ3_checkIndex_8e157_11 : decode cJ3_checkIndex_8e157 11 = .ok (.iload_n 1, 1) := by decide +kernel
theorem dJ3_checkIndex_8e157_12 : decode cJ3_checkIndex_8e157 12 = .ok (.invokestatic 95, 3) := by decide +kernel
theorem dJ3_checkIndex_8e157_15 : decode cJ3_checkIndex_8e157 15 = .ok (.athrow, 1) := by decide +kernel
theorem dJ3_checkIndex_8e157_16 : decode cJ3_checkIndex_8e157 16 = .ok (.iload_n 0, 1) := by decide +kernel
theorem dJ3_checkIndex_8e157_17 : decode cJ3_checkIndex_8e157 17 = .ok (.ireturn, 1) := by decide +kernel
theorem dL_law_0 : decode cL_law 0 = .ok (.new 7, 3) := by decide +kernel
theorem dL_law_3 : decode cL_law 3 = .ok (.dup, 1) := by decide +kernel
theorem dL_law_4 : decode cL_law 4 = .ok (.invokespecial 9, 3) := by decide +kernel
theorem dL_law_7 : decode cL_law 7 = .ok (.astore_n 1, 1) := by decide +kernel
theorem dL_law_8 : decode cL_law 8 = .ok (.new 10, 3) := by decide +kernel
theorem dL_law_11 : decode cL_law 11 = .ok (.dup, 1) := by decide +kernel
theorem dL_law_12 : decode cL_law 12 = .ok (.invokespecial 12, 3) := by decide +kernel
theorem dL_law_15 : decode cL_law 15 = .ok (.astore_n 2, 1) := by decide +kernel
theorem dL_law_16 : decode cL_law 16 = .ok (.iconst 0, 1) := by decide +kernel
theorem dL_law_17 : decode cL_law 17 = .ok (.istore_n 3, 1) := by decide +kernel
theorem dL_law_18 : decode cL_law 18 = .ok (.iload_n 3, 1) := by decide +kernel
theorem dL_law_19 : decode cL_law 19 = .ok (.aload_n 0, 1) := by decide +kernel
theorem dL_law_20 : decode cL_law 20 = .ok (.arraylength, 1) := by decide +kernel
theorem dL_law_21 : decode cL_law 21 = .ok (.iconst 4, 1) := by decide +kernel
theorem dL_law_22 : decode cL_law 22 = .ok (.isub, 1) := by decide +kernel
theorem dL_law_23 : decode cL_law 23 = .ok (.if_icmp .gt 551, 3) := by decide +kernel
theorem dL_law_26 : decode cL_law 26 = .ok (.aload_n 0, 1) := by decide +kernel
theorem dL_law_27 : decode cL_law 27 = .ok (.iload_n 3, 1) := by decide +kernel
theorem dL_law_28 : decode cL_law 28 = .ok (.iaload, 1) := by decide +kernel
theorem dL_law_29 : decode cL_law 29 = .ok (.bipush 31, 2) := by decide +kernel
theorem dL_law_31 : decode cL_law 31 = .ok (.iand, 1) := by decide +kernel
theorem dL_law_32 : decode cL_law 32 = .ok (.tableswitch 536 0 16 #[84, 107, 120, 143, 166, 199, 242, 265, 298, 311, 344, 377, 400, 433, 466, 499, 522], 84) := by decide +kernel
theorem dL_law_116 : decode cL_law 116 = .ok (.aload_n 1, 1) := by decide +kernel
theorem dL_law_117 : decode cL_law 117 = .ok (.aload_n 0, 1) := by decide +kernel
theorem dL_law_118 : decode cL_law 118 = .ok (.iload_n 3, 1) := by decide +kernel
theorem dL_law_119 : decode cL_law 119 = .ok (.iconst 1, 1) := by decide +kernel
theorem dL_law_120 : decode cL_law 120 = .ok (.iadd, 1) := by decide +kernel
theorem dL_law_121 : decode cL_law 121 = .ok (.iaload, 1) := by decide +kernel
theorem dL_law_122 : decode cL_law 122 = .ok (.invokevirtual 13, 3) := by decide +kernel
theorem dL_law_125 : decode cL_law 125 = .ok (.aload_n 2, 1) := by decide +kernel
theorem dL_law_126 : decode cL_law 126 = .ok (.aload_n 0, 1) := by decide +kernel
theorem dL_law_127 : decode cL_law 127 = .ok (.iload_n 3, 1) := by decide +kernel
theorem dL_law_128 : decode cL_law 128 = .ok (.iconst 1, 1) := by decide +kernel
theorem dL_law_129 : decode cL_law 129 = .ok (.iadd, 1) := by decide +kernel
theorem dL_law_130 : decode cL_law 130 = .ok (.iaload, 1) := by decide +kernel
theorem dL_law_131 : decode cL_law 131 = .ok (.invokevirtual 17, 3) := by decide +kernel
theorem dL_law_134 : decode cL_law 134 = .ok (.if_icmp .eq 434, 3) := by decide +kernel
theorem dL_law_137 : decode cL_law 137 = .ok (.iconst 0, 1) := by decide +kernel
theorem dL_law_138 : decode cL_law 138 = .ok (.ireturn, 1) := by decide +kernel
theorem dL_law_139 : decode cL_law 139 = .ok (.aload_n 1, 1) := by decide +kernel
theorem dL_law_140 : decode cL_law 140 = .ok (.invokevirtual 18, 3) := by decide +kernel
theorem dL_law_143 : decode cL_law 143 = .ok (.aload_n 2, 1) := by decide +kernel
theorem dL_law_144 : decode cL_law 144 = .ok (.invokevirtual 22, 3) := by decide +kernel
theorem dL_law_147 : decode cL_law 147 = .ok (.if_icmp .eq 421, 3) := by decide +kernel
theorem dL_law_150 : decode cL_law 150 = .ok (.iconst 0, 1) := by decide +kernel
theorem dL_law_151 : decode cL_law 151 = .ok (.ireturn, 1) := by decide +kernel
theorem dL_law_152 : decode cL_law 152 = .ok (.aload_n 1, 1) := by decide +kernel
theorem dL_law_153 : decode cL_law 153 = .ok (.aload_n 0, 1) := by decide +kernel
theorem dL_law_154 : decode cL_law 154 = .ok (.iload_n 3, 1) := by decide +kernel
theorem dL_law_155 : decode cL_law 155 = .ok (.iconst 1, 1) := by decide +kernel
theorem dL_law_156 : decode cL_law 156 = .ok (.iadd, 1) := by decide +kernel
theorem dL_law_157 : decode cL_law 157 = .ok (.iaload, 1) := by decide +kernel
theorem dL_law_158 : decode cL_law 158 = .ok (.invokevirtual 23, 3) := by decide +kernel
theorem dL_law_161 : decode cL_law 161 = .ok (.aload_n 2, 1) := by decide +kernel
theorem dL_law_162 : decode cL_law 162 = .ok (.aload_n 0, 1) := by decide +kernel
theorem dL_law_163 : decode cL_law 163 = .ok (.iload_n 3, 1) := by decide +kernel
theorem dL_law_164 : decode cL_law 164 = .ok (.iconst 1, 1) := by decide +kernel
theorem dL_law_165 : decode cL_law 165 = .ok (.iadd, 1) := by decide +kernel
theorem dL_law_166 : decode cL_law 166 = .ok (.iaload, 1) := by decide +kernel
theorem dL_law_167 : decode cL_law 167 = .ok (.invokevirtual 26, 3) := by decide +kernel
theorem dL_law_170 : decode cL_law 170 = .ok (.if_icmp .eq 398, 3) := by decide +kernel
theorem dL_law_173 : decode cL_law 173 = .ok (.iconst 0, 1) := by decide +kernel
theorem dL_law_174 : decode cL_law 174 = .ok (.ireturn, 1) := by decide +kernel
theorem dL_law_175 : decode cL_law 175 = .ok (.aload_n 1, 1) := by decide +kernel
theorem dL_law_176 : decode cL_law 176 = .ok (.aload_n 0, 1) := by decide +kernel
theorem dL_law_177 : decode cL_law 177 = .ok (.iload_n 3, 1) := by decide +kernel
theorem dL_law_178 : decode cL_law 178 = .ok (.iconst 1, 1) := by decide +kernel
theorem dL_law_179 : decode cL_law 179 = .ok (.iadd, 1) := by decide +kernel
theorem dL_law_180 : decode cL_law 180 = .ok (.iaload, 1) := by decide +kernel
theorem dL_law_181 : decode cL_law 181 = .ok (.invokevirtual 27, 3) := by decide +kernel
theorem dL_law_184 : decode cL_law 184 = .ok (.aload_n 2, 1) := by decide +kernel
theorem dL_law_185 : decode cL_law 185 = .ok (.aload_n 0, 1) := by decide +kernel
theorem dL_law_186 : decode cL_law 186 = .ok (.iload_n 3, 1) := by decide +kernel
theorem dL_law_187 : decode cL_law 187 = .ok (.iconst 1, 1) := by decide +kernel
theorem dL_law_188 : decode cL_law 188 = .ok (.iadd, 1) := by decide +kernel
theorem dL_law_189 : decode cL_law 189 = .ok (.iaload, 1) := by decide +kernel
theorem dL_law_190 : decode cL_law 190 = .ok (.invokevirtual 30, 3) := by decide +kernel
theorem dL_law_193 : decode cL_law 193 = .ok (.if_icmp .eq 375, 3) := by decide +kernel
theorem dL_law_196 : decode cL_law 196 = .ok (.iconst 0, 1) := by decide +kernel
theorem dL_law_197 : decode cL_law 197 = .ok (.ireturn, 1) := by decide +kernel
theorem dL_law_198 : decode cL_law 198 = .ok (.aload_n 1, 1) := by decide +kernel
theorem dL_law_199 : decode cL_law 199 = .ok (.aload_n 0, 1) := by decide +kernel
theorem dL_law_200 : decode cL_law 200 = .ok (.iload_n 3, 1) := by decide +kernel
theorem dL_law_201 : decode cL_law 201 = .ok (.iconst 1, 1) := by decide +kernel
theorem dL_law_202 : decode cL_law 202 = .ok (.iadd, 1) := by decide +kernel
theorem dL_law_203 : decode cL_law 203 = .ok (.iaload, 1) := by decide +kernel
theorem dL_law_204 : decode cL_law 204 = .ok (.aload_n 0, 1) := by decide +kernel
theorem dL_law_205 : decode cL_law 205 = .ok (.iload_n 3, 1) := by decide +kernel
theorem dL_law_206 : decode cL_law 206 = .ok (.iconst 2, 1) := by decide +kernel
theorem dL_law_207 : decode cL_law 207 = .ok (.iadd, 1) := by decide +kernel
theorem dL_law_208 : decode cL_law 208 = .ok (.iaload, 1) := by decide +kernel
theorem dL_law_209 : decode cL_law 209 = .ok (.invokevirtual 31, 3) := by decide +kernel
theorem dL_law_212 : decode cL_law 212 = .ok (.aload_n 2, 1) := by decide +kernel
theorem dL_law_213 : decode cL_law 213 = .ok (.aload_n 0, 1) := by decide +kernel
theorem dL_law_214 : decode cL_law 214 = .ok (.iload_n 3, 1) := by decide +kernel
theorem dL_law_215 : decode cL_law 215 = .ok (.iconst 1, 1) := by decide +kernel
theorem dL_law_216 : decode cL_law 216 = .ok (.iadd, 1) := by decide +kernel
theorem dL_law_217 : decode cL_law 217 = .ok (.iaload, 1) := by decide +kernel
theorem dL_law_218 : decode cL_law 218 = .ok (.aload_n 0, 1) := by decide +kernel
theorem dL_law_219 : decode cL_law 219 = .ok (.iload_n 3, 1) := by decide +kernel
theorem dL_law_220 : decode cL_law 220 = .ok (.iconst 2, 1) := by decide +kernel
theorem dL_law_221 : decode cL_law 221 = .ok (.iadd, 1) := by decide +kernel
theorem dL_law_222 : decode cL_law 222 = .ok (.iaload, 1) := by decide +kernel
theorem dL_law_223 : decode cL_law 223 = .ok (.invokevirtual 35, 3) := by decide +kernel
theorem dL_law_226 : decode cL_law 226 = .ok (.if_icmp .eq 342, 3) := by decide +kernel
theorem dL_law_229 : decode cL_law 229 = .ok (.iconst 0, 1) := by decide +kernel
theorem dL_law_230 : decode cL_law 230 = .ok (.ireturn, 1) := by decide +kernel
theorem dL_law_231 : decode cL_law 231 = .ok (.aload_n 1, 1) := by decide +kernel
theorem dL_law_232 : decode cL_law 232 = .ok (.aload_n 0, 1) := by decide +kernel
theorem dL_law_233 : decode cL_law 233 = .ok (.iload_n 3, 1) := by decide +kernel
theorem dL_law_234 : decode cL_law 234 = .ok (.iconst 1, 1) := by decide +kernel
theorem dL_law_235 : decode cL_law 235 = .ok (.iadd, 1) := by decide +kernel
theorem dL_law_236 : decode cL_law 236 = .ok (.iaload, 1) := by decide +kernel
theorem dL_law_237 : decode cL_law 237 = .ok (.aload_n 0, 1) := by decide +kernel
theorem dL_law_238 : decode cL_law 238 = .ok (.iload_n 3, 1) := by decide +kernel
theorem dL_law_239 : decode cL_law 239 = .ok (.iconst 2, 1) := by decide +kernel
theorem dL_law_240 : decode cL_law 240 = .ok (.iadd, 1) := by decide +kernel
theorem dL_law_241 : decode cL_law 241 = .ok (.iaload, 1) := by decide +kernel
theorem dL_law_242 : decode cL_law 242 = .ok (.aload_n 0, 1) := by decide +kernel
theorem dL_law_243 : decode cL_law 243 = .ok (.iload_n 3, 1) := by decide +kernel
theorem dL_law_244 : decode cL_law 244 = .ok (.iconst 3, 1) := by decide +kernel
theorem dL_law_245 : decode cL_law 245 = .ok (.iadd, 1) := by decide +kernel
theorem dL_law_246 : decode cL_law 246 = .ok (.iaload, 1) := by decide +kernel
theorem dL_law_247 : decode cL_law 247 = .ok (.invokevirtual 36, 3) := by decide +kernel
theorem dL_law_250 : decode cL_law 250 = .ok (.aload_n 2, 1) := by decide +kernel
theorem dL_law_251 : decode cL_law 251 = .ok (.aload_n 0, 1) := by decide +kernel
theorem dL_law_252 : decode cL_law 252 = .ok (.iload_n 3, 1) := by decide +kernel
theorem dL_law_253 : decode cL_law 253 = .ok (.iconst 1, 1) := by decide +kernel
theorem dL_law_254 : decode cL_law 254 = .ok (.iadd, 1) := by decide +kernel
theorem dL_law_255 : decode cL_law 255 = .ok (.iaload, 1) := by decide +kernel
theorem dL_law_256 : decode cL_law 256 = .ok (.aload_n 0, 1) := by decide +kernel
theorem dL_law_257 : decode cL_law 257 = .ok (.iload_n 3, 1) := by decide +kernel
theorem dL_law_258 : decode cL_law 258 = .ok (.iconst 2, 1) := by decide +kernel
theorem dL_law_259 : decode cL_law 259 = .ok (.iadd, 1) := by decide +kernel
theorem dL_law_260 : decode cL_law 260 = .ok (.iaload, 1) := by decide +kernel
theorem dL_law_261 : decode cL_law 261 = .ok (.aload_n 0, 1) := by decide +kernel
theorem dL_law_262 : decode cL_law 262 = .ok (.iload_n 3, 1) := by decide +kernel
theorem dL_law_263 : decode cL_law 263 = .ok (.iconst 3, 1) := by decide +kernel
theorem dL_law_264 : decode cL_law 264 = .ok (.iadd, 1) := by decide +kernel
theorem dL_law_265 : decode cL_law 265 = .ok (.iaload, 1) := by decide +kernel
theorem dL_law_266 : decode cL_law 266 = .ok (.invokevirtual 40, 3) := by decide +kernel
theorem dL_law_269 : decode cL_law 269 = .ok (.if_icmp .eq 299, 3) := by decide +kernel
theorem dL_law_272 : decode cL_law 272 = .ok (.iconst 0, 1) := by decide +kernel
theorem dL_law_273 : decode cL_law 273 = .ok (.ireturn, 1) := by decide +kernel
theorem dL_law_274 : decode cL_law 274 = .ok (.aload_n 1, 1) := by decide +kernel
theorem dL_law_275 : decode cL_law 275 = .ok (.aload_n 0, 1) := by decide +kernel
theorem dL_law_276 : decode cL_law 276 = .ok (.iload_n 3, 1) := by decide +kernel
theorem dL_law_277 : decode cL_law 277 = .ok (.iconst 1, 1) := by decide +kernel
theorem dL_law_278 : decode cL_law 278 = .ok (.iadd, 1) := by decide +kernel
theorem dL_law_279 : decode cL_law 279 = .ok (.iaload, 1) := by decide +kernel
theorem dL_law_280 : decode cL_law 280 = .ok (.invokevirtual 41, 3) := by decide +kernel
theorem dL_law_283 : decode cL_law 283 = .ok (.aload_n 2, 1) := by decide +kernel
theorem dL_law_284 : decode cL_law 284 = .ok (.aload_n 0, 1) := by decide +kernel
theorem dL_law_285 : decode cL_law 285 = .ok (.iload_n 3, 1) := by decide +kernel
theorem dL_law_286 : decode cL_law 286 = .ok (.iconst 1, 1) := by decide +kernel
theorem dL_law_287 : decode cL_law 287 = .ok (.iadd, 1) := by decide +kernel
theorem dL_law_288 : decode cL_law 288 = .ok (.iaload, 1) := by decide +kernel
theorem dL_law_289 : decode cL_law 289 = .ok (.invokevirtual 44, 3) := by decide +kernel
theorem dL_law_292 : decode cL_law 292 = .ok (.if_icmp .eq 276, 3) := by decide +kernel
theorem dL_law_295 : decode cL_law 295 = .ok (.iconst 0, 1) := by decide +kernel
theorem dL_law_296 : decode cL_law 296 = .ok (.ireturn, 1) := by decide +kernel
theorem dL_law_297 : decode cL_law 297 = .ok (.aload_n 1, 1) := by decide +kernel
theorem dL_law_298 : decode cL_law 298 = .ok (.aload_n 0, 1) := by decide +kernel
theorem dL_law_299 : decode cL_law 299 = .ok (.iload_n 3, 1) := by decide +kernel
theorem dL_law_300 : decode cL_law 300 = .ok (.iconst 1, 1) := by decide +kernel
theorem dL_law_301 : decode cL_law 301 = .ok (.iadd, 1) := by decide +kernel
theorem dL_law_302 : decode cL_law 302 = .ok (.iaload, 1) := by decide +kernel
theorem dL_law_303 : decode cL_law 303 = .ok (.aload_n 0, 1) := by decide +kernel
theorem dL_law_304 : decode cL_law 304 = .ok (.iload_n 3, 1) := by decide +kernel
theorem dL_law_305 : decode cL_law 305 = .ok (.iconst 2, 1) := by decide +kernel
theorem dL_law_306 : decode cL_law 306 = .ok (.iadd, 1) := by decide +kernel
theorem dL_law_307 : decode cL_law 307 = .ok (.iaload, 1) := by decide +kernel
theorem dL_law_308 : decode cL_law 308 = .ok (.invokevirtual 45, 3) := by decide +kernel
theorem dL_law_311 : decode cL_law 311 = .ok (.aload_n 2, 1) := by decide +kernel
theorem dL_law_312 : decode cL_law 312 = .ok (.aload_n 0, 1) := by decide +kernel
theorem dL_law_313 : decode cL_law 313 = .ok (.iload_n 3, 1) := by decide +kernel
theorem dL_law_314 : decode cL_law 314 = .ok (.iconst 1, 1) := by decide +kernel
theorem dL_law_315 : decode cL_law 315 = .ok (.iadd, 1) := by decide +kernel
theorem dL_law_316 : decode cL_law 316 = .ok (.iaload, 1) := by decide +kernel
theorem dL_law_317 : decode cL_law 317 = .ok (.aload_n 0, 1) := by decide +kernel
theorem dL_law_318 : decode cL_law 318 = .ok (.iload_n 3, 1) := by decide +kernel
theorem dL_law_319 : decode cL_law 319 = .ok (.iconst 2, 1) := by decide +kernel
theorem dL_law_320 : decode cL_law 320 = .ok (.iadd, 1) := by decide +kernel
theorem dL_law_321 : decode cL_law 321 = .ok (.iaload, 1) := by decide +kernel
theorem dL_law_322 : decode cL_law 322 = .ok (.invokevirtual 48, 3) := by decide +kernel
theorem dL_law_325 : decode cL_law 325 = .ok (.if_icmp .eq 243, 3) := by decide +kernel
theorem dL_law_328 : decode cL_law 328 = .ok (.iconst 0, 1) := by decide +kernel
theorem dL_law_329 : decode cL_law 329 = .ok (.ireturn, 1) := by decide +kernel
theorem dL_law_330 : decode cL_law 330 = .ok (.aload_n 1, 1) := by decide +kernel
theorem dL_law_331 : decode cL_law 331 = .ok (.invokevirtual 49, 3) := by decide +kernel
theorem dL_law_334 : decode cL_law 334 = .ok (.aload_n 2, 1) := by decide +kernel
theorem dL_law_335 : decode cL_law 335 = .ok (.invokevirtual 52, 3) := by decide +kernel
theorem dL_law_338 : decode cL_law 338 = .ok (.if_icmp .eq 230, 3) := by decide +kernel
theorem dL_law_341 : decode cL_law 341 = .ok (.iconst 0, 1) := by decide +kernel
theorem dL_law_342 : decode cL_law 342 = .ok (.ireturn, 1) := by decide +kernel
theorem dL_law_343 : decode cL_law 343 = .ok (.aload_n 1, 1) := by decide +kernel
theorem dL_law_344 : decode cL_law 344 = .ok (.aload_n 0, 1) := by decide +kernel
theorem dL_law_345 : decode cL_law 345 = .ok (.iload_n 3, 1) := by decide +kernel
theorem dL_law_346 : decode cL_law 346 = .ok (.iconst 1, 1) := by decide +kernel
theorem dL_law_347 : decode cL_law 347 = .ok (.iadd, 1) := by decide +kernel
theorem dL_law_348 : decode cL_law 348 = .ok (.iaload, 1) := by decide +kernel
theorem dL_law_349 : decode cL_law 349 = .ok (.aload_n 0, 1) := by decide +kernel
theorem dL_law_350 : decode cL_law 350 = .ok (.iload_n 3, 1) := by decide +kernel
theorem dL_law_351 : decode cL_law 351 = .ok (.iconst 2, 1) := by decide +kernel
theorem dL_law_352 : decode cL_law 352 = .ok (.iadd, 1) := by decide +kernel
theorem dL_law_353 : decode cL_law 353 = .ok (.iaload, 1) := by decide +kernel
theorem dL_law_354 : decode cL_law 354 = .ok (.invokevirtual 53, 3) := by decide +kernel
theorem dL_law_357 : decode cL_law 357 = .ok (.aload_n 2, 1) := by decide +kernel
theorem dL_law_358 : decode cL_law 358 = .ok (.aload_n 0, 1) := by decide +kernel
theorem dL_law_359 : decode cL_law 359 = .ok (.iload_n 3, 1) := by decide +kernel
theorem dL_law_360 : decode cL_law 360 = .ok (.iconst 1, 1) := by decide +kernel
theorem dL_law_361 : decode cL_law 361 = .ok (.iadd, 1) := by decide +kernel
theorem dL_law_362 : decode cL_law 362 = .ok (.iaload, 1) := by decide +kernel
theorem dL_law_363 : decode cL_law 363 = .ok (.aload_n 0, 1) := by decide +kernel
theorem dL_law_364 : decode cL_law 364 = .ok (.iload_n 3, 1) := by decide +kernel
theorem dL_law_365 : decode cL_law 365 = .ok (.iconst 2, 1) := by decide +kernel
theorem dL_law_366 : decode cL_law 366 = .ok (.iadd, 1) := by decide +kernel
theorem dL_law_367 : decode cL_law 367 = .ok (.iaload, 1) := by decide +kernel
theorem dL_law_368 : decode cL_law 368 = .ok (.invokevirtual 56, 3) := by decide +kernel
theorem dL_law_371 : decode cL_law 371 = .ok (.if_icmp .eq 197, 3) := by decide +kernel
theorem dL_law_374 : decode cL_law 374 = .ok (.iconst 0, 1) := by decide +kernel
theorem dL_law_375 : decode cL_law 375 = .ok (.ireturn, 1) := by decide +kernel
theorem dL_law_376 : decode cL_law 376 = .ok (.aload_n 1, 1) := by decide +kernel
theorem dL_law_377 : decode cL_law 377 = .ok (.aload_n 0, 1) := by decide +kernel
theorem dL_law_378 : decode cL_law 378 = .ok (.iload_n 3, 1) := by decide +kernel
theorem dL_law_379 : decode cL_law 379 = .ok (.iconst 1, 1) := by decide +kernel
theorem dL_law_380 : decode cL_law 380 = .ok (.iadd, 1) := by decide +kernel
theorem dL_law_381 : decode cL_law 381 = .ok (.iaload, 1) := by decide +kernel
theorem dL_law_382 : decode cL_law 382 = .ok (.aload_n 0, 1) := by decide +kernel
theorem dL_law_383 : decode cL_law 383 = .ok (.iload_n 3, 1) := by decide +kernel
theorem dL_law_384 : decode cL_law 384 = .ok (.iconst 2, 1) := by decide +kernel
theorem dL_law_385 : decode cL_law 385 = .ok (.iadd, 1) := by decide +kernel
theorem dL_law_386 : decode cL_law 386 = .ok (.iaload, 1) := by decide +kernel
theorem dL_law_387 : decode cL_law 387 = .ok (.invokevirtual 57, 3) := by decide +kernel
theorem dL_law_390 : decode cL_law 390 = .ok (.aload_n 2, 1) := by decide +kernel
theorem dL_law_391 : decode cL_law 391 = .ok (.aload_n 0, 1) := by decide +kernel
theorem dL_law_392 : decode cL_law 392 = .ok (.iload_n 3, 1) := by decide +kernel
theorem dL_law_393 : decode cL_law 393 = .ok (.iconst 1, 1) := by decide +kernel
theorem dL_law_394 : decode cL_law 394 = .ok (.iadd, 1) := by decide +kernel
theorem dL_law_395 : decode cL_law 395 = .ok (.iaload, 1) := by decide +kernel
theorem dL_law_396 : decode cL_law 396 = .ok (.aload_n 0, 1) := by decide +kernel
theorem dL_law_397 : decode cL_law 397 = .ok (.iload_n 3, 1) := by decide +kernel
theorem dL_law_398 : decode cL_law 398 = .ok (.iconst 2, 1) := by decide +kernel
theorem dL_law_399 : decode cL_law 399 = .ok (.iadd, 1) := by decide +kernel
theorem dL_law_400 : decode cL_law 400 = .ok (.iaload, 1) := by decide +kernel
theorem dL_law_401 : decode cL_law 401 = .ok (.invokevirtual 60, 3) := by decide +kernel
theorem dL_law_404 : decode cL_law 404 = .ok (.if_icmp .eq 164, 3) := by decide +kernel
theorem dL_law_407 : decode cL_law 407 = .ok (.iconst 0, 1) := by decide +kernel
theorem dL_law_408 : decode cL_law 408 = .ok (.ireturn, 1) := by decide +kernel
theorem dL_law_409 : decode cL_law 409 = .ok (.aload_n 1, 1) := by decide +kernel
theorem dL_law_410 : decode cL_law 410 = .ok (.aload_n 0, 1) := by decide +kernel
theorem dL_law_411 : decode cL_law 411 = .ok (.iload_n 3, 1) := by decide +kernel
theorem dL_law_412 : decode cL_law 412 = .ok (.iconst 1, 1) := by decide +kernel
theorem dL_law_413 : decode cL_law 413 = .ok (.iadd, 1) := by decide +kernel
theorem dL_law_414 : decode cL_law 414 = .ok (.iaload, 1) := by decide +kernel
theorem dL_law_415 : decode cL_law 415 = .ok (.invokevirtual 61, 3) := by decide +kernel
theorem dL_law_418 : decode cL_law 418 = .ok (.aload_n 2, 1) := by decide +kernel
theorem dL_law_419 : decode cL_law 419 = .ok (.aload_n 0, 1) := by decide +kernel
theorem dL_law_420 : decode cL_law 420 = .ok (.iload_n 3, 1) := by decide +kernel
theorem dL_law_421 : decode cL_law 421 = .ok (.iconst 1, 1) := by decide +kernel
theorem dL_law_422 : decode cL_law 422 = .ok (.iadd, 1) := by decide +kernel
theorem dL_law_423 : decode cL_law 423 = .ok (.iaload, 1) := by decide +kernel
theorem dL_law_424 : decode cL_law 424 = .ok (.invokevirtual 64, 3) := by decide +kernel
theorem dL_law_427 : decode cL_law 427 = .ok (.if_icmp .eq 141, 3) := by decide +kernel
theorem dL_law_430 : decode cL_law 430 = .ok (.iconst 0, 1) := by decide +kernel
theorem dL_law_431 : decode cL_law 431 = .ok (.ireturn, 1) := by decide +kernel
theorem dL_law_432 : decode cL_law 432 = .ok (.aload_n 1, 1) := by decide +kernel
theorem dL_law_433 : decode cL_law 433 = .ok (.aload_n 0, 1) := by decide +kernel
theorem dL_law_434 : decode cL_law 434 = .ok (.iload_n 3, 1) := by decide +kernel
theorem dL_law_435 : decode cL_law 435 = .ok (.iconst 1, 1) := by decide +kernel
theorem dL_law_436 : decode cL_law 436 = .ok (.iadd, 1) := by decide +kernel
theorem dL_law_437 : decode cL_law 437 = .ok (.iaload, 1) := by decide +kernel
theorem dL_law_438 : decode cL_law 438 = .ok (.aload_n 0, 1) := by decide +kernel
theorem dL_law_439 : decode cL_law 439 = .ok (.iload_n 3, 1) := by decide +kernel
theorem dL_law_440 : decode cL_law 440 = .ok (.iconst 2, 1) := by decide +kernel
theorem dL_law_441 : decode cL_law 441 = .ok (.iadd, 1) := by decide +kernel
theorem dL_law_442 : decode cL_law 442 = .ok (.iaload, 1) := by decide +kernel
theorem dL_law_443 : decode cL_law 443 = .ok (.invokevirtual 65, 3) := by decide +kernel
theorem dL_law_446 : decode cL_law 446 = .ok (.aload_n 2, 1) := by decide +kernel
theorem dL_law_447 : decode cL_law 447 = .ok (.aload_n 0, 1) := by decide +kernel
theorem dL_law_448 : decode cL_law 448 = .ok (.iload_n 3, 1) := by decide +kernel
theorem dL_law_449 : decode cL_law 449 = .ok (.iconst 1, 1) := by decide +kernel
theorem dL_law_450 : decode cL_law 450 = .ok (.iadd, 1) := by decide +kernel
theorem dL_law_451 : decode cL_law 451 = .ok (.iaload, 1) := by decide +kernel
theorem dL_law_452 : decode cL_law 452 = .ok (.aload_n 0, 1) := by decide +kernel
theorem dL_law_453 : decode cL_law 453 = .ok (.iload_n 3, 1) := by decide +kernel
theorem dL_law_454 : decode cL_law 454 = .ok (.iconst 2, 1) := by decide +kernel
theorem dL_law_455 : decode cL_law 455 = .ok (.iadd, 1) := by decide +kernel
theorem dL_law_456 : decode cL_law 456 = .ok (.iaload, 1) := by decide +kernel
theorem dL_law_457 : decode cL_law 457 = .ok (.invokevirtual 68, 3) := by decide +kernel
theorem dL_law_460 : decode cL_law 460 = .ok (.if_icmp .eq 108, 3) := by decide +kernel
theorem dL_law_463 : decode cL_law 463 = .ok (.iconst 0, 1) := by decide +kernel
theorem dL_law_464 : decode cL_law 464 = .ok (.ireturn, 1) := by decide +kernel
theorem dL_law_465 : decode cL_law 465 = .ok (.aload_n 1, 1) := by decide +kernel
theorem dL_law_466 : decode cL_law 466 = .ok (.aload_n 0, 1) := by decide +kernel
theorem dL_law_467 : decode cL_law 467 = .ok (.iload_n 3, 1) := by decide +kernel
theorem dL_law_468 : decode cL_law 468 = .ok (.iconst 1, 1) := by decide +kernel
theorem dL_law_469 : decode cL_law 469 = .ok (.iadd, 1) := by decide +kernel
theorem dL_law_470 : decode cL_law 470 = .ok (.iaload, 1) := by decide +kernel
theorem dL_law_471 : decode cL_law 471 = .ok (.aload_n 0, 1) := by decide +kernel
theorem dL_law_472 : decode cL_law 472 = .ok (.iload_n 3, 1) := by decide +kernel
theorem dL_law_473 : decode cL_law 473 = .ok (.iconst 2, 1) := by decide +kernel
theorem dL_law_474 : decode cL_law 474 = .ok (.iadd, 1) := by decide +kernel
theorem dL_law_475 : decode cL_law 475 = .ok (.iaload, 1) := by decide +kernel
theorem dL_law_476 : decode cL_law 476 = .ok (.invokevirtual 69, 3) := by decide +kernel
theorem dL_law_479 : decode cL_law 479 = .ok (.aload_n 2, 1) := by decide +kernel
theorem dL_law_480 : decode cL_law 480 = .ok (.aload_n 0, 1) := by decide +kernel
theorem dL_law_481 : decode cL_law 481 = .ok (.iload_n 3, 1) := by decide +kernel
theorem dL_law_482 : decode cL_law 482 = .ok (.iconst 1, 1) := by decide +kernel
theorem dL_law_483 : decode cL_law 483 = .ok (.iadd, 1) := by decide +kernel
theorem dL_law_484 : decode cL_law 484 = .ok (.iaload, 1) := by decide +kernel
theorem dL_law_485 : decode cL_law 485 = .ok (.aload_n 0, 1) := by decide +kernel
theorem dL_law_486 : decode cL_law 486 = .ok (.iload_n 3, 1) := by decide +kernel
theorem dL_law_487 : decode cL_law 487 = .ok (.iconst 2, 1) := by decide +kernel
theorem dL_law_488 : decode cL_law 488 = .ok (.iadd, 1) := by decide +kernel
theorem dL_law_489 : decode cL_law 489 = .ok (.iaload, 1) := by decide +kernel
theorem dL_law_490 : decode cL_law 490 = .ok (.invokevirtual 72, 3) := by decide +kernel
theorem dL_law_493 : decode cL_law 493 = .ok (.if_icmp .eq 75, 3) := by decide +kernel
theorem dL_law_496 : decode cL_law 496 = .ok (.iconst 0, 1) := by decide +kernel
theorem dL_law_497 : decode cL_law 497 = .ok (.ireturn, 1) := by decide +kernel
theorem dL_law_498 : decode cL_law 498 = .ok (.aload_n 1, 1) := by decide +kernel
theorem dL_law_499 : decode cL_law 499 = .ok (.aload_n 0, 1) := by decide +kernel
theorem dL_law_500 : decode cL_law 500 = .ok (.iload_n 3, 1) := by decide +kernel
theorem dL_law_501 : decode cL_law 501 = .ok (.iconst 1, 1) := by decide +kernel
theorem dL_law_502 : decode cL_law 502 = .ok (.iadd, 1) := by decide +kernel
theorem dL_law_503 : decode cL_law 503 = .ok (.iaload, 1) := by decide +kernel
theorem dL_law_504 : decode cL_law 504 = .ok (.aload_n 0, 1) := by decide +kernel
theorem dL_law_505 : decode cL_law 505 = .ok (.iload_n 3, 1) := by decide +kernel
theorem dL_law_506 : decode cL_law 506 = .ok (.iconst 2, 1) := by decide +kernel
theorem dL_law_507 : decode cL_law 507 = .ok (.iadd, 1) := by decide +kernel
theorem dL_law_508 : decode cL_law 508 = .ok (.iaload, 1) := by decide +kernel
theorem dL_law_509 : decode cL_law 509 = .ok (.invokevirtual 73, 3) := by decide +kernel
theorem dL_law_512 : decode cL_law 512 = .ok (.aload_n 2, 1) := by decide +kernel
theorem dL_law_513 : decode cL_law 513 = .ok (.aload_n 0, 1) := by decide +kernel
theorem dL_law_514 : decode cL_law 514 = .ok (.iload_n 3, 1) := by decide +kernel
theorem dL_law_515 : decode cL_law 515 = .ok (.iconst 1, 1) := by decide +kernel
theorem dL_law_516 : decode cL_law 516 = .ok (.iadd, 1) := by decide +kernel
theorem dL_law_517 : decode cL_law 517 = .ok (.iaload, 1) := by decide +kernel
theorem dL_law_518 : decode cL_law 518 = .ok (.aload_n 0, 1) := by decide +kernel
theorem dL_law_519 : decode cL_law 519 = .ok (.iload_n 3, 1) := by decide +kernel
theorem dL_law_520 : decode cL_law 520 = .ok (.iconst 2, 1) := by decide +kernel
theorem dL_law_521 : decode cL_law 521 = .ok (.iadd, 1) := by decide +kernel
theorem dL_law_522 : decode cL_law 522 = .ok (.iaload, 1) := by decide +kernel
theorem dL_law_523 : decode cL_law 523 = .ok (.invokevirtual 76, 3) := by decide +kernel
theorem dL_law_526 : decode cL_law 526 = .ok (.if_icmp .eq 42, 3) := by decide +kernel
theorem dL_law_529 : decode cL_law 529 = .ok (.iconst 0, 1) := by decide +kernel
theorem dL_law_530 : decode cL_law 530 = .ok (.ireturn, 1) := by decide +kernel
theorem dL_law_531 : decode cL_law 531 = .ok (.aload_n 1, 1) := by decide +kernel
theorem dL_law_532 : decode cL_law 532 = .ok (.aload_n 0, 1) := by decide +kernel
theorem dL_law_533 : decode cL_law 533 = .ok (.iload_n 3, 1) := by decide +kernel
theorem dL_law_534 : decode cL_law 534 = .ok (.iconst 1, 1) := by decide +kernel
theorem dL_law_535 : decode cL_law 535 = .ok (.iadd, 1) := by decide +kernel
theorem dL_law_536 : decode cL_law 536 = .ok (.iaload, 1) := by decide +kernel
theorem dL_law_537 : decode cL_law 537 = .ok (.invokevirtual 77, 3) := by decide +kernel
theorem dL_law_540 : decode cL_law 540 = .ok (.aload_n 2, 1) := by decide +kernel
theorem dL_law_541 : decode cL_law 541 = .ok (.aload_n 0, 1) := by decide +kernel
theorem dL_law_542 : decode cL_law 542 = .ok (.iload_n 3, 1) := by decide +kernel
theorem dL_law_543 : decode cL_law 543 = .ok (.iconst 1, 1) := by decide +kernel
theorem dL_law_544 : decode cL_law 544 = .ok (.iadd, 1) := by decide +kernel
theorem dL_law_545 : decode cL_law 545 = .ok (.iaload, 1) := by decide +kernel
theorem dL_law_546 : decode cL_law 546 = .ok (.invokevirtual 80, 3) := by decide +kernel
theorem dL_law_549 : decode cL_law 549 = .ok (.if_icmp .eq 19, 3) := by decide +kernel
theorem dL_law_552 : decode cL_law 552 = .ok (.iconst 0, 1) := by decide +kernel
theorem dL_law_553 : decode cL_law 553 = .ok (.ireturn, 1) := by decide +kernel
theorem dL_law_554 : decode cL_law 554 = .ok (.aload_n 1, 1) := by decide +kernel
theorem dL_law_555 : decode cL_law 555 = .ok (.invokevirtual 81, 3) := by decide +kernel
theorem dL_law_558 : decode cL_law 558 = .ok (.aload_n 2, 1) := by decide +kernel
theorem dL_law_559 : decode cL_law 559 = .ok (.invokevirtual 85, 3) := by decide +kernel
theorem dL_law_562 : decode cL_law 562 = .ok (.lcmp, 1) := by decide +kernel
theorem dL_law_563 : decode cL_law 563 = .ok (.ifCond .eq 5, 3) := by decide +kernel
theorem dL_law_566 : decode cL_law 566 = .ok (.iconst 0, 1) := by decide +kernel
theorem dL_law_567 : decode cL_law 567 = .ok (.ireturn, 1) := by decide +kernel
theorem dL_law_568 : decode cL_law 568 = .ok (.iinc 3 4, 3) := by decide +kernel
theorem dL_law_571 : decode cL_law 571 = .ok (.goto (-553), 3) := by decide +kernel
theorem dL_law_574 : decode cL_law 574 = .ok (.iconst 1, 1) := by decide +kernel
theorem dL_law_575 : decode cL_law 575 = .ok (.ireturn, 1) := by decide +kernel
end
section
/-- the cells in the order of their making: an object of a class of vwCl, or an array: kind (0 int, 1 byte, 2 boolean), length -/
def gshL : List (Nat ⊕ (Nat × Nat)) := [.inl 6, .inl 5, .inr (1, 80), .inr (0, 10), .inl 4, .inr (0, 7), .inr (0, 176), .inl 0, .inr (0, 8), .inr (0, 56), .inr (0, 1408), .inl 2, .inr (0, 16), .inr (0, 16), .inr (0, 16), .inr (0, 16), .inr (0, 16), .inr (0, 16), .inl 1, .inr (0, 16), .inr (0, 16), .inr (0, 16), .inr (0, 16), .inr (2, 16), .inr (0, 16), .inr (0, 16), .inr (0, 16), .inl 3, .inr (0, 16), .inr (0, 16), .inr (0, 16), .inr (0, 16), .inl 1, .inr (0, 16), .inr (0, 16), .inr (0, 16), .inr (0, 16), .inr (2, 16), .inr (0, 16), .inr (0, 16), .inr (0, 16), .inl 7, .inr (0, 184), .inr (0, 1472), .inr (0, 80), .inr (0, 11), .inr (0, 16), .inr (0, 16), .inr (0, 16), .inr (0, 16), .inr (0, 16), .inr (0, 16), .inr (0, 16), .inr (2, 16), .inr (0, 16), .inr (0, 16), .inr (0, 16), .inr (2, 16), .inr (0, 16), .inr (0, 16), .inr (0, 16), .inr (0, 16)]
/-- of each class the kinds of its fields: 0 int or boolean, 1 a reference, 2 long -/
def gfkL : List (List Nat) := [[0, 0, 1, 1, 1], [0, 1, 1, 1, 1, 1, 1, 1, 1, 1, 1, 0], [0, 1, 1, 1, 1, 1, 1, 1], [0, 1, 1, 1, 1, 1, 1, 1], [0, 1, 1], [1, 1, 0, 0, 0], [1, 1, 1, 1, 1, 1, 1, 0], [1, 1, 0, 1, 0, 0, 0, 1, 1, 0, 1, 1, 1, 0, 1, 1, 1, 1, 1, 1, 1, 1, 1, 1, 1, 1, 2]]
/-- the static tables -/
def gst : List (String × List Int32) := [("LOWEST", [0, 0, 0, 0, 0, 0, -9, 1, 0, 0]), ("HIGHEST", [400, 9, 9, 400, 400, 20, 9, 100, 50, 4]), ("UNWRITTEN", [0, 0, 1, 0, 400, 0, 0, 10, 0, 4]), ("LOWEST_NUMBER", [20, 0, 0, 0, 0, 0, 0]), ("HIGHEST_NUMBER", [999, 40, 40, 1, 5, 3, 1]), ("FIRST_NUMBER", [300, 0, 0, 1, 0, 0, 0])]
/-- the words: pool index, text, bytes -/
def gtx : List (Nat × String × List Int32) := [(81, "grow", [103, 114, 111, 119]), (83, "shrink", [115, 104, 114, 105, 110, 107]), (85, "min", [109, 105, 110]), (87, "max", [109, 97, 120]), (89, "margin", [109, 97, 114, 103, 105, 110]), (91, "rank", [114, 97, 110, 107]), (93, "height", [104, 101, 105, 103, 104, 116]), (95, "depth", [100, 101, 112, 116, 104]), (97, "across", [97, 99, 114, 111, 115, 115])]
/-- links into a nest mate's private members -/
def gNst : List Cond := [.methodLinkNest "FlexRows" 9 ⟨"FlexRows$Text", "<init>", "()V"⟩ "FlexRows", .fieldLinkNest "FlexRows$State" 18 "FlexRows" "FIRST_NUMBER" "[I" "FlexRows", .methodLinkNest "FlexRows" 25 ⟨"FlexRows$History", "<init>", "()V"⟩ "FlexRows", .fieldLinkNest "FlexRows$Text" 23 "FlexRows" "UNWRITTEN" "[I" "FlexRows", .fieldLinkNest "FlexRows$Text" 56 "FlexRows" "LOWEST" "[I" "FlexRows", .fieldLinkNest "FlexRows$Text" 59 "FlexRows" "HIGHEST" "[I" "FlexRows"]
end
section
/-! THE CALCULUS: one abstract heap for all cells that the law makes (cell i lies at base + i, in the order of making); Wp: from here the machine comes to a place with K. -/
abbrev gF : Type := MethodName × ByteArray × Nat × Option FieldType × Nat × Nat
abbrev gE : Type := Nat × va_G × (Nat → ClassId) × (Nat → Option Nat) × Nat × (Nat → Int32)
abbrev gS : Type := Nat × (Nat → Nat → Int32) × (Nat → Nat → Option Nat) × Int64
def gB : List Cond := lw_tbl.filter goodWord
theorem gB_mem {k : Nat} {w : Cond} (h : lw_tbl[k]? = some w) (g : goodWord w = true) : w ∈ gB := List.mem_filter.mpr ⟨List.mem_of_getElem? h, g⟩
theorem gB_tbl {w : Cond} (h : w ∈ gB) : w ∈ lw_tbl := (List.mem_filter.mp h).1
theorem gB_good {w : Cond} (h : w ∈ gB) : goodWord w = true := (List.mem_filter.mp h).2
def gA (E : gE) : Nat → Prop := fun q => E.1 ≤ q
def gcv (E : gE) (v : Value) : Value := match v with
  | .ref i => if i < 1000 then .ref (E.1 + i) else va_rf (E.2.2.2.1 (i - 1000))
  | v => v
abbrev gcs (E : gE) (st : List Value) : List Value := st.map (gcv E)
theorem gcv_ref {E : gE} {i : Nat} (h : i < 1000) : gcv E (.ref i) = .ref (E.1 + i) := by simp [gcv, h]
theorem gcv_ro {E : gE} {i b : Nat} (h : ¬ i < 1000) (hb : E.2.2.2.1 (i - 1000) = some b) : gcv E (.ref i) = .ref b := by simp [gcv, h, hb, va_rf]
theorem gcv_cat (E : gE) (v : Value) : (gcv E v).category = v.category := by
  cases v <;> try rfl
  rename_i i
  show (if i < 1000 then Value.ref (E.1 + i) else va_rf (E.2.2.2.1 (i - 1000))).category = 1
  split
  · rfl
  · cases E.2.2.2.1 (i - 1000) <;> rfl
theorem gcs_cat (E : gE) (st : List Value) : ((gcs E st).map fun v => v.category) = st.map fun v => v.category := by
  induction st with
  | nil => rfl
  | cons v t ih =>
    show (gcv E v).category :: ((gcs E t).map fun v => v.category) = v.category :: (t.map fun v => v.category)
    rw [gcv_cat, ih]
/-- the shape of each cell: an object of a class, or an array of a kind (0 int, 1 byte, 2 boolean) and a length -/
def gsh (i : Nat) : Nat ⊕ (Nat × Nat) := gshL.getD i (.inl 99)
def gfk (ci k : Nat) : Nat := (gfkL.getD ci []).getD k 0
def gN (ci : Nat) : Nat := (gfkL.getD ci []).length
def gsz (i : Nat) : Nat := match gsh i with
  | .inl ci => gN ci
  | .inr q => q.2
def gsl : Nat → Nat
  | 0 => 0
  | n + 1 => gsl n + gsz n
theorem gsl_mono {a b : Nat} (h : a ≤ b) : gsl a ≤ gsl b := by
  induction b with
  | zero => rw [Nat.le_zero.mp h]; exact Nat.le_refl _
  | succ b ih =>
    rcases Nat.lt_or_ge b a with q | q
    · rw [show a = b + 1 by omega]; exact Nat.le_refl _
    · exact Nat.le_trans (ih q) (Nat.le_add_right _ _)
def gty (kd : Nat) : FieldType := match kd with
  | 0 => .int
  | 1 => .byte
  | _ => .boolean
abbrev gTys (E : gE) : List (ClassId × FieldType) := [(E.2.2.1 0, .int), (E.2.2.1 1, .byte), (E.2.2.1 2, .boolean)]
def gfv (E : gE) (σ : gS) (i ci k : Nat) : Value := match gfk ci k with
  | 0 => .int (σ.2.1 i k)
  | 1 => va_rf ((σ.2.2.1 i k).map (fun r => E.1 + r))
  | _ => .long σ.2.2.2
def gct (E : gE) (σ : gS) (i : Nat) : va_E := match gsh i with
  | .inl ci => .inr (ci, (List.range (gN ci)).map (fun k => gfv E σ i ci k))
  | .inr q => .inl (E.2.2.1 q.1, q.2, .inl (σ.2.1 i))
def gInv (E : gE) (σ : gS) (H : Heap) : Prop := H.size = E.1 + σ.1 ∧ ∀ i, i < σ.1 → va_at E.2.1 vwCl (E.1 + i, gct E σ i) H
/-- what is read alone: the script (1000), the static tables (1001 ..), the words' texts (1010 .., their bytes 1020 ..), a formatter that nobody asks (1050) -/
def gRO (E : gE) (A : Nat → Prop) (U : State) (H : Heap) : Prop :=
  (∃ b, E.2.2.2.1 0 = some b ∧ va_T .int b E.2.2.2.2.1 (fun j => .int (E.2.2.2.2.2 j)) A U H) ∧
  (∀ (j : Nat) (q : String × List Int32), gst[j]? = some q → ∃ t, E.2.2.2.1 (j + 1) = some t ∧ va_T .int t q.2.length (fun k => .int (q.2.getD k 0)) A U H ∧ va_Z "FlexRows" q.1 "[I" (.ref t) A U H) ∧
  (∃ adK adV : Nat → Nat, vk_S gtx.length (gtx.map (fun q => q.2.2.length)) (gtx.map (fun q => q.2.2)) adK adV A U H ∧ ∀ (i : Nat) (q : Nat × String × List Int32), gtx[i]? = some q → E.2.2.2.1 (10 + i) = some (adK i) ∧ E.2.2.2.1 (20 + i) = some (adV i) ∧ vk_R "FlexRows$Text" q.1 q.2.1 (adK i) U) ∧
  (∀ w ∈ gNst, va_Nw w U) ∧ va_Z "java/lang/String" "COMPACT_STRINGS" "Z" (.int 1) A U H ∧
  va_Z "jdk/internal/util/Preconditions" "SIOOBE_FORMATTER" "Ljava/util/function/BiFunction;" (va_rf (E.2.2.2.1 50)) A U H
theorem gRO.to {E : gE} {A : Nat → Prop} {s U : State} {H : Heap} (hr : ∀ own k tx a, vk_R own k tx a s → vk_R own k tx a U) (hn : ∀ w ∈ gNst, va_Nw w s → va_Nw w U) (hvm : s.vm.Alike U.vm) (hq : ∀ a : Nat, a < s.heap.size → ¬ A a → H[a]? = s.heap[a]?) (h : gRO E A s s.heap) : gRO E A U H := by
  obtain ⟨⟨b, h1, h2⟩, h3, ⟨adK, adV, h4, h5⟩, h8, h6, h7⟩ := h
  refine ⟨⟨b, h1, (h2.kept hq).moved hvm⟩, fun j q hj => ?_, ⟨adK, adV, (h4.kept hq).moved hvm, fun i q hi => ?_⟩, fun w hw => hn w hw (h8 w hw), (h6.kept hq).moved hvm, (h7.kept hq).moved hvm⟩
  · obtain ⟨t, a1, a2, a3⟩ := h3 j q hj
    exact ⟨t, a1, (a2.kept hq).moved hvm, (a3.kept hq).moved hvm⟩
  · obtain ⟨a1, a2, a3⟩ := h5 i q hi
    exact ⟨a1, a2, hr _ _ _ _ a3⟩
def gRoOk (r : Nat) : Bool := decide (r = 1000) || (decide (1001 ≤ r) && decide (r < 1001 + gst.length)) || (decide (1010 ≤ r) && decide (r < 1010 + gtx.length)) || (decide (1020 ≤ r) && decide (r < 1020 + gtx.length))
theorem gRO.ok {E : gE} {A : Nat → Prop} {U : State} {H : Heap} (h : gRO E A U H) {r : Nat} (hr : gRoOk r = true) : ∃ b, E.2.2.2.1 (r - 1000) = some b := by
  obtain ⟨⟨b, h1, -⟩, h3, ⟨adK, adV, -, h5⟩, -⟩ := h
  simp only [gRoOk, Bool.or_eq_true, Bool.and_eq_true, decide_eq_true_eq] at hr
  rcases hr with ((rfl | ⟨q1, q2⟩) | ⟨q1, q2⟩) | ⟨q1, q2⟩
  · exact ⟨b, h1⟩
  · have hl : r - 1001 < gst.length := by omega
    obtain ⟨t, z, -⟩ := h3 (r - 1001) _ (List.getElem?_eq_getElem hl)
    exact ⟨t, by rw [show r - 1000 = r - 1001 + 1 by omega]; exact z⟩
  · have hl : r - 1010 < gtx.length := by omega
    obtain ⟨z, -, -⟩ := h5 (r - 1010) _ (List.getElem?_eq_getElem hl)
    exact ⟨_, by rw [show r - 1000 = 10 + (r - 1010) by omega]; exact z⟩
  · have hl : r - 1020 < gtx.length := by omega
    obtain ⟨-, z, -⟩ := h5 (r - 1020) _ (List.getElem?_eq_getElem hl)
    exact ⟨_, by rw [show r - 1000 = 20 + (r - 1020) by omega]; exact z⟩
/-- the locals by their places; .null: nothing is said -/
def gLs (E : gE) (ls : Array Slot) (nL : Nat) (L : List Value) : Prop := ls.size = nL ∧ lv_wf ls ∧ ∀ (i : Nat) (v : Value), L[i]? = some v → v ≠ .null → ls[i]? = some (.val (gcv E v))
def gC (E : gE) (F : gF) (p : Program) (R : Room) (s : State) (m : MethodId) (args : Array Value) (meth : Method) (c : Code) : Prop :=
  p.tables.exec = Jvm.exec ∧ c.code = F.2.1 ∧ c.maxLocals = F.2.2.1 ∧ s.vm.findClass F.1.cls = some m.cls ∧ (∀ w ∈ gB, w.before args s = true) ∧ va_K E.2.1 vwCl (gTys E) s ∧ gRO E (gA E) s s.heap ∧ E.1 ≤ s.heap.size ∧ F.2.2.2.2.1 ≤ R.frames ∧ F.2.2.2.2.2 ≤ R.locals ∧ meth.name = F.1.name
def gR (E : gE) (F : gF) (nE n0 : Nat) (s : State) (L : List Value) (σ : gS) (H : Heap) (locs : List Loc) (cells slots : Nat) (ls : Array Slot) : Prop :=
  gInv E σ H ∧ va_S (gA E) s.heap H locs ∧ gLs E ls F.2.2.1 L ∧ cells + n0 = σ.1 ∧ slots + gsl n0 = gsl σ.1 ∧ σ.1 ≤ nE
abbrev gK : Type := Nat → List Value → List Value → gS → Prop
def Wp (E : gE) (F : gF) (nE : Nat) (pc : Nat) (L st : List Value) (σ : gS) (K : gK) : Prop :=
  ∀ (p : Program) (l : Launch) (e : Env) (R : Room) (s : State) (m : MethodId) (args : Array Value) (below : List Frame) (meth : Method) (c : Code) (Q : State → Prop), gC E F p R s m args meth c → ∀ n0 : Nat, nE ≤ R.cells + n0 → gsl nE ≤ R.slots + gsl n0 →
    (∀ (pc' : Nat) (L' st' : List Value) (σ' : gS) (H' : Heap) (locs' : List Loc) (cells' slots' : Nat) (ls' : Array Slot), K pc' L' st' σ' → gR E F nE n0 s L' σ' H' locs' cells' slots' ls' → W p l e R s m args below meth c H' locs' cells' slots' Q (F0 m pc' ls' (gcs E st'))) →
    ∀ (H : Heap) (locs : List Loc) (cells slots : Nat) (ls : Array Slot), gR E F nE n0 s L σ H locs cells slots ls → W p l e R s m args below meth c H locs cells slots Q (F0 m pc ls (gcs E st))
section GO
variable {E : gE} {F : gF} {nE pc : Nat} {L st : List Value} {σ : gS} {K : gK}
theorem Wp.here (h : K pc L st σ) : Wp E F nE pc L st σ K := fun _ _ _ _ _ _ _ _ _ _ _ _ _ _ _ kk H locs cells slots ls g => kk _ _ _ _ _ _ _ _ _ h g
theorem Wp.bind {K2 : gK} (h : Wp E F nE pc L st σ K2) (k : ∀ pc' L' st' σ', K2 pc' L' st' σ' → Wp E F nE pc' L' st' σ' K) : Wp E F nE pc L st σ K :=
  fun p l e R s m args below meth c Q C n0 r1 r2 kk H locs cells slots ls g => h p l e R s m args below meth c Q C n0 r1 r2 (fun pc' L' st' σ' H' locs' cells' slots' ls' hk g' => k pc' L' st' σ' hk p l e R s m args below meth c Q C n0 r1 r2 kk H' locs' cells' slots' ls' g') H locs cells slots ls g
/-- by way of one place -/
theorem Wp.via (pc1 : Nat) (L1 st1 : List Value) (σ1 : gS) (h : Wp E F nE pc L st σ (fun a b c d => a = pc1 ∧ b = L1 ∧ c = st1 ∧ d = σ1)) (k : Wp E F nE pc1 L1 st1 σ1 K) : Wp E F nE pc L st σ K :=
  h.bind fun _ _ _ _ q => by obtain ⟨rfl, rfl, rfl, rfl⟩ := q; exact k
theorem Wp.at_ {pc1 : Nat} {L1 st1 : List Value} {σ1 : gS} (h1 : pc = pc1) (h2 : L = L1) (h3 : st = st1) (h4 : σ = σ1) : Wp E F nE pc L st σ (fun a b c d => a = pc1 ∧ b = L1 ∧ c = st1 ∧ d = σ1) := Wp.here ⟨h1, h2, h3, h4⟩
theorem Wp.mono {K2 : gK} (h : Wp E F nE pc L st σ K2) (k : ∀ pc' L' st' σ', K2 pc' L' st' σ' → K pc' L' st' σ') : Wp E F nE pc L st σ K := h.bind fun _ _ _ _ q => Wp.here (k _ _ _ _ q)
theorem Wp.eq {pc1 : Nat} {L1 st1 : List Value} {σ1 : gS} (h1 : pc = pc1) (h2 : L = L1) (h3 : st = st1) (h4 : σ = σ1) (k : Wp E F nE pc1 L1 st1 σ1 K) : Wp E F nE pc L st σ K := by subst h1 h2 h3 h4; exact k
/-- forget locals -/
theorem Wp.drop (L1 : List Value) (h : ∀ (i : Nat) (v : Value), L1[i]? = some v → v ≠ .null → L[i]? = some v) (k : Wp E F nE pc L1 st σ K) : Wp E F nE pc L st σ K :=
  fun p l e R s m args below meth c Q C n0 r1 r2 kk H locs cells slots ls g => k p l e R s m args below meth c Q C n0 r1 r2 kk H locs cells slots ls ⟨g.1, g.2.1, ⟨g.2.2.1.1, g.2.2.1.2.1, fun i v h1 h2 => g.2.2.1.2.2 i v (h i v h1 h2) h2⟩, g.2.2.2⟩
/-- L1 is L with some places forgotten -/
def gdropOk : List Value → List Value → Bool
  | [], _ => true
  | .null :: t, _ :: t2 => gdropOk t t2
  | .null :: t, [] => gdropOk t []
  | _ :: _, [] => false
  | v :: t, v2 :: t2 => decide (v = v2) && gdropOk t t2

theorem g_iadd {t : Nat} {x y : Int32} (d : decode F.2.1 pc = .ok (.iadd, 1)) (e : pc + 1 = t) (k : Wp E F nE t L (.int (x + y) :: st) σ K) : Wp E F nE pc L (.int y :: .int x :: st) σ K := by
  subst e
  intro p l e R s m args below meth c Q C n0 r1 r2 kk H locs cells slots ls g
  exact lv_iadd C.1 C.2.1 d (k p l e R s m args below meth c Q C n0 r1 r2 kk H locs cells slots ls g)
theorem g_isub {t : Nat} {x y : Int32} (d : decode F.2.1 pc = .ok (.isub, 1)) (e : pc + 1 = t) (k : Wp E F nE t L (.int (x - y) :: st) σ K) : Wp E F nE pc L (.int y :: .int x :: st) σ K := by
  subst e
  intro p l e R s m args below meth c Q C n0 r1 r2 kk H locs cells slots ls g
  exact lv_isub C.1 C.2.1 d (k p l e R s m args below meth c Q C n0 r1 r2 kk H locs cells slots ls g)
theorem g_imul {t : Nat} {x y : Int32} (d : decode F.2.1 pc = .ok (.imul, 1)) (e : pc + 1 = t) (k : Wp E F nE t L (.int (x * y) :: st) σ K) : Wp E F nE pc L (.int y :: .int x :: st) σ K := by
  subst e
  intro p l e R s m args below meth c Q C n0 r1 r2 kk H locs cells slots ls g
  exact lv_imul C.1 C.2.1 d (k p l e R s m args below meth c Q C n0 r1 r2 kk H locs cells slots ls g)
theorem g_iand {t : Nat} {x y : Int32} (d : decode F.2.1 pc = .ok (.iand, 1)) (e : pc + 1 = t) (k : Wp E F nE t L (.int (x &&& y) :: st) σ K) : Wp E F nE pc L (.int y :: .int x :: st) σ K := by
  subst e
  intro p l e R s m args below meth c Q C n0 r1 r2 kk H locs cells slots ls g
  exact lv_iand C.1 C.2.1 d (k p l e R s m args below meth c Q C n0 r1 r2 kk H locs cells slots ls g)
theorem g_ior {t : Nat} {x y : Int32} (d : decode F.2.1 pc = .ok (.ior, 1)) (e : pc + 1 = t) (k : Wp E F nE t L (.int (x ||| y) :: st) σ K) : Wp E F nE pc L (.int y :: .int x :: st) σ K := by
  subst e
  intro p l e R s m args below meth c Q C n0 r1 r2 kk H locs cells slots ls g
  exact lv_ior C.1 C.2.1 d (k p l e R s m args below meth c Q C n0 r1 r2 kk H locs cells slots ls g)
theorem g_ixor {t : Nat} {x y : Int32} (d : decode F.2.1 pc = .ok (.ixor, 1)) (e : pc + 1 = t) (k : Wp E F nE t L (.int (x ^^^ y) :: st) σ K) : Wp E F nE pc L (.int y :: .int x :: st) σ K := by
  subst e
  intro p l e R s m args below meth c Q C n0 r1 r2 kk H locs cells slots ls g
  exact lv_ixor C.1 C.2.1 d (k p l e R s m args below meth c Q C n0 r1 r2 kk H locs cells slots ls g)
theorem g_ishl {t : Nat} {x y : Int32} (d : decode F.2.1 pc = .ok (.ishl, 1)) (e : pc + 1 = t) (k : Wp E F nE t L (.int (x <<< (y &&& 31)) :: st) σ K) : Wp E F nE pc L (.int y :: .int x :: st) σ K := by
  subst e
  intro p l e R s m args below meth c Q C n0 r1 r2 kk H locs cells slots ls g
  exact lv_ishl C.1 C.2.1 d (k p l e R s m args below meth c Q C n0 r1 r2 kk H locs cells slots ls g)
theorem g_ishr {t : Nat} {x y : Int32} (d : decode F.2.1 pc = .ok (.ishr, 1)) (e : pc + 1 = t) (k : Wp E F nE t L (.int (x >>> (y &&& 31)) :: st) σ K) : Wp E F nE pc L (.int y :: .int x :: st) σ K := by
  subst e
  intro p l e R s m args below meth c Q C n0 r1 r2 kk H locs cells slots ls g
  exact lv_ishr C.1 C.2.1 d (k p l e R s m args below meth c Q C n0 r1 r2 kk H locs cells slots ls g)
theorem g_idiv {t : Nat} {x y : Int32} (d : decode F.2.1 pc = .ok (.idiv, 1)) (hne : ¬ y = 0) (e : pc + 1 = t) (k : Wp E F nE t L (.int (x / y) :: st) σ K) : Wp E F nE pc L (.int y :: .int x :: st) σ K := by
  subst e
  intro p l e R s m args below meth c Q C n0 r1 r2 kk H locs cells slots ls g
  exact lv_idiv C.1 C.2.1 d hne (k p l e R s m args below meth c Q C n0 r1 r2 kk H locs cells slots ls g)
theorem g_irem {t : Nat} {x y : Int32} (d : decode F.2.1 pc = .ok (.irem, 1)) (hne : ¬ y = 0) (e : pc + 1 = t) (k : Wp E F nE t L (.int (x - x / y * y) :: st) σ K) : Wp E F nE pc L (.int y :: .int x :: st) σ K := by
  subst e
  intro p l e R s m args below meth c Q C n0 r1 r2 kk H locs cells slots ls g
  exact lv_irem C.1 C.2.1 d hne (k p l e R s m args below meth c Q C n0 r1 r2 kk H locs cells slots ls g)
theorem g_ineg {t : Nat} {x : Int32} (d : decode F.2.1 pc = .ok (.ineg, 1)) (e : pc + 1 = t) (k : Wp E F nE t L (.int (-x) :: st) σ K) : Wp E F nE pc L (.int x :: st) σ K := by
  subst e
  intro p l e R s m args below meth c Q C n0 r1 r2 kk H locs cells slots ls g
  exact lv_ineg C.1 C.2.1 d (k p l e R s m args below meth c Q C n0 r1 r2 kk H locs cells slots ls g)
theorem g_ladd {t : Nat} {x y : Int64} (d : decode F.2.1 pc = .ok (.ladd, 1)) (e : pc + 1 = t) (k : Wp E F nE t L (.long (x + y) :: st) σ K) : Wp E F nE pc L (.long y :: .long x :: st) σ K := by
  subst e
  intro p l e R s m args below meth c Q C n0 r1 r2 kk H locs cells slots ls g
  exact lv_ladd C.1 C.2.1 d (k p l e R s m args below meth c Q C n0 r1 r2 kk H locs cells slots ls g)
theorem g_lmul {t : Nat} {x y : Int64} (d : decode F.2.1 pc = .ok (.lmul, 1)) (e : pc + 1 = t) (k : Wp E F nE t L (.long (x * y) :: st) σ K) : Wp E F nE pc L (.long y :: .long x :: st) σ K := by
  subst e
  intro p l e R s m args below meth c Q C n0 r1 r2 kk H locs cells slots ls g
  exact lv_lmul C.1 C.2.1 d (k p l e R s m args below meth c Q C n0 r1 r2 kk H locs cells slots ls g)
theorem g_land {t : Nat} {x y : Int64} (d : decode F.2.1 pc = .ok (.land, 1)) (e : pc + 1 = t) (k : Wp E F nE t L (.long (x &&& y) :: st) σ K) : Wp E F nE pc L (.long y :: .long x :: st) σ K := by
  subst e
  intro p l e R s m args below meth c Q C n0 r1 r2 kk H locs cells slots ls g
  exact lv_land C.1 C.2.1 d (k p l e R s m args below meth c Q C n0 r1 r2 kk H locs cells slots ls g)
theorem g_lshr {t : Nat} {x : Int64} {y : Int32} (d : decode F.2.1 pc = .ok (.lshr, 1)) (e : pc + 1 = t) (k : Wp E F nE t L (.long (x >>> (y.toInt64 &&& 63)) :: st) σ K) : Wp E F nE pc L (.int y :: .long x :: st) σ K := by
  subst e
  intro p l e R s m args below meth c Q C n0 r1 r2 kk H locs cells slots ls g
  exact lv_lshr C.1 C.2.1 d rfl (k p l e R s m args below meth c Q C n0 r1 r2 kk H locs cells slots ls g)
theorem g_i2l {t : Nat} {x : Int32} (d : decode F.2.1 pc = .ok (.i2l, 1)) (e : pc + 1 = t) (k : Wp E F nE t L (.long x.toInt64 :: st) σ K) : Wp E F nE pc L (.int x :: st) σ K := by
  subst e
  intro p l e R s m args below meth c Q C n0 r1 r2 kk H locs cells slots ls g
  exact lv_i2l C.1 C.2.1 d rfl (k p l e R s m args below meth c Q C n0 r1 r2 kk H locs cells slots ls g)
theorem g_l2i {t : Nat} {x : Int64} (d : decode F.2.1 pc = .ok (.l2i, 1)) (e : pc + 1 = t) (k : Wp E F nE t L (.int x.toInt32 :: st) σ K) : Wp E F nE pc L (.long x :: st) σ K := by
  subst e
  intro p l e R s m args below meth c Q C n0 r1 r2 kk H locs cells slots ls g
  exact lv_l2i C.1 C.2.1 d rfl (k p l e R s m args below meth c Q C n0 r1 r2 kk H locs cells slots ls g)
theorem g_i2b {t : Nat} {x : Int32} (d : decode F.2.1 pc = .ok (.i2b, 1)) (e : pc + 1 = t) (k : Wp E F nE t L (.int x.toInt8.toInt32 :: st) σ K) : Wp E F nE pc L (.int x :: st) σ K := by
  subst e
  intro p l e R s m args below meth c Q C n0 r1 r2 kk H locs cells slots ls g
  exact lv_i2b C.1 C.2.1 d rfl (k p l e R s m args below meth c Q C n0 r1 r2 kk H locs cells slots ls g)
theorem g_i2c {t : Nat} {x : Int32} (d : decode F.2.1 pc = .ok (.i2c, 1)) (e : pc + 1 = t) (k : Wp E F nE t L (.int (x.toUInt32 % 65536).toInt32 :: st) σ K) : Wp E F nE pc L (.int x :: st) σ K := by
  subst e
  intro p l e R s m args below meth c Q C n0 r1 r2 kk H locs cells slots ls g
  exact lv_i2c C.1 C.2.1 d rfl (k p l e R s m args below meth c Q C n0 r1 r2 kk H locs cells slots ls g)
theorem g_iconst {t : Nat} {n : Int} {v : Int32} (d : decode F.2.1 pc = .ok (.iconst n, 1)) (hv : Int32.ofInt n = v) (e : pc + 1 = t) (k : Wp E F nE t L (.int v :: st) σ K) : Wp E F nE pc L (st) σ K := by
  subst e
  intro p l e R s m args below meth c Q C n0 r1 r2 kk H locs cells slots ls g
  exact lv_iconst C.1 C.2.1 d hv (k p l e R s m args below meth c Q C n0 r1 r2 kk H locs cells slots ls g)
theorem g_bipush {t : Nat} {n : Int} {v : Int32} (d : decode F.2.1 pc = .ok (.bipush n, 2)) (hv : (Int8.ofInt n).toInt32 = v) (e : pc + 2 = t) (k : Wp E F nE t L (.int v :: st) σ K) : Wp E F nE pc L (st) σ K := by
  subst e
  intro p l e R s m args below meth c Q C n0 r1 r2 kk H locs cells slots ls g
  exact lv_bipush C.1 C.2.1 d hv (k p l e R s m args below meth c Q C n0 r1 r2 kk H locs cells slots ls g)
theorem g_sipush {t : Nat} {n : Int} {v : Int32} (d : decode F.2.1 pc = .ok (.sipush n, 3)) (hv : (Int16.ofInt n).toInt32 = v) (e : pc + 3 = t) (k : Wp E F nE t L (.int v :: st) σ K) : Wp E F nE pc L (st) σ K := by
  subst e
  intro p l e R s m args below meth c Q C n0 r1 r2 kk H locs cells slots ls g
  exact lv_sipush C.1 C.2.1 d hv (k p l e R s m args below meth c Q C n0 r1 r2 kk H locs cells slots ls g)
theorem g_dup {t : Nat} {va : Value} (d : decode F.2.1 pc = .ok (.dup, 1)) (hva : va.category = 1) (e : pc + 1 = t) (k : Wp E F nE t L (va :: va :: st) σ K) : Wp E F nE pc L (va :: st) σ K := by
  subst e
  intro p l e R s m args below meth c Q C n0 r1 r2 kk H locs cells slots ls g
  exact lv_dup C.1 C.2.1 d (by rw [gcv_cat]; exact hva) (k p l e R s m args below meth c Q C n0 r1 r2 kk H locs cells slots ls g)
theorem g_pop {t : Nat} {va : Value} (d : decode F.2.1 pc = .ok (.pop, 1)) (hva : va.category = 1) (e : pc + 1 = t) (k : Wp E F nE t L (st) σ K) : Wp E F nE pc L (va :: st) σ K := by
  subst e
  intro p l e R s m args below meth c Q C n0 r1 r2 kk H locs cells slots ls g
  exact lv_pop C.1 C.2.1 d (by rw [gcv_cat]; exact hva) (k p l e R s m args below meth c Q C n0 r1 r2 kk H locs cells slots ls g)
theorem g_dup2 {t : Nat} {va vb : Value} (d : decode F.2.1 pc = .ok (.dup2, 1)) (hva : va.category = 1) (hvb : vb.category = 1) (e : pc + 1 = t) (k : Wp E F nE t L (va :: vb :: va :: vb :: st) σ K) : Wp E F nE pc L (va :: vb :: st) σ K := by
  subst e
  intro p l e R s m args below meth c Q C n0 r1 r2 kk H locs cells slots ls g
  exact lv_dup2_11 C.1 C.2.1 d (by rw [gcv_cat]; exact hva) (by rw [gcv_cat]; exact hvb) (k p l e R s m args below meth c Q C n0 r1 r2 kk H locs cells slots ls g)
theorem g_if_eq {t1 t2 : Nat} {off : Int} {x : Int32} (d : decode F.2.1 pc = .ok (.ifCond .eq off, 3)) (ht : (pc : Int) + off = (t1 : Int)) (e : pc + 3 = t2) (kt : x = 0 → Wp E F nE t1 L st σ K) (kf : ¬ x = 0 → Wp E F nE t2 L st σ K) : Wp E F nE pc L (.int x :: st) σ K := by
  subst e
  intro p l e R s m args below meth c Q C n0 r1 r2 kk H locs cells slots ls g
  exact lv_if_eq C.1 C.2.1 d ht (fun h => kt h p l e R s m args below meth c Q C n0 r1 r2 kk H locs cells slots ls g) (fun h => kf h p l e R s m args below meth c Q C n0 r1 r2 kk H locs cells slots ls g)
theorem g_icmp_eq {t1 t2 : Nat} {off : Int} {x y : Int32} (d : decode F.2.1 pc = .ok (.if_icmp .eq off, 3)) (ht : (pc : Int) + off = (t1 : Int)) (e : pc + 3 = t2) (kt : x = y → Wp E F nE t1 L st σ K) (kf : ¬ x = y → Wp E F nE t2 L st σ K) : Wp E F nE pc L (.int y :: .int x :: st) σ K := by
  subst e
  intro p l e R s m args below meth c Q C n0 r1 r2 kk H locs cells slots ls g
  exact lv_icmp_eq C.1 C.2.1 d ht (fun h => kt h p l e R s m args below meth c Q C n0 r1 r2 kk H locs cells slots ls g) (fun h => kf h p l e R s m args below meth c Q C n0 r1 r2 kk H locs cells slots ls g)
theorem g_if_ne {t1 t2 : Nat} {off : Int} {x : Int32} (d : decode F.2.1 pc = .ok (.ifCond .ne off, 3)) (ht : (pc : Int) + off = (t1 : Int)) (e : pc + 3 = t2) (kt : ¬ x = 0 → Wp E F nE t1 L st σ K) (kf : x = 0 → Wp E F nE t2 L st σ K) : Wp E F nE pc L (.int x :: st) σ K := by
  subst e
  intro p l e R s m args below meth c Q C n0 r1 r2 kk H locs cells slots ls g
  exact lv_if_ne C.1 C.2.1 d ht (fun h => kt h p l e R s m args below meth c Q C n0 r1 r2 kk H locs cells slots ls g) (fun h => kf h p l e R s m args below meth c Q C n0 r1 r2 kk H locs cells slots ls g)
theorem g_icmp_ne {t1 t2 : Nat} {off : Int} {x y : Int32} (d : decode F.2.1 pc = .ok (.if_icmp .ne off, 3)) (ht : (pc : Int) + off = (t1 : Int)) (e : pc + 3 = t2) (kt : ¬ x = y → Wp E F nE t1 L st σ K) (kf : x = y → Wp E F nE t2 L st σ K) : Wp E F nE pc L (.int y :: .int x :: st) σ K := by
  subst e
  intro p l e R s m args below meth c Q C n0 r1 r2 kk H locs cells slots ls g
  exact lv_icmp_ne C.1 C.2.1 d ht (fun h => kt h p l e R s m args below meth c Q C n0 r1 r2 kk H locs cells slots ls g) (fun h => kf h p l e R s m args below meth c Q C n0 r1 r2 kk H locs cells slots ls g)
theorem g_if_lt {t1 t2 : Nat} {off : Int} {x : Int32} (d : decode F.2.1 pc = .ok (.ifCond .lt off, 3)) (ht : (pc : Int) + off = (t1 : Int)) (e : pc + 3 = t2) (kt : x < 0 → Wp E F nE t1 L st σ K) (kf : ¬ x < 0 → Wp E F nE t2 L st σ K) : Wp E F nE pc L (.int x :: st) σ K := by
  subst e
  intro p l e R s m args below meth c Q C n0 r1 r2 kk H locs cells slots ls g
  exact lv_if_lt C.1 C.2.1 d ht (fun h => kt h p l e R s m args below meth c Q C n0 r1 r2 kk H locs cells slots ls g) (fun h => kf h p l e R s m args below meth c Q C n0 r1 r2 kk H locs cells slots ls g)
theorem g_icmp_lt {t1 t2 : Nat} {off : Int} {x y : Int32} (d : decode F.2.1 pc = .ok (.if_icmp .lt off, 3)) (ht : (pc : Int) + off = (t1 : Int)) (e : pc + 3 = t2) (kt : x < y → Wp E F nE t1 L st σ K) (kf : ¬ x < y → Wp E F nE t2 L st σ K) : Wp E F nE pc L (.int y :: .int x :: st) σ K := by
  subst e
  intro p l e R s m args below meth c Q C n0 r1 r2 kk H locs cells slots ls g
  exact lv_icmp_lt C.1 C.2.1 d ht (fun h => kt h p l e R s m args below meth c Q C n0 r1 r2 kk H locs cells slots ls g) (fun h => kf h p l e R s m args below meth c Q C n0 r1 r2 kk H locs cells slots ls g)
theorem g_if_ge {t1 t2 : Nat} {off : Int} {x : Int32} (d : decode F.2.1 pc = .ok (.ifCond .ge off, 3)) (ht : (pc : Int) + off = (t1 : Int)) (e : pc + 3 = t2) (kt : 0 ≤ x → Wp E F nE t1 L st σ K) (kf : ¬ 0 ≤ x → Wp E F nE t2 L st σ K) : Wp E F nE pc L (.int x :: st) σ K := by
  subst e
  intro p l e R s m args below meth c Q C n0 r1 r2 kk H locs cells slots ls g
  exact lv_if_ge C.1 C.2.1 d ht (fun h => kt h p l e R s m args below meth c Q C n0 r1 r2 kk H locs cells slots ls g) (fun h => kf h p l e R s m args below meth c Q C n0 r1 r2 kk H locs cells slots ls g)
theorem g_icmp_ge {t1 t2 : Nat} {off : Int} {x y : Int32} (d : decode F.2.1 pc = .ok (.if_icmp .ge off, 3)) (ht : (pc : Int) + off = (t1 : Int)) (e : pc + 3 = t2) (kt : y ≤ x → Wp E F nE t1 L st σ K) (kf : ¬ y ≤ x → Wp E F nE t2 L st σ K) : Wp E F nE pc L (.int y :: .int x :: st) σ K := by
  subst e
  intro p l e R s m args below meth c Q C n0 r1 r2 kk H locs cells slots ls g
  exact lv_icmp_ge C.1 C.2.1 d ht (fun h => kt h p l e R s m args below meth c Q C n0 r1 r2 kk H locs cells slots ls g) (fun h => kf h p l e R s m args below meth c Q C n0 r1 r2 kk H locs cells slots ls g)
theorem g_if_gt {t1 t2 : Nat} {off : Int} {x : Int32} (d : decode F.2.1 pc = .ok (.ifCond .gt off, 3)) (ht : (pc : Int) + off = (t1 : Int)) (e : pc + 3 = t2) (kt : 0 < x → Wp E F nE t1 L st σ K) (kf : ¬ 0 < x → Wp E F nE t2 L st σ K) : Wp E F nE pc L (.int x :: st) σ K := by
  subst e
  intro p l e R s m args below meth c Q C n0 r1 r2 kk H locs cells slots ls g
  exact lv_if_gt C.1 C.2.1 d ht (fun h => kt h p l e R s m args below meth c Q C n0 r1 r2 kk H locs cells slots ls g) (fun h => kf h p l e R s m args below meth c Q C n0 r1 r2 kk H locs cells slots ls g)
theorem g_icmp_gt {t1 t2 : Nat} {off : Int} {x y : Int32} (d : decode F.2.1 pc = .ok (.if_icmp .gt off, 3)) (ht : (pc : Int) + off = (t1 : Int)) (e : pc + 3 = t2) (kt : y < x → Wp E F nE t1 L st σ K) (kf : ¬ y < x → Wp E F nE t2 L st σ K) : Wp E F nE pc L (.int y :: .int x :: st) σ K := by
  subst e
  intro p l e R s m args below meth c Q C n0 r1 r2 kk H locs cells slots ls g
  exact lv_icmp_gt C.1 C.2.1 d ht (fun h => kt h p l e R s m args below meth c Q C n0 r1 r2 kk H locs cells slots ls g) (fun h => kf h p l e R s m args below meth c Q C n0 r1 r2 kk H locs cells slots ls g)
theorem g_if_le {t1 t2 : Nat} {off : Int} {x : Int32} (d : decode F.2.1 pc = .ok (.ifCond .le off, 3)) (ht : (pc : Int) + off = (t1 : Int)) (e : pc + 3 = t2) (kt : x ≤ 0 → Wp E F nE t1 L st σ K) (kf : ¬ x ≤ 0 → Wp E F nE t2 L st σ K) : Wp E F nE pc L (.int x :: st) σ K := by
  subst e
  intro p l e R s m args below meth c Q C n0 r1 r2 kk H locs cells slots ls g
  exact lv_if_le C.1 C.2.1 d ht (fun h => kt h p l e R s m args below meth c Q C n0 r1 r2 kk H locs cells slots ls g) (fun h => kf h p l e R s m args below meth c Q C n0 r1 r2 kk H locs cells slots ls g)
theorem g_icmp_le {t1 t2 : Nat} {off : Int} {x y : Int32} (d : decode F.2.1 pc = .ok (.if_icmp .le off, 3)) (ht : (pc : Int) + off = (t1 : Int)) (e : pc + 3 = t2) (kt : x ≤ y → Wp E F nE t1 L st σ K) (kf : ¬ x ≤ y → Wp E F nE t2 L st σ K) : Wp E F nE pc L (.int y :: .int x :: st) σ K := by
  subst e
  intro p l e R s m args below meth c Q C n0 r1 r2 kk H locs cells slots ls g
  exact lv_icmp_le C.1 C.2.1 d ht (fun h => kt h p l e R s m args below meth c Q C n0 r1 r2 kk H locs cells slots ls g) (fun h => kf h p l e R s m args below meth c Q C n0 r1 r2 kk H locs cells slots ls g)
theorem g_goto {t : Nat} {off : Int} (d : decode F.2.1 pc = .ok (.goto off, 3)) (ht : (pc : Int) + off = (t : Int)) (k : Wp E F nE t L st σ K) : Wp E F nE pc L st σ K := by
  intro p l e R s m args below meth c Q C n0 r1 r2 kk H locs cells slots ls g
  exact lv_goto C.1 C.2.1 d ht (k p l e R s m args below meth c Q C n0 r1 r2 kk H locs cells slots ls g)
theorem g_switchOut {dflt lo hi : Int} {offs : Array Int} {len : Nat} {x : Int32} {t : Nat} (d : decode F.2.1 pc = .ok (.tableswitch dflt lo hi offs, len)) (h : x.toInt < lo ∨ hi < x.toInt) (ht : (pc : Int) + dflt = (t : Int)) (k : Wp E F nE t L st σ K) : Wp E F nE pc L (.int x :: st) σ K := by
  intro p l e R s m args below meth c Q C n0 r1 r2 kk H locs cells slots ls g
  exact lv_tableOut C.1 C.2.1 d h ht (k p l e R s m args below meth c Q C n0 r1 r2 kk H locs cells slots ls g)
theorem g_switchIn {dflt lo hi : Int} {offs : Array Int} {len : Nat} {x : Int32} {off : Int} {t : Nat} (d : decode F.2.1 pc = .ok (.tableswitch dflt lo hi offs, len)) (h1 : ¬ x.toInt < lo) (h2 : ¬ hi < x.toInt) (ho : offs[(x.toInt - lo).toNat]? = some off) (ht : (pc : Int) + off = (t : Int)) (k : Wp E F nE t L st σ K) : Wp E F nE pc L (.int x :: st) σ K := by
  intro p l e R s m args below meth c Q C n0 r1 r2 kk H locs cells slots ls g
  exact lv_tableIn C.1 C.2.1 d h1 h2 ho ht (k p l e R s m args below meth c Q C n0 r1 r2 kk H locs cells slots ls g)
theorem g_ldc2 {index : Nat} {v : Int64} {t : Nat} (hw : Cond.constantLong F.1.cls index v ∈ gB) (d : decode F.2.1 pc = .ok (.ldc2_w index, 3)) (e : pc + 3 = t) (k : Wp E F nE t L (.long v :: st) σ K) : Wp E F nE pc L st σ K := by
  subst e
  intro p l e R s m args below meth c Q C n0 r1 r2 kk H locs cells slots ls g
  exact lv_ldc2 C.1 C.2.1 C.2.2.2.1 (C.2.2.2.2.1 _ hw) d (k p l e R s m args below meth c Q C n0 r1 r2 kk H locs cells slots ls g)
theorem g_lcmp {x y : Int64} {t : Nat} {v : Int32} (d : decode F.2.1 pc = .ok (.lcmp, 1)) (hv : lg_cmp x y = v) (e : pc + 1 = t) (k : Wp E F nE t L (.int v :: st) σ K) : Wp E F nE pc L (.long y :: .long x :: st) σ K := by
  subst e
  subst hv
  intro p l e R s m args below meth c Q C n0 r1 r2 kk H locs cells slots ls g
  exact W.lcmp C.1 C.2.1 d (k p l e R s m args below meth c Q C n0 r1 r2 kk H locs cells slots ls g)

theorem gLs.get {ls : Array Slot} {nL i : Nat} {v : Value} (h : gLs E ls nL L) (hi : L[i]? = some v) (hv : v ≠ .null) : ls[i]? = some (.val (gcv E v)) := h.2.2 i v hi hv
theorem g_iload_n {k0 : Fin 4} {i t : Nat} {x : Int32} (d : decode F.2.1 pc = .ok (.iload_n k0, 1)) (hi : (k0 : Nat) = i) (h : L[i]? = some (.int x)) (e : pc + 1 = t) (k : Wp E F nE t L (.int x :: st) σ K) : Wp E F nE pc L st σ K := by
  subst e
  intro p l e R s m args below meth c Q C n0 r1 r2 kk H locs cells slots ls g
  exact lv_iload_n C.1 C.2.1 d hi (g.2.2.1.get h (by intro q; cases q)) (k p l e R s m args below meth c Q C n0 r1 r2 kk H locs cells slots ls g)
theorem g_iload {i t : Nat} {x : Int32} (d : decode F.2.1 pc = .ok (.iload i, 2)) (h : L[i]? = some (.int x)) (e : pc + 2 = t) (k : Wp E F nE t L (.int x :: st) σ K) : Wp E F nE pc L st σ K := by
  subst e
  intro p l e R s m args below meth c Q C n0 r1 r2 kk H locs cells slots ls g
  exact lv_iload C.1 C.2.1 d (g.2.2.1.get h (by intro q; cases q)) (k p l e R s m args below meth c Q C n0 r1 r2 kk H locs cells slots ls g)
theorem g_lload_n {k0 : Fin 4} {i t : Nat} {x : Int64} (d : decode F.2.1 pc = .ok (.lload_n k0, 1)) (hi : (k0 : Nat) = i) (h : L[i]? = some (.long x)) (e : pc + 1 = t) (k : Wp E F nE t L (.long x :: st) σ K) : Wp E F nE pc L st σ K := by
  subst e
  intro p l e R s m args below meth c Q C n0 r1 r2 kk H locs cells slots ls g
  exact lv_lload_n C.1 C.2.1 d hi (g.2.2.1.get h (by intro q; cases q)) (k p l e R s m args below meth c Q C n0 r1 r2 kk H locs cells slots ls g)
theorem g_lload {i t : Nat} {x : Int64} (d : decode F.2.1 pc = .ok (.lload i, 2)) (h : L[i]? = some (.long x)) (e : pc + 2 = t) (k : Wp E F nE t L (.long x :: st) σ K) : Wp E F nE pc L st σ K := by
  subst e
  intro p l e R s m args below meth c Q C n0 r1 r2 kk H locs cells slots ls g
  exact lv_lload C.1 C.2.1 d (g.2.2.1.get h (by intro q; cases q)) (k p l e R s m args below meth c Q C n0 r1 r2 kk H locs cells slots ls g)
theorem g_aload_n {k0 : Fin 4} {i t r : Nat} (d : decode F.2.1 pc = .ok (.aload_n k0, 1)) (hi : (k0 : Nat) = i) (h : L[i]? = some (.ref r)) (hr : r < 1000 ∨ gRoOk r = true) (e : pc + 1 = t) (k : Wp E F nE t L (.ref r :: st) σ K) : Wp E F nE pc L st σ K := by
  subst e
  intro p l e R s m args below meth c Q C n0 r1 r2 kk H locs cells slots ls g
  have h1 := g.2.2.1.get h (by intro q; cases q)
  have h2 := k p l e R s m args below meth c Q C n0 r1 r2 kk H locs cells slots ls g
  have h3 : ∃ b, gcv E (.ref r) = .ref b := by
    by_cases q : r < 1000
    · exact ⟨_, gcv_ref q⟩
    · obtain ⟨b, hb⟩ := gRO.ok C.2.2.2.2.2.2.1 (hr.resolve_left q)
      exact ⟨_, gcv_ro q hb⟩
  obtain ⟨b, hb⟩ := h3
  rw [show gcs E (.ref r :: st) = gcv E (.ref r) :: gcs E st from rfl, hb] at h2
  rw [hb] at h1
  exact lv_aload_n C.1 C.2.1 d hi h1 h2
theorem g_aload {i t r : Nat} (d : decode F.2.1 pc = .ok (.aload i, 2)) (h : L[i]? = some (.ref r)) (hr : r < 1000 ∨ gRoOk r = true) (e : pc + 2 = t) (k : Wp E F nE t L (.ref r :: st) σ K) : Wp E F nE pc L st σ K := by
  subst e
  intro p l e R s m args below meth c Q C n0 r1 r2 kk H locs cells slots ls g
  have h1 := g.2.2.1.get h (by intro q; cases q)
  have h2 := k p l e R s m args below meth c Q C n0 r1 r2 kk H locs cells slots ls g
  have h3 : ∃ b, gcv E (.ref r) = .ref b := by
    by_cases q : r < 1000
    · exact ⟨_, gcv_ref q⟩
    · obtain ⟨b, hb⟩ := gRO.ok C.2.2.2.2.2.2.1 (hr.resolve_left q)
      exact ⟨_, gcv_ro q hb⟩
  obtain ⟨b, hb⟩ := h3
  rw [show gcs E (.ref r :: st) = gcv E (.ref r) :: gcs E st from rfl, hb] at h2
  rw [hb] at h1
  exact lv_aload C.1 C.2.1 d h1 h2
/-- the locals as the kit has them -/
def gprs (E : gE) (L : List Value) : List (Nat × Value) := (List.range L.length).filterMap (fun i => match L[i]? with
  | some v => if v = .null then none else some (i, gcv E v)
  | none => none)
theorem gLs.prs {ls : Array Slot} {nL : Nat} (h : gLs E ls nL L) : lv_has ls nL (gprs E L) := by
  refine ⟨h.1, h.2.1, fun q hq => ?_⟩
  obtain ⟨i, -, hi⟩ := List.mem_filterMap.mp hq
  cases hL : L[i]? with
  | none => simp [hL] at hi
  | some v =>
    simp only [hL] at hi
    split at hi
    · cases hi
    · rename_i hv
      cases hi
      exact h.2.2 i v hL hv
theorem gprs_mem {i : Nat} {v : Value} (h : L[i]? = some v) (hv : v ≠ .null) : (i, gcv E v) ∈ gprs E L := by
  refine List.mem_filterMap.mpr ⟨i, List.mem_range.mpr (List.getElem?_eq_some_iff.mp h).1, ?_⟩
  simp [h, hv]
/-- no long ends at i - 1 -/
def gok (L : List Value) (i : Nat) : Bool := match i with
  | 0 => true
  | k + 1 => match L[k]? with
    | some v => decide (v.category = 1)
    | none => true
theorem gok_spec {i j : Nat} {v : Value} (h : gok L i = true) (hj : L[j]? = some v) (he : j + 1 = i) : v.category = 1 := by
  subst he
  simpa [gok, hj] using h
theorem gLs.put1 {ls ls' : Array Slot} {nL i : Nat} {v : Value} (hv : v.category = 1) (hok : gok L i = true) (h : lv_has ls' nL ((i, gcv E v) :: (gprs E L).filter (fun q => !(q.1 == i) && !(q.1 + 1 == i && q.2.category == 2)))) : gLs E ls' nL (L.set i v) := by
  refine ⟨h.1, h.2.1, fun j w hj hw => ?_⟩
  by_cases hji : j = i
  · subst hji
    rw [List.getElem?_set_self (by
      rcases Nat.lt_or_ge j L.length with q | q
      · exact q
      · rw [List.set_eq_of_length_le q, List.getElem?_eq_none q] at hj; cases hj)] at hj
    cases hj
    exact h.2.2 (j, gcv E v) List.mem_cons_self
  · rw [List.getElem?_set_ne (Ne.symm hji)] at hj
    refine h.2.2 (j, gcv E w) (List.mem_cons_of_mem _ (List.mem_filter.mpr ⟨gprs_mem hj hw, ?_⟩))
    by_cases q : j + 1 = i
    · have hc := gok_spec hok hj q
      simp [hji, gcv_cat, hc]
    · simp [hji, q]
theorem gLs.put2 {ls ls' : Array Slot} {nL i : Nat} {v : Value} (hok : gok L i = true) (h : lv_has ls' nL ((i, gcv E v) :: (gprs E L).filter (fun q => !(q.1 == i) && (!(q.1 == i + 1) && !(q.1 + 1 == i && q.2.category == 2))))) : gLs E ls' nL ((L.set i v).set (i + 1) .null) := by
  refine ⟨h.1, h.2.1, fun j w hj hw => ?_⟩
  by_cases hj1 : j = i + 1
  · subst hj1
    rcases Nat.lt_or_ge (i + 1) (L.set i v).length with q | q
    · rw [List.getElem?_set_self q] at hj
      cases hj
      exact absurd rfl hw
    · rw [List.set_eq_of_length_le q, List.getElem?_eq_none q] at hj; cases hj
  rw [List.getElem?_set_ne (Ne.symm hj1)] at hj
  by_cases hji : j = i
  · subst hji
    rw [List.getElem?_set_self (by
      rcases Nat.lt_or_ge j L.length with q | q
      · exact q
      · rw [List.set_eq_of_length_le q, List.getElem?_eq_none q] at hj; cases hj)] at hj
    cases hj
    exact h.2.2 (j, gcv E v) List.mem_cons_self
  · rw [List.getElem?_set_ne (Ne.symm hji)] at hj
    refine h.2.2 (j, gcv E w) (List.mem_cons_of_mem _ (List.mem_filter.mpr ⟨gprs_mem hj hw, ?_⟩))
    by_cases q : j + 1 = i
    · have hc := gok_spec hok hj q
      simp [hji, gcv_cat, hc, hj1]
    · simp [hji, q, hj1]
theorem gR.put {nE n0 : Nat} {s : State} {H : Heap} {locs : List Loc} {cells slots : Nat} {ls ls' : Array Slot} {L' : List Value} (g : gR E F nE n0 s L σ H locs cells slots ls) (h : gLs E ls' F.2.2.1 L') : gR E F nE n0 s L' σ H locs cells slots ls' := ⟨g.1, g.2.1, h, g.2.2.2⟩

theorem g_istore_n {k0 : Fin 4} {i t : Nat} {x : Int32} {L1 : List Value} (d : decode F.2.1 pc = .ok (.istore_n k0, 1)) (hi : (k0 : Nat) = i) (hn : i < F.2.2.1) (hok : gok L i = true) (hL : L.set i (.int x) = L1) (e : pc + 1 = t) (k : Wp E F nE t L1 st σ K) : Wp E F nE pc L (.int x :: st) σ K := by
  subst e
  subst hL
  intro p l e R s m args below meth c Q C n0 r1 r2 kk H locs cells slots ls g
  exact lv_istore_n C.1 C.2.1 d hi g.2.2.1.prs hn rfl (fun ls' h2 => k p l e R s m args below meth c Q C n0 r1 r2 kk H locs cells slots ls' (g.put (gLs.put1 (ls := ls) (v := .int x) rfl hok h2)))
theorem g_istore {i t : Nat} {x : Int32} {L1 : List Value} (d : decode F.2.1 pc = .ok (.istore i, 2)) (hn : i < F.2.2.1) (hok : gok L i = true) (hL : L.set i (.int x) = L1) (e : pc + 2 = t) (k : Wp E F nE t L1 st σ K) : Wp E F nE pc L (.int x :: st) σ K := by
  subst e
  subst hL
  intro p l e R s m args below meth c Q C n0 r1 r2 kk H locs cells slots ls g
  exact lv_istore C.1 C.2.1 d g.2.2.1.prs hn rfl (fun ls' h2 => k p l e R s m args below meth c Q C n0 r1 r2 kk H locs cells slots ls' (g.put (gLs.put1 (ls := ls) (v := .int x) rfl hok h2)))
theorem g_lstore_n {k0 : Fin 4} {i t : Nat} {x : Int64} {L1 : List Value} (d : decode F.2.1 pc = .ok (.lstore_n k0, 1)) (hi : (k0 : Nat) = i) (hn : i + 1 < F.2.2.1) (hok : gok L i = true) (hL : (L.set i (.long x)).set (i + 1) .null = L1) (e : pc + 1 = t) (k : Wp E F nE t L1 st σ K) : Wp E F nE pc L (.long x :: st) σ K := by
  subst e
  subst hL
  intro p l e R s m args below meth c Q C n0 r1 r2 kk H locs cells slots ls g
  exact lv_lstore_n C.1 C.2.1 d hi g.2.2.1.prs hn rfl (fun ls' h2 => k p l e R s m args below meth c Q C n0 r1 r2 kk H locs cells slots ls' (g.put (gLs.put2 (ls := ls) (v := .long x) hok h2)))
theorem g_lstore {i t : Nat} {x : Int64} {L1 : List Value} (d : decode F.2.1 pc = .ok (.lstore i, 2)) (hn : i + 1 < F.2.2.1) (hok : gok L i = true) (hL : (L.set i (.long x)).set (i + 1) .null = L1) (e : pc + 2 = t) (k : Wp E F nE t L1 st σ K) : Wp E F nE pc L (.long x :: st) σ K := by
  subst e
  subst hL
  intro p l e R s m args below meth c Q C n0 r1 r2 kk H locs cells slots ls g
  exact lv_lstore C.1 C.2.1 d g.2.2.1.prs hn rfl (fun ls' h2 => k p l e R s m args below meth c Q C n0 r1 r2 kk H locs cells slots ls' (g.put (gLs.put2 (ls := ls) (v := .long x) hok h2)))
theorem g_iinc {i t : Nat} {n : Int} {x v : Int32} {L1 : List Value} (d : decode F.2.1 pc = .ok (.iinc i n, 3)) (h : L[i]? = some (.int x)) (hv : x + Int32.ofInt n = v) (hn : i < F.2.2.1) (hok : gok L i = true) (hL : L.set i (.int v) = L1) (e : pc + 3 = t) (k : Wp E F nE t L1 st σ K) : Wp E F nE pc L st σ K := by
  subst e
  subst hL
  intro p l e R s m args below meth c Q C n0 r1 r2 kk H locs cells slots ls g
  obtain ⟨z, hz⟩ := List.getElem?_of_mem (gprs_mem (E := E) h (by intro q; cases q))
  exact lv_iinc C.1 C.2.1 d g.2.2.1.prs hz hv hn rfl (fun ls' h2 => k p l e R s m args below meth c Q C n0 r1 r2 kk H locs cells slots ls' (g.put (gLs.put1 (ls := ls) (v := .int v) rfl hok h2)))
theorem g_astore_n {k0 : Fin 4} {i t r : Nat} {L1 : List Value} (d : decode F.2.1 pc = .ok (.astore_n k0, 1)) (hi : (k0 : Nat) = i) (hr : r < 1000) (hn : i < F.2.2.1) (hok : gok L i = true) (hL : L.set i (.ref r) = L1) (e : pc + 1 = t) (k : Wp E F nE t L1 st σ K) : Wp E F nE pc L (.ref r :: st) σ K := by
  subst e
  subst hL
  intro p l e R s m args below meth c Q C n0 r1 r2 kk H locs cells slots ls g
  rw [show gcs E (.ref r :: st) = gcv E (.ref r) :: gcs E st from rfl, gcv_ref hr]
  exact lv_astore_n C.1 C.2.1 d hi g.2.2.1.prs hn rfl (fun ls' h2 => k p l e R s m args below meth c Q C n0 r1 r2 kk H locs cells slots ls' (g.put (gLs.put1 (ls := ls) (v := .ref r) rfl hok (by rw [gcv_ref hr]; exact h2))))
end GO
end
section
/-! the heap's rows -/
def gup (I : Nat → Nat → Int32) (o k : Nat) (v : Int32) : Nat → Nat → Int32 := fun o' k' => if o' = o ∧ k' = k then v else I o' k'
def gupR (I : Nat → Nat → Option Nat) (o k : Nat) (v : Nat) : Nat → Nat → Option Nat := fun o' k' => if o' = o ∧ k' = k then some v else I o' k'
abbrev gset (σ : gS) (o k : Nat) (v : Int32) : gS := (σ.1, gup σ.2.1 o k v, σ.2.2.1, σ.2.2.2)
theorem gup_self (I : Nat → Nat → Int32) (o k : Nat) (v : Int32) : gup I o k v o k = v := by simp [gup]
theorem gup_o (I : Nat → Nat → Int32) {o o' : Nat} (k k' : Nat) (v : Int32) (h : o' ≠ o) : gup I o k v o' k' = I o' k' := by simp [gup, h]
theorem gup_k (I : Nat → Nat → Int32) (o : Nat) {k k' : Nat} (v : Int32) (h : k' ≠ k) : gup I o k v o k' = I o k' := by simp [gup, h]
theorem gup_row (I : Nat → Nat → Int32) (o k : Nat) (v : Int32) : gup I o k v o = upd (I o) k v := by
  funext j
  by_cases h : j = k
  · subst h; simp [gup, upd]
  · simp [gup, upd, h]
theorem gup_rowo (I : Nat → Nat → Int32) {o o' : Nat} (k : Nat) (v : Int32) (h : o' ≠ o) : gup I o k v o' = I o' := by
  funext j
  simp [gup, h]
def gCl (ci : Nat) (C : String) (T : u_T) (N : Nat) : Prop := vwCl[ci]? = some (C, T, N) ∧ (∀ w ∈ u_ws C T N, w ∈ gB) ∧ N = gN ci ∧ (∀ a, a < N → ∀ b, b < N → a ≠ b → (T a).2.1 ≠ (T b).2.1) ∧ ∃ ty : Nat → FieldType, ∀ k, k < N → parseFieldDescriptor (T k).2.2.1 = some (ty k) ∧ defaultValue (ty k) = (match gfk ci k with
  | 0 => .int 0
  | 1 => .null
  | _ => .long 0)
def gFL (own : String) (index ci k : Nat) : Prop := ∃ (C : String) (T : u_T) (N : Nat), gCl ci C T N ∧ k < N ∧ Cond.fieldLink own index (T k).1 (T k).2.1 (T k).2.2.1 ∈ gB
/-- a field that may be written, its type; fin: a final one, by its class's own constructor -/
def gFP (own : String) (index ci k : Nat) (ty : FieldType) (fin : Bool) : Prop := ∃ (C : String) (T : u_T) (N : Nat), gCl ci C T N ∧ k < N ∧ Cond.fieldLink own index (T k).1 (T k).2.1 (T k).2.2.1 ∈ gB ∧ (T k).2.2.2 = fin ∧ parseFieldDescriptor (T k).2.2.1 = some ty ∧ (fin = true → (T k).1 = own)
theorem gfs_get {E : gE} {σ : gS} {i ci k : Nat} (hk : k < gN ci) : ((List.range (gN ci)).map (fun k => gfv E σ i ci k))[k]? = some (gfv E σ i ci k) := by
  rw [List.getElem?_map, List.getElem?_range hk]
  rfl
theorem gfs_V {E : gE} {σ : gS} {i ci k : Nat} (hk : k < gN ci) : vp_V ((List.range (gN ci)).map (fun k => gfv E σ i ci k)) k = gfv E σ i ci k := by
  show List.getD _ _ _ = _
  rw [List.getD_eq_getElem?_getD, gfs_get hk]
  rfl
theorem gInv.obj {E : gE} {σ : gS} {H : Heap} {o ci : Nat} (h : gInv E σ H) (ho : o < σ.1) (hsh : gsh o = .inl ci) : va_P E.2.1 vwCl [(E.1 + o, .inr (ci, (List.range (gN ci)).map (fun k => gfv E σ o ci k)))] H := by
  intro k q hk
  have h1 := h.2 o ho
  have hz : k < 1 := (List.getElem?_eq_some_iff.mp hk).1
  rw [show k = 0 by omega] at hk
  cases hk
  rw [show gct E σ o = .inr (ci, (List.range (gN ci)).map (fun k => gfv E σ o ci k)) by simp [gct, hsh]] at h1
  exact h1
theorem gInv.arr {E : gE} {σ : gS} {H : Heap} {o : Nat} {q : Nat × Nat} (h : gInv E σ H) (ho : o < σ.1) (hsh : gsh o = .inr q) : va_P E.2.1 vwCl [(E.1 + o, .inl (E.2.2.1 q.1, q.2, .inl (σ.2.1 o)))] H := by
  intro k p hk
  have h1 := h.2 o ho
  have hz : k < 1 := (List.getElem?_eq_some_iff.mp hk).1
  rw [show k = 0 by omega] at hk
  cases hk
  rw [show gct E σ o = .inl (E.2.2.1 q.1, q.2, .inl (σ.2.1 o)) by simp [gct, hsh]] at h1
  exact h1
theorem gct_same {E : gE} {σ σ' : gS} {i : Nat} (h1 : σ'.2.1 i = σ.2.1 i) (h2 : σ'.2.2.1 i = σ.2.2.1 i) (h3 : σ'.2.2.2 = σ.2.2.2) : gct E σ' i = gct E σ i := by
  unfold gct
  cases gsh i with
  | inl ci =>
    have : (fun k => gfv E σ' i ci k) = (fun k => gfv E σ i ci k) := by
      funext k
      simp only [gfv, h1, h2, h3]
    simp only [this]
  | inr q => simp only [h1]
theorem gS_put {E : gE} {H0 H H1 : Heap} {locs : List Loc} {o k : Nat} (h : va_S (gA E) H0 H locs) (z : H1.size = H.size) (oq : ∀ q : Nat, q ≠ E.1 + o → H1[q]? = H[q]?) : va_S (gA E) H0 H1 (locs ++ [⟨E.1 + o, k⟩]) := h.put z oq (Nat.le_add_right _ _)
/-- a cell is written, the others stay -/
theorem gInv.set {E : gE} {σ σ' : gS} {H H1 : Heap} {o : Nat} (h : gInv E σ H) (hn : σ'.1 = σ.1) (z : H1.size = H.size) (oq : ∀ q : Nat, q ≠ E.1 + o → H1[q]? = H[q]?) (hs : ∀ i, i ≠ o → gct E σ' i = gct E σ i) (ho : va_at E.2.1 vwCl (E.1 + o, gct E σ' o) H1) : gInv E σ' H1 := by
  refine ⟨by rw [z, hn]; exact h.1, fun i hi => ?_⟩
  by_cases hio : i = o
  · subst hio; exact ho
  · rw [hs i hio]
    exact (h.2 i (by omega)).kept (oq _ (by show E.1 + i ≠ E.1 + o; omega))
/-- the one object with a long field -/
def gLong : Nat := 41
theorem g_fk3 (ci k : Nat) : gfk ci k < 3 := by
  have key : ∀ (l : List Nat), (l.all fun x => decide (x < 3)) = true → l.getD k 0 < 3 := by
    intro l hl
    rw [List.getD_eq_getElem?_getD]
    cases h : l[k]? with
    | none => exact Nat.zero_lt_succ _
    | some x => exact of_decide_eq_true (List.all_eq_true.mp hl x (List.mem_of_getElem? h))
  have k2 : ∀ l ∈ gfkL, (l.all fun x => decide (x < 3)) = true := by decide +kernel
  refine key _ ?_
  rw [List.getD_eq_getElem?_getD]
  cases h : gfkL[ci]? with
  | none => rfl
  | some l => exact k2 l (List.mem_of_getElem? h)
section GH
variable {E : gE} {F : gF} {nE pc : Nat} {L st : List Value} {σ : gS} {K : gK}
theorem gget {ci k o index t : Nat} {v : Value} (ho : o < σ.1) (h9 : o < 1000) (hsh : gsh o = .inl ci) (hf : gFL F.1.cls index ci k) (hv : gfv E σ o ci k = gcv E v) (d : decode F.2.1 pc = .ok (.getfield index, 3)) (e : pc + 3 = t) (kk : Wp E F nE t L (v :: st) σ K) : Wp E F nE pc L (.ref o :: st) σ K := by
  subst e
  intro p l e R s m args below meth c Q C n0 r1 r2 k2 H locs cells slots ls g
  obtain ⟨Cn, T, N, ⟨c1, c2, c3, c4, c5⟩, hk, hlk⟩ := hf
  subst c3
  have h2 := kk p l e R s m args below meth c Q C n0 r1 r2 k2 H locs cells slots ls g
  rw [show gcs E (.ref o :: st) = gcv E (.ref o) :: gcs E st from rfl, gcv_ref h9]
  rw [show gcs E (v :: st) = gcv E v :: gcs E st from rfl, ← hv] at h2
  exact va_get (Ts := gB) (ref := (T k).1) C.1 C.2.1 C.2.2.2.2.1 c2 C.2.2.2.1 C.2.2.2.2.2.1 (g.1.obj ho hsh) 0 rfl c1 k hk (C.2.2.2.2.1 _ hlk) (fun x h => h) (gfs_get hk) d h2
/-- a field of ints -/
theorem g_getI {ci k o index t : Nat} (ho : o < σ.1) (h9 : o < 1000) (hsh : gsh o = .inl ci) (hf : gFL F.1.cls index ci k) (h0 : gfk ci k = 0) (d : decode F.2.1 pc = .ok (.getfield index, 3)) (e : pc + 3 = t) (kk : Wp E F nE t L (.int (σ.2.1 o k) :: st) σ K) : Wp E F nE pc L (.ref o :: st) σ K :=
  gget ho h9 hsh hf (by simp only [gfv, h0]; rfl) d e kk
theorem g_getL {ci k o index t : Nat} (ho : o < σ.1) (h9 : o < 1000) (hsh : gsh o = .inl ci) (hf : gFL F.1.cls index ci k) (h0 : gfk ci k = 2) (d : decode F.2.1 pc = .ok (.getfield index, 3)) (e : pc + 3 = t) (kk : Wp E F nE t L (.long σ.2.2.2 :: st) σ K) : Wp E F nE pc L (.ref o :: st) σ K :=
  gget ho h9 hsh hf (by simp only [gfv, h0]; rfl) d e kk
theorem g_getR {ci k o r index t : Nat} (ho : o < σ.1) (h9 : o < 1000) (hsh : gsh o = .inl ci) (hf : gFL F.1.cls index ci k) (h0 : gfk ci k = 1) (hr : σ.2.2.1 o k = some r) (hr9 : r < 1000) (d : decode F.2.1 pc = .ok (.getfield index, 3)) (e : pc + 3 = t) (kk : Wp E F nE t L (.ref r :: st) σ K) : Wp E F nE pc L (.ref o :: st) σ K :=
  gget ho h9 hsh hf (by simp only [gfv, h0, hr]; rw [gcv_ref hr9]; rfl) d e kk
theorem gput {ci k o index t : Nat} {ty : FieldType} {fin : Bool} {v : Value} {σ' : gS} (ho : o < σ.1) (h9 : o < 1000) (hsh : gsh o = .inl ci) (hf : gFP F.1.cls index ci k ty fin) (hi : fin = true → F.1.name = "<init>") (hn : narrow ty (gcv E v) = gcv E v) (hfit : fits ty (gcv E v) = true) (hs1 : σ'.1 = σ.1) (hs : ∀ i, i ≠ o → gct E σ' i = gct E σ i) (hv : gfv E σ' o ci k = gcv E v) (hv2 : ∀ j, j ≠ k → gfv E σ' o ci j = gfv E σ o ci j) (d : decode F.2.1 pc = .ok (.putfield index, 3)) (e : pc + 3 = t) (kk : Wp E F nE t L st σ' K) : Wp E F nE pc L (v :: .ref o :: st) σ K := by
  subst e
  intro p l e R s m args below meth c Q C n0 r1 r2 k2 H locs cells slots ls g
  obtain ⟨Cn, T, N, ⟨c1, c2, c3, c4, ty0, c5⟩, hk, hlk, hfin, hd, hown⟩ := hf
  subst c3
  rw [show gcs E (v :: .ref o :: st) = gcv E v :: gcv E (.ref o) :: gcs E st from rfl, gcv_ref h9]
  have hts := C.2.2.2.2.1
  have hap := va_apart (own := F.1.cls) hts c2 ty0 (fun k hk => (c5 k hk).1) c4 C.2.2.2.2.2.1 c1
  obtain ⟨r, h1, cell, q1, q2, q3, q4⟩ := g.1.obj ho hsh 0 _ rfl
  have hr : r = (Cn, T, gN ci) := Option.some.inj (h1.symm.trans c1)
  subst hr
  obtain ⟨hS, hfc, kC, hkC, hkind⟩ := C.2.2.2.2.2.1.1 ci _ c1
  obtain ⟨cf, kf, fi, f, hi2, hsl⟩ := hS k hk
  have hst := (u_facts hfc hkC (u_lays hts c2 hk) hi2).1
  have hlay := hts _ (c2 _ (u_in_lay hk))
  have fin2 : ∀ H' : Heap, H'[E.1 + o]? = some (cell.setSlot (E.2.1.2 ci k) (gcv E v)) → H'.size = H.size → (∀ q, q ≠ E.1 + o → H'[q]? = H[q]?) → W p l e R s m args below meth c H' (locs ++ [⟨E.1 + o, E.2.1.2 ci k⟩]) cells slots Q (F0 m (pc + 3) ls (gcs E st)) := by
    intro H' e1 e2 e3
    refine kk p l e R s m args below meth c Q C n0 r1 r2 k2 H' _ cells slots ls ⟨g.1.set hs1 e2 e3 hs ?_, gS_put g.2.1 e2 e3, g.2.2.1, by rw [hs1]; exact g.2.2.2.1, by rw [hs1]; exact g.2.2.2.2.1, by rw [hs1]; exact g.2.2.2.2.2⟩
    rw [show gct E σ' o = .inr (ci, (List.range (gN ci)).map (fun k => gfv E σ' o ci k)) by simp [gct, hsh]]
    refine ⟨_, c1, t_OB.to (V := updV (vp_V ((List.range (gN ci)).map (fun k => gfv E σ o ci k))) k (gcv E v)) ⟨_, e1, q2, q3, t_set q4 hap hk _⟩ (fun j hj => ?_)⟩
    rw [gfs_V hj]
    by_cases hjk : j = k
    · subst hjk
      rw [hv]
      simp [updV]
    · simp only [updV, hjk, if_false]
      rw [gfs_V hj, hv2 j hjk]
  cases fin with
  | false =>
    unfold u_lay at hlay
    rw [if_neg (by rw [hfin]; decide)] at hlay
    have h6 := u_store hfc hkC hkind hlay hi2 hd hn hfit
    refine W.putK C.1 C.2.1 (f := f) ⟨C.2.2.2.1, hts _ hlk, ⟨_, _, _, hi2⟩, hst⟩ (by rw [q2]; exact h6) q1 q3 (by rw [hsl]; exact k2_hasslot (q4 k hk)) rfl rfl d fun H' e1 e2 e3 => ?_
    rw [hsl] at e1 ⊢
    exact fin2 H' e1 e2 e3
  | true =>
    unfold u_lay at hlay
    rw [if_pos hfin] at hlay
    have hcf : m.cls = cf := by
      obtain ⟨_, _, c', _, _, _, -, -, hf', -, -, -, hown2, -⟩ := Cond.laysFinal_spec hlay
      have e1 : c' = cf := by have := hi2.symm.trans hf'; simp at this; exact this.1.symm
      rw [hown rfl] at hown2
      rw [← e1]; exact Option.some.inj (C.2.2.2.1.symm.trans hown2)
    have h6 := u_fits hfc hkC hkind (Or.inr hlay) hi2 hd hn hfit
    refine W.putFinK C.1 C.2.1 C.2.2.2.1 (hts _ hlk) hi2 hst hcf (C.2.2.2.2.2.2.2.2.2.2.trans (hi rfl)) (by rw [q2]; exact h6) q1 q3 (by rw [hsl]; exact k2_hasslot (q4 k hk)) rfl rfl d fun H' e1 e2 e3 => ?_
    rw [hsl] at e1 ⊢
    exact fin2 H' e1 e2 e3
theorem g_putI {ci k o index t : Nat} {ty : FieldType} {v : Int32} (ho : o < σ.1) (h9 : o < 1000) (hsh : gsh o = .inl ci) (hf : gFP F.1.cls index ci k ty false) (h0 : gfk ci k = 0) (hn : narrow ty (.int v) = .int v) (hfit : fits ty (.int v) = true) (d : decode F.2.1 pc = .ok (.putfield index, 3)) (e : pc + 3 = t) (kk : Wp E F nE t L st (gset σ o k v) K) : Wp E F nE pc L (.int v :: .ref o :: st) σ K := by
  refine gput (v := .int v) (σ' := gset σ o k v) ho h9 hsh hf (fun h => by cases h) hn hfit rfl (fun i hi => gct_same (gup_rowo _ _ _ hi) rfl rfl) ?_ (fun j hj => ?_) d e kk
  · simp only [gfv, h0, gup_self]; rfl
  · simp only [gfv, gup_k _ _ _ hj]
theorem g_putR {ci k o r index t : Nat} {ty : FieldType} (ho : o < σ.1) (h9 : o < 1000) (hsh : gsh o = .inl ci) (hf : gFP F.1.cls index ci k ty true) (h0 : gfk ci k = 1) (hr9 : r < 1000) (hi : F.1.name = "<init>") (hty : ∃ t0, ty = .object t0 ∨ ∃ t1, ty = .array t1) (d : decode F.2.1 pc = .ok (.putfield index, 3)) (e : pc + 3 = t) (kk : Wp E F nE t L st (σ.1, σ.2.1, gupR σ.2.2.1 o k r, σ.2.2.2) K) : Wp E F nE pc L (.ref r :: .ref o :: st) σ K := by
  refine gput (v := .ref r) (σ' := (σ.1, σ.2.1, gupR σ.2.2.1 o k r, σ.2.2.2)) ho h9 hsh hf (fun _ => hi) ?_ ?_ rfl (fun i hi => gct_same rfl (by funext j; simp [gupR, hi]) rfl) ?_ (fun j hj => ?_) d e kk
  · rw [gcv_ref hr9]; obtain ⟨t0, rfl | ⟨t1, rfl⟩⟩ := hty <;> rfl
  · rw [gcv_ref hr9]; obtain ⟨t0, rfl | ⟨t1, rfl⟩⟩ := hty <;> rfl
  · simp only [gfv, h0, gcv_ref hr9]
    simp [gupR, va_rf]
  · simp only [gfv]
    simp [gupR, hj]
theorem g_noLong : ∀ i, i ≠ gLong → ∀ ci, gsh i = .inl ci → ∀ k, k < gN ci → gfk ci k ≠ 2 := by
  intro i hi ci hsh k hk
  by_cases h : i < gshL.length
  · have key : ∀ i, i < gshL.length → i ≠ gLong → (match gsh i with
      | .inl ci => (List.range (gN ci)).all (fun k => decide (gfk ci k ≠ 2))
      | .inr _ => true) = true := by decide +kernel
    have h1 := key i h hi
    rw [hsh] at h1
    simpa using List.all_eq_true.mp h1 k (List.mem_range.mpr hk)
  · have : gsh i = .inl 99 := by
      show gshL.getD i (.inl 99) = _
      rw [List.getD_eq_getElem?_getD, List.getElem?_eq_none (by omega)]
      rfl
    rw [this] at hsh
    cases hsh
    rw [show gN 99 = 0 from rfl] at hk
    exact absurd hk (Nat.not_lt_zero _)
theorem g_putL {ci k index t : Nat} {v : Int64} (ho : gLong < σ.1) (hsh : gsh gLong = .inl ci) (hf : gFP F.1.cls index ci k .long false) (h0 : gfk ci k = 2) (hone : ∀ j, j ≠ k → gfk ci j ≠ 2) (hlt : ∀ j, gfk ci j < 3) (d : decode F.2.1 pc = .ok (.putfield index, 3)) (e : pc + 3 = t) (kk : Wp E F nE t L st (σ.1, σ.2.1, σ.2.2.1, v) K) : Wp E F nE pc L (.long v :: .ref gLong :: st) σ K := by
  refine gput (v := .long v) (σ' := (σ.1, σ.2.1, σ.2.2.1, v)) ho (by decide) hsh hf (fun h => by cases h) rfl rfl rfl (fun i hi => ?_) ?_ (fun j hj => ?_) d e kk
  · unfold gct
    cases hg : gsh i with
    | inr q => rfl
    | inl ci2 =>
      have : (List.range (gN ci2)).map (fun k => gfv E (σ.1, σ.2.1, σ.2.2.1, v) i ci2 k) = (List.range (gN ci2)).map (fun k => gfv E σ i ci2 k) := by
        refine List.map_congr_left fun z hz => ?_
        have := g_noLong i hi ci2 hg z (List.mem_range.mp hz)
        have h3 : gfk ci2 z < 3 := g_fk3 _ _
        rcases (show gfk ci2 z = 0 ∨ gfk ci2 z = 1 by omega) with h4 | h4 <;> simp only [gfv, h4]
      simp only [this]
  · simp only [gfv, h0]; rfl
  · have h3 := hlt j
    have h5 := hone j hj
    rcases (show gfk ci j = 0 ∨ gfk ci j = 1 by omega) with h4 | h4 <;> simp only [gfv, h4]
end GH
section GH2
variable {E : gE} {F : gF} {nE pc : Nat} {L st : List Value} {σ : gS} {K : gK}
theorem gct_grow (σ : gS) (i : Nat) : gct E (σ.1 + 1, σ.2.1, σ.2.2.1, σ.2.2.2) i = gct E σ i := gct_same rfl rfl rfl
theorem gInv.grow {H H1 : Heap} (h : gInv E σ H) (e : va_at E.2.1 vwCl (E.1 + σ.1, gct E σ σ.1) H1) (z : H1.size = H.size + 1) (oq : ∀ q : Nat, q < H.size → H1[q]? = H[q]?) : gInv E (σ.1 + 1, σ.2.1, σ.2.2.1, σ.2.2.2) H1 := by
  refine ⟨by rw [z, h.1]; rfl, fun i hi => ?_⟩
  rw [gct_grow]
  by_cases hio : i = σ.1
  · subst hio; exact e
  · have hi2 : i < σ.1 := by have : i < σ.1 + 1 := hi; omega
    exact (h.2 i hi2).kept (oq _ (by rw [h.1]; exact Nat.add_lt_add_left hi2 _))
theorem gR.grow {n0 n : Nat} {s : State} {H H1 : Heap} {locs : List Loc} {cells slots : Nat} {ls : Array Slot} (g : gR E F nE n0 s L σ H locs cells slots ls) (hb : E.1 ≤ s.heap.size) (hE : σ.1 + 1 ≤ nE) (hn : gsz σ.1 = n) (e : va_at E.2.1 vwCl (E.1 + σ.1, gct E σ σ.1) H1) (z : H1.size = H.size + 1) (oq : ∀ q : Nat, q < H.size → H1[q]? = H[q]?) : gR E F nE n0 s L (σ.1 + 1, σ.2.1, σ.2.2.1, σ.2.2.2) H1 locs (cells + 1) (slots + n) ls := by
  refine ⟨g.1.grow e z oq, ⟨Nat.le_trans g.2.1.1 (by omega), fun q h1 h2 => ?_, g.2.1.2.2⟩, g.2.2.1, ?_, ?_, hE⟩
  · rw [oq q (Nat.lt_of_lt_of_le h1 g.2.1.1)]
    exact g.2.1.2.1 q h1 h2
  · have := g.2.2.2.1
    show cells + 1 + n0 = σ.1 + 1
    omega
  · have := g.2.2.2.2.1
    show slots + n + gsl n0 = gsl σ.1 + gsz σ.1
    omega
theorem g_new {ci index o t : Nat} {Cn : String} {T : u_T} {N : Nat} (hcl : gCl ci Cn T N) (hsh : gsh σ.1 = .inl ci) (ho : σ.1 = o) (h9 : o < 1000) (hw1 : Cond.classLink F.1.cls index Cn ∈ gB) (hw2 : Cond.instantiable Cn N ∈ gB) (hw3 : Cond.initialized Cn ∈ gB) (hE : σ.1 + 1 ≤ nE) (hz : ∀ k, σ.2.1 σ.1 k = 0) (hz2 : ∀ k, σ.2.2.1 σ.1 k = none) (hz3 : σ.2.2.2 = 0) (d : decode F.2.1 pc = .ok (.new index, 3)) (e : pc + 3 = t) (kk : Wp E F nE t L (.ref o :: st) (σ.1 + 1, σ.2.1, σ.2.2.1, σ.2.2.2) K) : Wp E F nE pc L st σ K := by
  subst e
  subst ho
  intro p l e R s m args below meth c Q C n0 r1 r2 k2 H locs cells slots ls g
  obtain ⟨c1, c2, c3, c4, ty0, c5⟩ := hcl
  subst c3
  have hts := C.2.2.2.2.1
  have hsz : gsz σ.1 = gN ci := by unfold gsz; rw [hsh]
  have hKn := C.2.2.2.2.2.1.1 ci _ c1
  have hm : gsl (σ.1 + 1) ≤ gsl nE := gsl_mono hE
  have hm2 : gsl (σ.1 + 1) = gsl σ.1 + gN ci := by show gsl σ.1 + gsz σ.1 = _; rw [hsz]
  have g4 := g.2.2.2.1
  have g5 := g.2.2.2.2.1
  refine W.newcK C.1 C.2.1 C.2.2.2.1 (hts _ hw1) (hts _ hw2) (hts _ hw3) rfl d (by omega) (by omega) hKn.2.1 g.1.1 fun H1 kC hkC e1 z1 o1 => ?_
  have := kk p l e R s m args below meth c Q C n0 r1 r2 k2 H1 locs (cells + 1) (slots + gN ci) ls (g.grow C.2.2.2.2.2.2.2.1 hE hsz ?_ (by rw [z1, g.1.1]) (fun q hq => o1 q (by rw [← g.1.1]; exact hq)))
  · rw [show gcs E (.ref σ.1 :: st) = gcv E (.ref σ.1) :: gcs E st from rfl, gcv_ref h9] at this
    exact this
  · rw [show gct E σ σ.1 = .inr (ci, (List.range (gN ci)).map (fun k => gfv E σ σ.1 ci k)) by simp [gct, hsh]]
    refine ⟨_, c1, (u_born ty0 hts c2 hKn hkC e1 (fun k hk => (c5 k hk).1)).to (fun j hj => ?_)⟩
    rw [gfs_V hj, (c5 j hj).2]
    simp only [gfv, hz, hz2, hz3]
    split <;> simp_all [va_rf]
theorem g_newa {kd n o t : Nat} {x : Int32} {at_ : ArrayType} (hat : newarray.typeOf at_ = gty kd) (hkd : kd < 3) (hw : Cond.arrayClass (newarray.typeOf at_) ∈ gB) (hsh : gsh σ.1 = .inr (kd, n)) (ho : σ.1 = o) (h9 : o < 1000) (hx : ¬ x < 0) (hxn : x.toNatClampNeg = n) (hn : n ≤ 5000) (hE : σ.1 + 1 ≤ nE) (hz : ∀ k, σ.2.1 σ.1 k = 0) (d : decode F.2.1 pc = .ok (.newarray at_, 2)) (e : pc + 2 = t) (kk : Wp E F nE t L (.ref o :: st) (σ.1 + 1, σ.2.1, σ.2.2.1, σ.2.2.2) K) : Wp E F nE pc L (.int x :: st) σ K := by
  subst e
  subst ho
  intro p l e R s m args below meth c Q C n0 r1 r2 k2 H locs cells slots ls g
  have hts := C.2.2.2.2.1
  have hsz : gsz σ.1 = n := by unfold gsz; rw [hsh]
  have hm : gsl (σ.1 + 1) ≤ gsl nE := gsl_mono hE
  have hm2 : gsl (σ.1 + 1) = gsl σ.1 + n := by show gsl σ.1 + gsz σ.1 = _; rw [hsz]
  have g4 := g.2.2.2.1
  have g5 := g.2.2.2.2.1
  have hK := C.2.2.2.2.2.1.2
  have hRA : s.vm.findClass ("[" ++ (gty kd).toString) = some (E.2.2.1 kd) := by
    rcases (show kd = 0 ∨ kd = 1 ∨ kd = 2 by omega) with rfl | rfl | rfl
    · exact (hK 0 _ rfl).2
    · exact (hK 1 _ rfl).2
    · exact (hK 2 _ rfl).2
  refine va_newaK C.1 C.2.1 (hts _ hw) rfl d rfl hx hxn ?_ (by omega) (by omega) g.1.1 fun H1 cA e1 z1 o1 hAr hNm => ?_
  · rw [hat]
    have : componentBytes (gty kd) ≤ 8 := by
      rcases (show kd = 0 ∨ kd = 1 ∨ kd = 2 by omega) with rfl | rfl | rfl <;> decide
    calc n * componentBytes (gty kd) ≤ 5000 * 8 := Nat.mul_le_mul hn this
      _ ≤ 536870912 := by decide
  rw [hat] at e1 hNm
  cases hRA.symm.trans hNm
  have := kk p l e R s m args below meth c Q C n0 r1 r2 k2 H1 locs (cells + 1) (slots + n) ls (g.grow C.2.2.2.2.2.2.2.1 hE hsz ?_ (by rw [z1, g.1.1]) (fun q hq => o1 q (by rw [← g.1.1]; exact hq)))
  · rw [show gcs E (.ref σ.1 :: st) = gcv E (.ref σ.1) :: gcs E st from rfl, gcv_ref h9] at this
    exact this
  · rw [show gct E σ σ.1 = .inl (E.2.2.1 kd, n, .inl (σ.2.1 σ.1)) by simp [gct, hsh]]
    show H1[E.1 + σ.1]? = some (arrV (E.2.2.1 kd) n (fun j => .int (σ.2.1 σ.1 j)))
    rw [e1]
    congr 2
    funext j
    rw [hz]
    rcases (show kd = 0 ∨ kd = 1 ∨ kd = 2 by omega) with rfl | rfl | rfl <;> rfl
theorem g_iald {a n t : Nat} {i : Int32} (ha : a < σ.1) (h9 : a < 1000) (hsh : gsh a = .inr (0, n)) (hin : vp_in i n) (d : decode F.2.1 pc = .ok (.iaload, 1)) (e : pc + 1 = t) (kk : Wp E F nE t L (.int (σ.2.1 a i.toNatClampNeg) :: st) σ K) : Wp E F nE pc L (.int i :: .ref a :: st) σ K := by
  subst e
  intro p l e R s m args below meth c Q C n0 r1 r2 k2 H locs cells slots ls g
  rw [show gcs E (.int i :: .ref a :: st) = .int i :: gcv E (.ref a) :: gcs E st from rfl, gcv_ref h9]
  exact va_iald C.1 C.2.1 C.2.2.2.2.2.1 (g.1.arr ha hsh) 0 0 rfl rfl hin d (kk p l e R s m args below meth c Q C n0 r1 r2 k2 H locs cells slots ls g)
theorem g_bald {a n t : Nat} {i : Int32} (ha : a < σ.1) (h9 : a < 1000) (hsh : gsh a = .inr (1, n)) (hin : vp_in i n) (d : decode F.2.1 pc = .ok (.baload, 1)) (e : pc + 1 = t) (kk : Wp E F nE t L (.int (σ.2.1 a i.toNatClampNeg) :: st) σ K) : Wp E F nE pc L (.int i :: .ref a :: st) σ K := by
  subst e
  intro p l e R s m args below meth c Q C n0 r1 r2 k2 H locs cells slots ls g
  rw [show gcs E (.int i :: .ref a :: st) = .int i :: gcv E (.ref a) :: gcs E st from rfl, gcv_ref h9]
  exact va_bald C.1 C.2.1 C.2.2.2.2.2.1 (g.1.arr ha hsh) 0 1 rfl rfl hin d (kk p l e R s m args below meth c Q C n0 r1 r2 k2 H locs cells slots ls g)
theorem g_zald {a n t : Nat} {i : Int32} (ha : a < σ.1) (h9 : a < 1000) (hsh : gsh a = .inr (2, n)) (hin : vp_in i n) (d : decode F.2.1 pc = .ok (.baload, 1)) (e : pc + 1 = t) (kk : Wp E F nE t L (.int (σ.2.1 a i.toNatClampNeg) :: st) σ K) : Wp E F nE pc L (.int i :: .ref a :: st) σ K := by
  subst e
  intro p l e R s m args below meth c Q C n0 r1 r2 k2 H locs cells slots ls g
  rw [show gcs E (.int i :: .ref a :: st) = .int i :: gcv E (.ref a) :: gcs E st from rfl, gcv_ref h9]
  exact va_zald C.1 C.2.1 C.2.2.2.2.2.1 (g.1.arr ha hsh) 0 2 rfl rfl hin d (kk p l e R s m args below meth c Q C n0 r1 r2 k2 H locs cells slots ls g)
theorem g_iast {a n t : Nat} {i x : Int32} (ha : a < σ.1) (h9 : a < 1000) (hsh : gsh a = .inr (0, n)) (hin : vp_in i n) (d : decode F.2.1 pc = .ok (.iastore, 1)) (e : pc + 1 = t) (kk : Wp E F nE t L st (gset σ a i.toNatClampNeg x) K) : Wp E F nE pc L (.int x :: .int i :: .ref a :: st) σ K := by
  subst e
  intro p l e R s m args below meth c Q C n0 r1 r2 k2 H locs cells slots ls g
  rw [show gcs E (.int x :: .int i :: .ref a :: st) = .int x :: .int i :: gcv E (.ref a) :: gcs E st from rfl, gcv_ref h9]
  have hc := g.1.arr ha hsh 0 _ rfl
  refine W.iast C.1 C.2.1 hc ((C.2.2.2.2.2.1.2 0 _ rfl).1 n (fun j => .int (σ.2.1 a j))) (fun q => by cases q) (by show ¬ (i < 0 ∨ (arrV _ _ _).slots.size ≤ _); rw [arrV_size]; exact hin) rfl rfl d fun H1 e1 e2 e3 => ?_
  refine kk p l e R s m args below meth c Q C n0 r1 r2 k2 H1 _ cells slots ls ⟨g.1.set rfl e2 e3 (fun j hj => gct_same (gup_rowo _ _ _ hj) rfl rfl) ?_, gS_put g.2.1 e2 e3, g.2.2⟩
  rw [show gct E (gset σ a i.toNatClampNeg x) a = .inl (E.2.2.1 0, n, .inl (gup σ.2.1 a i.toNatClampNeg x a)) by simp [gct, hsh]]
  show H1[E.1 + a]? = some (arrV (E.2.2.1 0) n (fun j => .int (gup σ.2.1 a i.toNatClampNeg x a j)))
  rw [e1]
  show some ((arrV (E.2.2.1 0) n (fun j => .int (σ.2.1 a j))).setSlot i.toNatClampNeg (.int x)) = _
  rw [arrV_store]
  congr 2
  funext q
  by_cases hq : q = i.toNatClampNeg
  · subst hq
    simp [updV, gup]
  · simp [updV, gup, hq]
theorem g_bast {a n t : Nat} {i x : Int32} (ha : a < σ.1) (h9 : a < 1000) (hsh : gsh a = .inr (1, n)) (hin : vp_in i n) (hx : narrow .byte (.int x) = .int x) (d : decode F.2.1 pc = .ok (.bastore, 1)) (e : pc + 1 = t) (kk : Wp E F nE t L st (gset σ a i.toNatClampNeg x) K) : Wp E F nE pc L (.int x :: .int i :: .ref a :: st) σ K := by
  subst e
  intro p l e R s m args below meth c Q C n0 r1 r2 k2 H locs cells slots ls g
  rw [show gcs E (.int x :: .int i :: .ref a :: st) = .int x :: .int i :: gcv E (.ref a) :: gcs E st from rfl, gcv_ref h9]
  have hc := g.1.arr ha hsh 0 _ rfl
  refine W.bast C.1 C.2.1 hc ((C.2.2.2.2.2.1.2 1 _ rfl).1 n (fun j => .int (σ.2.1 a j))) (fun q => by cases q) (by show ¬ (i < 0 ∨ (arrV _ _ _).slots.size ≤ _); rw [arrV_size]; exact hin) rfl rfl d fun H1 e1 e2 e3 => ?_
  refine kk p l e R s m args below meth c Q C n0 r1 r2 k2 H1 _ cells slots ls ⟨g.1.set rfl e2 e3 (fun j hj => gct_same (gup_rowo _ _ _ hj) rfl rfl) ?_, gS_put g.2.1 e2 e3, g.2.2⟩
  rw [show gct E (gset σ a i.toNatClampNeg x) a = .inl (E.2.2.1 1, n, .inl (gup σ.2.1 a i.toNatClampNeg x a)) by simp [gct, hsh]]
  show H1[E.1 + a]? = some (arrV (E.2.2.1 1) n (fun j => .int (gup σ.2.1 a i.toNatClampNeg x a j)))
  rw [e1]
  rw [hx]
  show some ((arrV (E.2.2.1 1) n (fun j => .int (σ.2.1 a j))).setSlot i.toNatClampNeg (.int x)) = _
  rw [arrV_store]
  congr 2
  funext q
  by_cases hq : q = i.toNatClampNeg
  · subst hq
    simp [updV, gup]
  · simp [updV, gup, hq]
theorem g_zast {a n t : Nat} {i x : Int32} (ha : a < σ.1) (h9 : a < 1000) (hsh : gsh a = .inr (2, n)) (hin : vp_in i n) (hx : narrow .boolean (.int x) = .int x) (d : decode F.2.1 pc = .ok (.bastore, 1)) (e : pc + 1 = t) (kk : Wp E F nE t L st (gset σ a i.toNatClampNeg x) K) : Wp E F nE pc L (.int x :: .int i :: .ref a :: st) σ K := by
  subst e
  intro p l e R s m args below meth c Q C n0 r1 r2 k2 H locs cells slots ls g
  rw [show gcs E (.int x :: .int i :: .ref a :: st) = .int x :: .int i :: gcv E (.ref a) :: gcs E st from rfl, gcv_ref h9]
  have hc := g.1.arr ha hsh 0 _ rfl
  refine W.zast C.1 C.2.1 hc ((C.2.2.2.2.2.1.2 2 _ rfl).1 n (fun j => .int (σ.2.1 a j))) (fun q => by cases q) (by show ¬ (i < 0 ∨ (arrV _ _ _).slots.size ≤ _); rw [arrV_size]; exact hin) rfl rfl d fun H1 e1 e2 e3 => ?_
  refine kk p l e R s m args below meth c Q C n0 r1 r2 k2 H1 _ cells slots ls ⟨g.1.set rfl e2 e3 (fun j hj => gct_same (gup_rowo _ _ _ hj) rfl rfl) ?_, gS_put g.2.1 e2 e3, g.2.2⟩
  rw [show gct E (gset σ a i.toNatClampNeg x) a = .inl (E.2.2.1 2, n, .inl (gup σ.2.1 a i.toNatClampNeg x a)) by simp [gct, hsh]]
  show H1[E.1 + a]? = some (arrV (E.2.2.1 2) n (fun j => .int (gup σ.2.1 a i.toNatClampNeg x a j)))
  rw [e1]
  rw [hx]
  show some ((arrV (E.2.2.1 2) n (fun j => .int (σ.2.1 a j))).setSlot i.toNatClampNeg (.int x)) = _
  rw [arrV_store]
  congr 2
  funext q
  by_cases hq : q = i.toNatClampNeg
  · subst hq
    simp [updV, gup]
  · simp [updV, gup, hq]
theorem g_alen {a n t : Nat} {kd : Nat} {v : Int32} (ha : a < σ.1) (h9 : a < 1000) (hkd : kd < 3) (hsh : gsh a = .inr (kd, n)) (hv : Int32.ofNat n = v) (d : decode F.2.1 pc = .ok (.arraylength, 1)) (e : pc + 1 = t) (kk : Wp E F nE t L (.int v :: st) σ K) : Wp E F nE pc L (.ref a :: st) σ K := by
  subst e
  intro p l e R s m args below meth c Q C n0 r1 r2 k2 H locs cells slots ls g
  rw [show gcs E (.ref a :: st) = gcv E (.ref a) :: gcs E st from rfl, gcv_ref h9]
  have := kk p l e R s m args below meth c Q C n0 r1 r2 k2 H locs cells slots ls g
  rcases (show kd = 0 ∨ kd = 1 ∨ kd = 2 by omega) with rfl | rfl | rfl
  · exact va_alen C.1 C.2.1 C.2.2.2.2.2.1 (g.1.arr ha hsh) 0 0 rfl rfl hv d this
  · exact va_alen C.1 C.2.1 C.2.2.2.2.2.1 (g.1.arr ha hsh) 0 1 rfl rfl hv d this
  · exact va_alen C.1 C.2.1 C.2.2.2.2.2.1 (g.1.arr ha hsh) 0 2 rfl rfl hv d this
/-- the script -/
theorem g_sld {t : Nat} {i : Int32} (hin : vp_in i E.2.2.2.2.1) (d : decode F.2.1 pc = .ok (.iaload, 1)) (e : pc + 1 = t) (kk : Wp E F nE t L (.int (E.2.2.2.2.2 i.toNatClampNeg) :: st) σ K) : Wp E F nE pc L (.int i :: .ref 1000 :: st) σ K := by
  subst e
  intro p l e R s m args below meth c Q C n0 r1 r2 k2 H locs cells slots ls g
  obtain ⟨b, h1, h2⟩ := C.2.2.2.2.2.2.1.1
  rw [show gcs E (.int i :: .ref 1000 :: st) = .int i :: gcv E (.ref 1000) :: gcs E st from rfl, gcv_ro (Nat.lt_irrefl 1000) h1]
  exact va_ti C.1 C.2.1 h2 g.2.1 hin rfl d (kk p l e R s m args below meth c Q C n0 r1 r2 k2 H locs cells slots ls g)
theorem g_slen {t : Nat} (d : decode F.2.1 pc = .ok (.arraylength, 1)) (e : pc + 1 = t) (kk : Wp E F nE t L (.int (Int32.ofNat E.2.2.2.2.1) :: st) σ K) : Wp E F nE pc L (.ref 1000 :: st) σ K := by
  subst e
  intro p l e R s m args below meth c Q C n0 r1 r2 k2 H locs cells slots ls g
  obtain ⟨b, h1, h2⟩ := C.2.2.2.2.2.2.1.1
  rw [show gcs E (.ref 1000 :: st) = gcv E (.ref 1000) :: gcs E st from rfl, gcv_ro (Nat.lt_irrefl 1000) h1]
  exact va_tlen C.1 C.2.1 h2 g.2.1 rfl d (kk p l e R s m args below meth c Q C n0 r1 r2 k2 H locs cells slots ls g)
theorem gro_i {j : Nat} : ¬ 1001 + j < 1000 := by omega
theorem gro_j {j : Nat} : 1001 + j - 1000 = j + 1 := by omega
/-- a static table -/
theorem g_tld {t j r : Nat} {q : String × List Int32} {i : Int32} (hj : gst[j]? = some q) (hr : r = 1001 + j) (hin : vp_in i q.2.length) (d : decode F.2.1 pc = .ok (.iaload, 1)) (e : pc + 1 = t) (kk : Wp E F nE t L (.int (q.2.getD i.toNatClampNeg 0) :: st) σ K) : Wp E F nE pc L (.int i :: .ref r :: st) σ K := by
  subst e
  subst hr
  intro p l e R s m args below meth c Q C n0 r1 r2 k2 H locs cells slots ls g
  obtain ⟨b, h1, h2, -⟩ := C.2.2.2.2.2.2.1.2.1 j q hj
  rw [show gcs E (.int i :: .ref (1001 + j) :: st) = .int i :: gcv E (.ref (1001 + j)) :: gcs E st from rfl, gcv_ro gro_i (by rw [gro_j]; exact h1)]
  exact va_ti C.1 C.2.1 h2 g.2.1 hin rfl d (kk p l e R s m args below meth c Q C n0 r1 r2 k2 H locs cells slots ls g)
theorem g_gets {t j r index : Nat} {q : String × List Int32} (hj : gst[j]? = some q) (hr : r = 1001 + j) (hw : Cond.fieldLink F.1.cls index "FlexRows" q.1 "[I" ∈ gB) (d : decode F.2.1 pc = .ok (.getstatic index, 3)) (e : pc + 3 = t) (kk : Wp E F nE t L (.ref r :: st) σ K) : Wp E F nE pc L st σ K := by
  subst e
  subst hr
  intro p l e R s m args below meth c Q C n0 r1 r2 k2 H locs cells slots ls g
  obtain ⟨b, h1, -, h3⟩ := C.2.2.2.2.2.2.1.2.1 j q hj
  have := kk p l e R s m args below meth c Q C n0 r1 r2 k2 H locs cells slots ls g
  rw [show gcs E (.ref (1001 + j) :: st) = gcv E (.ref (1001 + j)) :: gcs E st from rfl, gcv_ro gro_i (by rw [gro_j]; exact h1)] at this
  exact va_gets C.1 C.2.1 h3 g.2.1 C.2.2.2.1 (C.2.2.2.2.1 _ hw) (fun x h => h) d this
theorem g_getsN {t j r index : Nat} {q : String × List Int32} (hj : gst[j]? = some q) (hr : r = 1001 + j) (hw : Cond.fieldLinkNest F.1.cls index "FlexRows" q.1 "[I" "FlexRows" ∈ gNst) (d : decode F.2.1 pc = .ok (.getstatic index, 3)) (e : pc + 3 = t) (kk : Wp E F nE t L (.ref r :: st) σ K) : Wp E F nE pc L st σ K := by
  subst e
  subst hr
  intro p l e R s m args below meth c Q C n0 r1 r2 k2 H locs cells slots ls g
  obtain ⟨b, h1, -, h3⟩ := C.2.2.2.2.2.2.1.2.1 j q hj
  have := kk p l e R s m args below meth c Q C n0 r1 r2 k2 H locs cells slots ls g
  rw [show gcs E (.ref (1001 + j) :: st) = gcv E (.ref (1001 + j)) :: gcs E st from rfl, gcv_ro gro_i (by rw [gro_j]; exact h1)] at this
  exact va_getsN C.1 C.2.1 h3 g.2.1 C.2.2.2.1 (va_Nw.use rfl (C.2.2.2.2.2.2.1.2.2.2.1 _ hw)) (fun x h => h) d this
/-- COMPACT_STRINGS and the formatter -/
theorem g_getsC {t index : Nat} (hw : Cond.fieldLink F.1.cls index "java/lang/String" "COMPACT_STRINGS" "Z" ∈ gB) (d : decode F.2.1 pc = .ok (.getstatic index, 3)) (e : pc + 3 = t) (kk : Wp E F nE t L (.int 1 :: st) σ K) : Wp E F nE pc L st σ K := by
  subst e
  intro p l e R s m args below meth c Q C n0 r1 r2 k2 H locs cells slots ls g
  exact va_gets C.1 C.2.1 C.2.2.2.2.2.2.1.2.2.2.2.1 g.2.1 C.2.2.2.1 (C.2.2.2.2.1 _ hw) (fun x h => h) d (kk p l e R s m args below meth c Q C n0 r1 r2 k2 H locs cells slots ls g)
theorem g_getsF {t index : Nat} (hw : Cond.fieldLink F.1.cls index "jdk/internal/util/Preconditions" "SIOOBE_FORMATTER" "Ljava/util/function/BiFunction;" ∈ gB) (d : decode F.2.1 pc = .ok (.getstatic index, 3)) (e : pc + 3 = t) (kk : Wp E F nE t L (.ref 1050 :: st) σ K) : Wp E F nE pc L st σ K := by
  subst e
  intro p l e R s m args below meth c Q C n0 r1 r2 k2 H locs cells slots ls g
  have := kk p l e R s m args below meth c Q C n0 r1 r2 k2 H locs cells slots ls g
  exact va_gets C.1 C.2.1 C.2.2.2.2.2.2.1.2.2.2.2.2 g.2.1 C.2.2.2.1 (C.2.2.2.2.1 _ hw) (fun x h => h) d this
/-- a text's word -/
theorem g_ldcS {t i r index : Nat} {q : Nat × String × List Int32} (hi : gtx[i]? = some q) (hr : r = 1010 + i) (hx : index = q.1) (hown : F.1.cls = "FlexRows$Text") (d : decode F.2.1 pc = .ok (.ldc index, 2)) (e : pc + 2 = t) (kk : Wp E F nE t L (.ref r :: st) σ K) : Wp E F nE pc L st σ K := by
  subst e
  subst hr
  subst hx
  intro p l e R s m args below meth c Q C n0 r1 r2 k2 H locs cells slots ls g
  obtain ⟨adK, adV, -, h2⟩ := C.2.2.2.2.2.2.1.2.2.1
  obtain ⟨h3, -, h5⟩ := h2 i q hi
  have := kk p l e R s m args below meth c Q C n0 r1 r2 k2 H locs cells slots ls g
  rw [show gcs E (.ref (1010 + i) :: st) = gcv E (.ref (1010 + i)) :: gcs E st from rfl, gcv_ro (by omega) (by rw [show 1010 + i - 1000 = 10 + i by omega]; exact h3)] at this
  have ho := C.2.2.2.1
  rw [hown] at ho
  exact va_ldcS C.1 C.2.1 ho h5 d this
theorem g_getSV {t i r r2 index : Nat} {q : Nat × String × List Int32} (hi : gtx[i]? = some q) (hr : r = 1010 + i) (hr2 : r2 = 1020 + i) (hw : Cond.fieldLink F.1.cls index "java/lang/String" "value" "[B" ∈ gB) (d : decode F.2.1 pc = .ok (.getfield index, 3)) (e : pc + 3 = t) (kk : Wp E F nE t L (.ref r2 :: st) σ K) : Wp E F nE pc L (.ref r :: st) σ K := by
  subst e
  subst hr
  subst hr2
  intro p l e R s m args below meth c Q C n0 r1 r2 k2 H locs cells slots ls g
  obtain ⟨adK, adV, h1, h2⟩ := C.2.2.2.2.2.2.1.2.2.1
  obtain ⟨h3, h4, h5⟩ := h2 i q hi
  have hlt : i < gtx.length := (List.getElem?_eq_some_iff.mp hi).1
  have := kk p l e R s m args below meth c Q C n0 r1 r2 k2 H locs cells slots ls g
  rw [show gcs E (.ref (1020 + i) :: st) = gcv E (.ref (1020 + i)) :: gcs E st from rfl, gcv_ro (by omega) (by rw [show 1020 + i - 1000 = 20 + i by omega]; exact h4)] at this
  rw [show gcs E (.ref (1010 + i) :: st) = gcv E (.ref (1010 + i)) :: gcs E st from rfl, gcv_ro (by omega) (by rw [show 1010 + i - 1000 = 10 + i by omega]; exact h3)]
  exact vk_getf C.1 C.2.1 (h1.1 i hlt).2.2.1 g.2.1 C.2.2.2.1 (C.2.2.2.2.1 _ hw) (fun x h => h) d this
theorem g_getSC {t i r index : Nat} {q : Nat × String × List Int32} (hi : gtx[i]? = some q) (hr : r = 1010 + i) (hw : Cond.fieldLink F.1.cls index "java/lang/String" "coder" "B" ∈ gB) (d : decode F.2.1 pc = .ok (.getfield index, 3)) (e : pc + 3 = t) (kk : Wp E F nE t L (.int 0 :: st) σ K) : Wp E F nE pc L (.ref r :: st) σ K := by
  subst e
  subst hr
  intro p l e R s m args below meth c Q C n0 r1 r2 k2 H locs cells slots ls g
  obtain ⟨adK, adV, h1, h2⟩ := C.2.2.2.2.2.2.1.2.2.1
  obtain ⟨h3, h4, h5⟩ := h2 i q hi
  have hlt : i < gtx.length := (List.getElem?_eq_some_iff.mp hi).1
  have := kk p l e R s m args below meth c Q C n0 r1 r2 k2 H locs cells slots ls g
  rw [show gcs E (.ref (1010 + i) :: st) = gcv E (.ref (1010 + i)) :: gcs E st from rfl, gcv_ro (by omega) (by rw [show 1010 + i - 1000 = 10 + i by omega]; exact h3)]
  exact vk_getf C.1 C.2.1 (h1.1 i hlt).2.1 g.2.1 C.2.2.2.1 (C.2.2.2.2.1 _ hw) (fun x h => h) d this
theorem gtx_T {s : State} {H : Heap} {i : Nat} {q : Nat × String × List Int32} (h : gRO E (gA E) s H) (hi : gtx[i]? = some q) : ∃ b, E.2.2.2.1 (20 + i) = some b ∧ va_T .byte b q.2.2.length (fun j => .int (q.2.2.getD j 0)) (gA E) s H := by
  obtain ⟨adK, adV, h1, h2⟩ := h.2.2.1
  obtain ⟨h3, h4, h5⟩ := h2 i q hi
  have hlt : i < gtx.length := (List.getElem?_eq_some_iff.mp hi).1
  refine ⟨_, h4, ?_⟩
  have h6 := (h1.1 i hlt).2.2.2
  rw [show (gtx.map (fun q => q.2.2.length)).getD i 0 = q.2.2.length by simp [List.getD_eq_getElem?_getD, hi], show (gtx.map (fun q => q.2.2)).getD i [] = q.2.2 by simp [List.getD_eq_getElem?_getD, hi]] at h6
  exact h6
theorem g_sbld {t r i : Nat} {q : Nat × String × List Int32} {j : Int32} (hi : gtx[i]? = some q) (hr : r = 1020 + i) (hin : vp_in j q.2.2.length) (d : decode F.2.1 pc = .ok (.baload, 1)) (e : pc + 1 = t) (kk : Wp E F nE t L (.int (q.2.2.getD j.toNatClampNeg 0) :: st) σ K) : Wp E F nE pc L (.int j :: .ref r :: st) σ K := by
  subst e
  subst hr
  intro p l e R s m args below meth c Q C n0 r1 r2 k2 H locs cells slots ls g
  obtain ⟨b, h1, h2⟩ := gtx_T C.2.2.2.2.2.2.1 hi
  rw [show gcs E (.int j :: .ref (1020 + i) :: st) = .int j :: gcv E (.ref (1020 + i)) :: gcs E st from rfl, gcv_ro (by omega) (by rw [show 1020 + i - 1000 = 20 + i by omega]; exact h1)]
  exact va_tb C.1 C.2.1 h2 g.2.1 hin rfl d (kk p l e R s m args below meth c Q C n0 r1 r2 k2 H locs cells slots ls g)
theorem g_sblen {t r i : Nat} {q : Nat × String × List Int32} (hi : gtx[i]? = some q) (hr : r = 1020 + i) (d : decode F.2.1 pc = .ok (.arraylength, 1)) (e : pc + 1 = t) (kk : Wp E F nE t L (.int (Int32.ofNat q.2.2.length) :: st) σ K) : Wp E F nE pc L (.ref r :: st) σ K := by
  subst e
  subst hr
  intro p l e R s m args below meth c Q C n0 r1 r2 k2 H locs cells slots ls g
  obtain ⟨b, h1, h2⟩ := gtx_T C.2.2.2.2.2.2.1 hi
  rw [show gcs E (.ref (1020 + i) :: st) = gcv E (.ref (1020 + i)) :: gcs E st from rfl, gcv_ro (by omega) (by rw [show 1020 + i - 1000 = 20 + i by omega]; exact h1)]
  exact va_tlen C.1 C.2.1 h2 g.2.1 rfl d (kk p l e R s m args below meth c Q C n0 r1 r2 k2 H locs cells slots ls g)
end GH2
end
section
/-! methods: what a call does, by contract; the ways in and out -/
def gWs (F : gF) : List Cond := Cond.code F.1 F.2.1 F.2.2.1 F.2.2.2.1 :: gB
def gPc (E : gE) (as : List Value) (σ : gS) : Array Value → State → Prop := fun v U => v = (gcs E as).toArray ∧ gInv E σ U.heap ∧ va_K E.2.1 vwCl (gTys E) U ∧ gRO E (gA E) U U.heap ∧ E.1 ≤ U.heap.size
def gQc (E : gE) (nE : Nat) (Q : Option Value → gS → Prop) : Array Value → State → Outcome → State → Prop := fun _ st oc t => ∃ (r : Option Value) (σ' : gS), Q r σ' ∧ σ'.1 = nE ∧ oc = .returned (r.map (gcv E)) ∧ gInv E σ' t.heap ∧ va_F (gA E) st t
def gEv (E : gE) (F : gF) (nE : Nat) (as : List Value) (σ : gS) (Q : Option Value → gS → Prop) : Prop :=
  σ.1 ≤ nE ∧ ∀ l : Launch, Met l F.1 (gWs F) { frames := F.2.2.2.2.1, cells := nE - σ.1, slots := gsl nE - gsl σ.1, locals := F.2.2.2.2.2 } (gPc E as σ) (gQc E nE Q) (nE - σ.1) (gsl nE - gsl σ.1) (gA E)
theorem gEv.mono {E : gE} {F : gF} {nE : Nat} {as : List Value} {σ : gS} {Q Q2 : Option Value → gS → Prop} (h : gEv E F nE as σ Q) (k : ∀ r σ', Q r σ' → Q2 r σ') : gEv E F nE as σ Q2 := by
  refine ⟨h.1, fun l p e ha hc hk s m args below hf happ h1 h2 => ?_⟩
  obtain ⟨kk, o, a1, a2, a3, ⟨r, σ', q1, q2⟩, a4⟩ := h.2 l p e ha hc hk s m args below hf happ h1 h2
  exact ⟨kk, o, a1, a2, a3, ⟨r, σ', k _ _ q1, q2⟩, a4⟩
/-- the locals at a method's entry -/
def gEnt : List Value → List Value
  | [] => []
  | v :: t => if v.category = 2 then v :: .null :: gEnt t else v :: gEnt t
theorem gEnt_len (E : gE) (as : List Value) : (lg_sl (gcs E as)).length = (gEnt as).length := by
  induction as with
  | nil => rfl
  | cons v t ih =>
    show (lg_sl (gcv E v :: gcs E t)).length = _
    unfold gEnt
    have h1 : lg_sl (gcv E v :: gcs E t) = (if (gcv E v).category = 2 then [Slot.val (gcv E v), .second] else [.val (gcv E v)]) ++ lg_sl (gcs E t) := rfl
    rw [h1, gcv_cat, List.length_append, ih]
    split <;> simp <;> omega
theorem gEnt_args (E : gE) (as : List Value) : ∀ (i0 i : Nat) (v : Value), (gEnt as)[i]? = some v → v ≠ .null → (i0 + i, gcv E v) ∈ lv_args i0 (gcs E as) := by
  induction as with
  | nil => intro i0 i v h; simp [gEnt] at h
  | cons a t ih =>
    intro i0 i v h hv
    show _ ∈ (i0, gcv E a) :: lv_args (if (gcv E a).category = 2 then i0 + 2 else i0 + 1) (gcs E t)
    rw [gcv_cat]
    unfold gEnt at h
    by_cases hc : a.category = 2
    · rw [if_pos hc] at h ⊢
      match i, h with
      | 0, h => cases h; exact List.mem_cons_self
      | 1, h => cases h; exact absurd rfl hv
      | i + 2, h =>
        have := ih (i0 + 2) i v h hv
        rw [show i0 + 2 + i = i0 + (i + 2) by omega] at this
        exact List.mem_cons_of_mem _ this
    · rw [if_neg hc] at h ⊢
      match i, h with
      | 0, h => cases h; exact List.mem_cons_self
      | i + 1, h =>
        have := ih (i0 + 1) i v h hv
        rw [show i0 + 1 + i = i0 + (i + 1) by omega] at this
        exact List.mem_cons_of_mem _ this
/-- what stands at a return -/
def gRet (F : gF) (nE : Nat) (Q : Option Value → gS → Prop) : gK := fun pc _ st σ => σ.1 = nE ∧
  ((decode F.2.1 pc = .ok (.ireturn, 1) ∧ ∃ (v : Int32) (ty : FieldType), st = [.int v] ∧ F.2.2.2.1 = some ty ∧ narrow ty (.int v) = .int v ∧ Q (some (.int v)) σ) ∨
   (decode F.2.1 pc = .ok (.return_, 1) ∧ st = [] ∧ F.2.2.2.1 = none ∧ Q none σ) ∨
   (decode F.2.1 pc = .ok (.lreturn, 1) ∧ ∃ v : Int64, st = [.long v] ∧ F.2.2.2.1 = some .long ∧ Q (some (.long v)) σ) ∨
   (decode F.2.1 pc = .ok (.areturn, 1) ∧ ∃ (r : Nat) (nm : String), st = [.ref r] ∧ F.2.2.2.1 = some (.object nm) ∧ Q (some (.ref r)) σ))
theorem gEv.of {E : gE} {F : gF} {nE : Nat} {as : List Value} {σ : gS} {Q : Option Value → gS → Prop} (hy : plainName F.1.cls = true) (hle : σ.1 ≤ nE) (hlen : (gEnt as).length ≤ F.2.2.1) {L : List Value} (hL : gEnt as ++ List.replicate (F.2.2.1 - (gEnt as).length) .null = L) (h : Wp E F nE 0 L [] σ (gRet F nE Q)) : gEv E F nE as σ Q := by
  refine ⟨hle, fun l => ?_⟩
  refine Met.ofW (cc := F.2.1) (maxL := F.2.2.1) (ret := F.2.2.2.1) hy rfl ?_
  intro p e s m args below meth c s₁ B hml hv
  obtain ⟨rfl, hI, hK, hRO, hb⟩ := hv
  have hts : ∀ w ∈ gB, w.before (gcs E as).toArray s = true := fun w hw => atoms_spec (ws := gWs F) B.pre w (List.mem_cons_of_mem _ hw)
  have hown : s.vm.findClass F.1.cls = some m.cls := findClass_of_methodNamed B.named
  have hnm : meth.name = F.1.name := (name_of_methodNamed B.named B.method).1
  have hlocks := B.notSynchronized
  have hl := lv_entry (gcs E as) (n := F.2.2.1) (by rw [gEnt_len]; exact hlen)
  rw [lg_entry_eq]
  generalize (lg_sl (gcs E as) ++ List.replicate (F.2.2.1 - (lg_sl (gcs E as)).length) Slot.unset).toArray = ls at hl ⊢
  have hLs : gLs E ls F.2.2.1 L := by
    refine ⟨hl.1, hl.2.1, fun i v hi hv => ?_⟩
    subst hL
    by_cases hlt : i < (gEnt as).length
    · rw [List.getElem?_append_left hlt] at hi
      have := gEnt_args E as 0 i v hi hv
      rw [Nat.zero_add] at this
      exact hl.2.2 _ this
    · rw [List.getElem?_append_right (by omega), List.getElem?_replicate] at hi
      split at hi
      · cases hi; exact absurd rfl hv
      · cases hi
  have hm := gsl_mono hle
  refine h p l e _ s m _ below meth c _ ⟨B.exec, B.bytes, hml, hown, hts, hK, hRO, hb, Nat.le_refl _, Nat.le_refl _, hnm⟩ σ.1 (by show nE ≤ nE - σ.1 + σ.1; omega) (by show gsl nE ≤ gsl nE - gsl σ.1 + gsl σ.1; omega) ?_ s.heap [] 0 0 ls ⟨hI, va_S.rf, hLs, by omega, by omega, hle⟩
  intro pc' L' st' σ' H' locs' cells' slots' ls' hk g
  obtain ⟨hn, hk⟩ := hk
  have g4 := g.2.2.2.1
  have g5 := g.2.2.2.2.1
  rw [hn] at g4 g5
  refine W.widen (k := nE - σ.1) (n := gsl nE - gsl σ.1) (by omega) (by omega) ?_
  rcases hk with ⟨hd, v, ty, rfl, hr, hnar, hq⟩ | ⟨hd, rfl, hr, hq⟩ | ⟨hd, v, rfl, hr, hq⟩ | ⟨hd, r, nm, rfl, hr, hq⟩
  · exact W.zret (ty := ty) B.exec B.bytes (B.returns.trans hr) hnar (fun t ht hW => ⟨some (.int v), σ', hq, hn, rfl, by rw [ht]; exact g.1, g.2.1.F ht⟩) g.2.1.2.2 hd
  · exact W.vret B.exec B.bytes (B.returns.trans hr) (fun t ht hW => ⟨none, σ', hq, hn, rfl, by rw [ht]; exact g.1, g.2.1.F ht⟩) g.2.1.2.2 hd
  · exact W.lret B.exec B.bytes (B.returns.trans hr) (fun t ht hW => ⟨some (.long v), σ', hq, hn, rfl, by rw [ht]; exact g.1, g.2.1.F ht⟩) g.2.1.2.2 hd
  · refine W.aret (v := gcv E (.ref r)) B.exec B.bytes (B.returns.trans hr) (Or.inl ⟨nm, rfl⟩) ?_ (fun t ht hW => ⟨some (.ref r), σ', hq, hn, rfl, by rw [ht]; exact g.1, g.2.1.F ht⟩) g.2.1.2.2 hd
    show (if r < 1000 then Value.ref (E.1 + r) else va_rf (E.2.2.2.1 (r - 1000))) = .null ∨ ∃ a, (if r < 1000 then Value.ref (E.1 + r) else va_rf (E.2.2.2.1 (r - 1000))) = .ref a
    split
    · exact Or.inr ⟨_, rfl⟩
    · cases E.2.2.2.1 (r - 1000)
      · exact Or.inl rfl
      · exact Or.inr ⟨_, rfl⟩
theorem gPc_blind (E : gE) (as : List Value) (σ : gS) : FrameBlind (gPc E as σ) := by
  intro a U g mk ⟨h1, h2, h3, h4, h5⟩
  exact ⟨h1, h2, va_K.moved (u := U) (U := U.calling g mk a) (Vm.Alike.refl U.vm) h3, gRO.to (s := U) (U := U.calling g mk a) (fun _ _ _ _ h => vk_R.same (u := U) rfl h) (fun w hw h => by
    have : w.onTables = true := by
      have key : ∀ w ∈ gNst, w.onTables = true := by decide +kernel
      exact key w hw
    exact va_Nw.same (u := U) this rfl h) (Vm.Alike.refl U.vm) (fun _ _ _ => rfl) h4, h5⟩
/-- a method that may be called: its code among the words, its class begun, its parameters counted -/
def gMi (F : gF) (n : Nat) : Prop := Cond.code F.1 F.2.1 F.2.2.1 F.2.2.2.1 ∈ gB ∧ Cond.initialized F.1.cls ∈ gB ∧ F.1.cls ≠ "java/lang/invoke/MethodHandle" ∧ F.1.cls ≠ "java/lang/invoke/VarHandle" ∧ (parseMethodDescriptor F.1.desc).map (fun d => d.parameters.length) = some n
theorem gGood {F : gF} (h : Cond.code F.1 F.2.1 F.2.2.1 F.2.2.2.1 ∈ gB) : GoodIn gB (gWs F) := by
  intro w hw
  rcases List.mem_cons.mp hw with rfl | hw
  · exact ⟨h, good_of_word (gB_good h)⟩
  · exact ⟨hw, good_of_word (gB_good hw)⟩
theorem gGoodC {F : gF} {ws : List Cond} (h : Cond.code F.1 F.2.1 F.2.2.1 F.2.2.2.1 ∈ gB) (hs : ∀ w ∈ ws, w ∈ gB) : GoodIn gB (ws ++ gWs F) := by
  intro w hw
  rcases List.mem_append.mp hw with hw | hw
  · exact ⟨hs w hw, good_of_word (gB_good (hs w hw))⟩
  · exact gGood h w hw
section GCALL
variable {E : gE} {F : gF} {nE pc : Nat} {L st : List Value} {σ : gS} {K : gK}
theorem gPre {p : Program} {R : Room} {s : State} {m : MethodId} {args : Array Value} {meth : Method} {c : Code} {n0 : Nat} {H : Heap} {locs : List Loc} {cells slots : Nat} {ls : Array Slot} (C : gC E F p R s m args meth c) (g : gR E F nE n0 s L σ H locs cells slots ls) (as : List Value) : ∀ U : State, U.heap = H → s.WarmedH U.vm → gPc E as σ (gcs E as).toArray U := by
  intro U hU hW
  refine ⟨rfl, by rw [hU]; exact g.1, va_K.moved hW.alike C.2.2.2.2.2.1, ?_, by rw [hU]; exact Nat.le_trans C.2.2.2.2.2.2.2.1 g.2.1.1⟩
  rw [hU]
  refine gRO.to (fun _ _ _ _ h => vk_R.warm hW h) (fun w hw h => ?_) hW.alike g.2.1.2.1 C.2.2.2.2.2.2.1
  simp only [gNst, List.mem_cons, List.not_mem_nil, or_false] at hw
  rcases hw with rfl | rfl | rfl | rfl | rfl | rfl
  · exact va_Nw.warmM hW h
  · exact va_Nw.warmF hW h
  · exact va_Nw.warmM hW h
  · exact va_Nw.warmF hW h
  · exact va_Nw.warmF hW h
  · exact va_Nw.warmF hW h
/-- behind any call -/
theorem gBack {nc : Nat} {Q : Option Value → gS → Prop} {p : Program} {l : Launch} {e : Env} {R : Room} {s : State} {m : MethodId} {args : Array Value} {below : List Frame} {meth : Method} {c : Code} {Q0 : State → Prop} {n0 : Nat} {H : Heap} {locs : List Loc} {cells slots : Nat} {ls : Array Slot} {a : Array Value} {S : List Value}
    (C : gC E F p R s m args meth c) (r1 : nE ≤ R.cells + n0) (r2 : gsl nE ≤ R.slots + gsl n0) (k2 : ∀ (pc' : Nat) (L' st' : List Value) (σ' : gS) (H' : Heap) (locs' : List Loc) (cells' slots' : Nat) (ls' : Array Slot), K pc' L' st' σ' → gR E F nE n0 s L' σ' H' locs' cells' slots' ls' → W p l e R s m args below meth c H' locs' cells' slots' Q0 (F0 m pc' ls' (gcs E st')))
    (g : gR E F nE n0 s L σ H locs cells slots ls) (hle : σ.1 ≤ nc) (hnc : nc ≤ nE) (hr : va_Run p l e R s m args below meth c H locs cells slots (nc - σ.1) (gsl nc - gsl σ.1) (F0 m pc ls S) (gcs E st) (gQc E nc Q a) (gA E))
    (kk : ∀ r σ', Q r σ' → σ'.1 = nc → Wp E F nE (pc + 3) L (r.toList ++ st) σ' K) : W p l e R s m args below meth c H locs cells slots Q0 (F0 m pc ls S) := by
  intro T hT X
  obtain ⟨v, st₀, t, T', Lc, h0, X', hL, e1, e2, ⟨r, σ', hq, hn, hv, hI, hz, hk⟩, go⟩ := hr T hT X
  have hv2 : v = r.map (gcv E) := by cases hv; rfl
  subst hv2
  rw [h0] at hz hk
  have h4 := g.2.2.2.1
  have h5 := g.2.2.2.2.1
  have hm := gsl_mono hle
  have := kk r σ' hq hn p l e R s m args below meth c Q0 C n0 r1 r2 k2 t.heap (locs ++ Lc) (cells + (nc - σ.1)) (slots + (gsl nc - gsl σ.1)) ls
    ⟨hI, ⟨Nat.le_trans g.2.1.1 hz, fun q h1 h2 => by rw [hk q (Nat.lt_of_lt_of_le h1 g.2.1.1) h2]; exact g.2.1.2.1 q h1 h2, fun q hq => by
      rcases List.mem_append.mp hq with h | h
      · exact g.2.1.2.2 q h
      · exact hL q h⟩, g.2.2.1, by omega, by rw [hn]; omega, by omega⟩
  obtain ⟨t2, a1, b1⟩ := this T' e1 X'
  refine ⟨t2, go t2 ?_, b1⟩
  have : (r.map (gcv E)).toList ++ gcs E st = gcs E (r.toList ++ st) := by cases r <;> rfl
  rw [this]
  exact a1
/-- invokestatic -/
theorem g_callS {Fc : gF} {n nc index t : Nat} {as S : List Value} {Q : Option Value → gS → Prop} (hm : gMi Fc n) (hw1 : Cond.methodLink F.1.cls index Fc.1 ∈ gB) (hw2 : Cond.static Fc.1 ∈ gB) (he : gEv E Fc nc as σ Q) (hn : as.length = n) (hS : S = as.reverse ++ st) (hnc : nc ≤ nE) (hfr : Fc.2.2.2.2.1 + 1 ≤ F.2.2.2.2.1) (hlo : 8 + (Fc.2.2.1 + 11) + Fc.2.2.2.2.2 ≤ F.2.2.2.2.2) (hst : (st.map fun v => v.category).sum ≤ 8) (d : decode F.2.1 pc = .ok (.invokestatic index, 3)) (e : pc + 3 = t) (kk : ∀ r σ', Q r σ' → σ'.1 = nc → Wp E F nE t L (r.toList ++ st) σ' K) : Wp E F nE pc L S σ K := by
  subst e
  subst hS
  intro p l e R s m args below meth c Q0 C n0 r1 r2 k2 H locs cells slots ls g
  obtain ⟨m1, m2, m3, m4, m5⟩ := hm
  have h4 := g.2.2.2.1
  have h5 := g.2.2.2.2.1
  have hmo := gsl_mono he.1
  have hmo2 := gsl_mono hnc
  have hx := he.1
  refine gBack C r1 r2 k2 g he.1 hnc (va_runS (Ts := gB) (As := gcs E as) (rest := gcs E st) ⟨C.1, C.2.1, C.2.2.1, C.2.2.2.1, C.2.2.2.2.1⟩ (he.2 l) (va_cwS n C.2.2.2.2.1 (gGoodC m1 ?_) rfl rfl rfl ⟨m3, m4, m5⟩ ⟨?_, ?_⟩) ⟨gPc_blind E as σ, gPre C g as⟩ rfl (by rw [List.length_map]; exact hn) g.2.2.1.1 ?_ (lv_room (by rw [gcs_cat]; exact hst)) d ⟨by omega, by omega⟩) kk
  · intro w hw
    simp only [List.mem_cons, List.not_mem_nil, or_false] at hw
    rcases hw with rfl | rfl | rfl
    · exact hw1
    · exact hw2
    · exact m2
  · exact Nat.le_trans hfr C.2.2.2.2.2.2.2.2.1
  · exact Nat.le_trans hlo C.2.2.2.2.2.2.2.2.2.1
  · show gcs E (as.reverse ++ st) = _
    simp [gcs, List.map_append, List.map_reverse]
theorem gRecv {o ci : Nat} {Cn : String} {T : u_T} {N : Nat} {p : Program} {R : Room} {s : State} {m : MethodId} {args : Array Value} {meth : Method} {c : Code} {n0 : Nat} {H : Heap} {locs : List Loc} {cells slots : Nat} {ls : Array Slot} (C : gC E F p R s m args meth c) (g : gR E F nE n0 s L σ H locs cells slots ls) (ho : o < σ.1) (hsh : gsh o = .inl ci) (hcl : vwCl[ci]? = some (Cn, T, N)) : ∃ cell : Cell, H[E.1 + o]? = some cell ∧ cell.vm.isStatics = false ∧ s.vm.findClass Cn = some cell.cls :=
  va_recv C.2.2.2.2.2.1 (g.1.obj ho hsh) (ci := ci) (q0 := 0) hcl rfl
/-- invokevirtual of a method of the receiver's own class -/
theorem g_callV {Fc : gF} {n nc index t o ci : Nat} {T : u_T} {N : Nat} {as S : List Value} {Q : Option Value → gS → Prop} (hm : gMi Fc n) (hw1 : Cond.methodLink F.1.cls index Fc.1 ∈ gB) (hw2 : Cond.instanceMethod Fc.1 ∈ gB) (hw3 : Cond.selects Fc.1.cls Fc.1 Fc.1 ∈ gB) (ho : o < σ.1) (h9 : o < 1000) (hsh : gsh o = .inl ci) (hcl : vwCl[ci]? = some (Fc.1.cls, T, N)) (he : gEv E Fc nc (.ref o :: as) σ Q) (hn : as.length = n) (hS : S = as.reverse ++ .ref o :: st) (hnc : nc ≤ nE) (hfr : Fc.2.2.2.2.1 + 1 ≤ F.2.2.2.2.1) (hlo : 8 + (Fc.2.2.1 + 11) + Fc.2.2.2.2.2 ≤ F.2.2.2.2.2) (hst : (st.map fun v => v.category).sum ≤ 8) (d : decode F.2.1 pc = .ok (.invokevirtual index, 3)) (e : pc + 3 = t) (kk : ∀ r σ', Q r σ' → σ'.1 = nc → Wp E F nE t L (r.toList ++ st) σ' K) : Wp E F nE pc L S σ K := by
  subst e
  subst hS
  intro p l e R s m args below meth c Q0 C n0 r1 r2 k2 H locs cells slots ls g
  obtain ⟨m1, m2, m3, m4, m5⟩ := hm
  have h4 := g.2.2.2.1
  have h5 := g.2.2.2.2.1
  have hmo := gsl_mono he.1
  have hmo2 := gsl_mono hnc
  have hx := he.1
  have hrv := gRecv C g ho hsh hcl
  refine gBack C r1 r2 k2 g he.1 hnc (va_runV (Ts := gB) (C := Fc.1.cls) (b := E.1 + o) (As := gcs E as) (rest := gcs E st) ⟨C.1, C.2.1, C.2.2.1, C.2.2.2.1, C.2.2.2.2.1⟩ (he.2 l) (cwV n C.2.2.2.2.1 (gGoodC m1 ?_) rfl rfl rfl ⟨rfl, m3, m4, m5⟩ ⟨?_, ?_⟩) ⟨gPc_blind E _ σ, hrv, ?_⟩ rfl (by rw [List.length_map]; exact hn) g.2.2.1.1 ?_ (lv_room (by rw [gcs_cat]; exact hst)) d ⟨by omega, by omega⟩) kk
  · intro w hw
    simp only [List.mem_cons, List.not_mem_nil, or_false] at hw
    rcases hw with rfl | rfl | rfl | rfl
    · exact hw1
    · exact hw2
    · exact hw3
    · exact m2
  · exact Nat.le_trans hfr C.2.2.2.2.2.2.2.2.1
  · exact Nat.le_trans hlo C.2.2.2.2.2.2.2.2.2.1
  · have := gPre C g (.ref o :: as)
    rw [show gcs E (.ref o :: as) = gcv E (.ref o) :: gcs E as from rfl, gcv_ref h9] at this
    exact this
  · show gcs E (as.reverse ++ .ref o :: st) = _
    rw [show gcs E (as.reverse ++ .ref o :: st) = gcs E as.reverse ++ (gcv E (.ref o) :: gcs E st) by simp [gcs, List.map_append], gcv_ref h9]
    simp [gcs, List.map_reverse]
/-- .. of a String constant -/
theorem g_callVS {Fc : gF} {n nc index t r i : Nat} {q : Nat × String × List Int32} {as S : List Value} {Q : Option Value → gS → Prop} (hm : gMi Fc n) (hw1 : Cond.methodLink F.1.cls index Fc.1 ∈ gB) (hw2 : Cond.instanceMethod Fc.1 ∈ gB) (hw3 : Cond.selects Fc.1.cls Fc.1 Fc.1 ∈ gB) (hi : gtx[i]? = some q) (hr : r = 1010 + i) (hcl : Fc.1.cls = "java/lang/String") (he : gEv E Fc nc (.ref r :: as) σ Q) (hn : as.length = n) (hS : S = as.reverse ++ .ref r :: st) (hnc : nc ≤ nE) (hfr : Fc.2.2.2.2.1 + 1 ≤ F.2.2.2.2.1) (hlo : 8 + (Fc.2.2.1 + 11) + Fc.2.2.2.2.2 ≤ F.2.2.2.2.2) (hst : (st.map fun v => v.category).sum ≤ 8) (d : decode F.2.1 pc = .ok (.invokevirtual index, 3)) (e : pc + 3 = t) (kk : ∀ r σ', Q r σ' → σ'.1 = nc → Wp E F nE t L (r.toList ++ st) σ' K) : Wp E F nE pc L S σ K := by
  subst e
  subst hS
  intro p l e R s m args below meth c Q0 C n0 r1 r2 k2 H locs cells slots ls g
  obtain ⟨m1, m2, m3, m4, m5⟩ := hm
  have h4 := g.2.2.2.1
  have h5 := g.2.2.2.2.1
  have hmo := gsl_mono he.1
  have hmo2 := gsl_mono hnc
  have hx := he.1
  obtain ⟨adK, adV, z1, z2⟩ := C.2.2.2.2.2.2.1.2.2.1
  obtain ⟨z3, -, -⟩ := z2 i q hi
  have hlt : i < gtx.length := (List.getElem?_eq_some_iff.mp hi).1
  have hrv : ∃ cell : Cell, H[adK i]? = some cell ∧ cell.vm.isStatics = false ∧ s.vm.findClass Fc.1.cls = some cell.cls := by
    rw [hcl]
    exact vk_recv z1 hlt g.2.1
  have hcv : gcv E (.ref r) = .ref (adK i) := gcv_ro (by omega) (by rw [hr, show 1010 + i - 1000 = 10 + i by omega]; exact z3)
  refine gBack C r1 r2 k2 g he.1 hnc (va_runV (Ts := gB) (C := Fc.1.cls) (b := adK i) (As := gcs E as) (rest := gcs E st) ⟨C.1, C.2.1, C.2.2.1, C.2.2.2.1, C.2.2.2.2.1⟩ (he.2 l) (cwV n C.2.2.2.2.1 (gGoodC m1 ?_) rfl rfl rfl ⟨rfl, m3, m4, m5⟩ ⟨?_, ?_⟩) ⟨gPc_blind E _ σ, hrv, ?_⟩ rfl (by rw [List.length_map]; exact hn) g.2.2.1.1 ?_ (lv_room (by rw [gcs_cat]; exact hst)) d ⟨by omega, by omega⟩) kk
  · intro w hw
    simp only [List.mem_cons, List.not_mem_nil, or_false] at hw
    rcases hw with rfl | rfl | rfl | rfl
    · exact hw1
    · exact hw2
    · exact hw3
    · exact m2
  · exact Nat.le_trans hfr C.2.2.2.2.2.2.2.2.1
  · exact Nat.le_trans hlo C.2.2.2.2.2.2.2.2.2.1
  · have := gPre C g (.ref r :: as)
    rw [show gcs E (.ref r :: as) = gcv E (.ref r) :: gcs E as from rfl, hcv] at this
    exact this
  · show gcs E (as.reverse ++ .ref r :: st) = _
    rw [show gcs E (as.reverse ++ .ref r :: st) = gcs E as.reverse ++ (gcv E (.ref r) :: gcs E st) by simp [gcs, List.map_append], hcv]
    simp [gcs, List.map_reverse]
/-- invokespecial of a constructor -/
theorem g_callI {Fc : gF} {n nc index t o : Nat} {as S : List Value} {Q : Option Value → gS → Prop} (hm : gMi Fc n) (hret : Fc.2.2.2.1 = none) (hw1 : Cond.methodLink F.1.cls index Fc.1 ∈ gB) (hw2 : Cond.instanceMethod Fc.1 ∈ gB) (hnm : Fc.1.name = "<init>") (h9 : o < 1000) (he : gEv E Fc nc (.ref o :: as) σ Q) (hn : as.length = n) (hS : S = as.reverse ++ .ref o :: st) (hnc : nc ≤ nE) (hfr : Fc.2.2.2.2.1 + 1 ≤ F.2.2.2.2.1) (hlo : 8 + (Fc.2.2.1 + 11) + Fc.2.2.2.2.2 ≤ F.2.2.2.2.2) (hst : (st.map fun v => v.category).sum ≤ 8) (d : decode F.2.1 pc = .ok (.invokespecial index, 3)) (e : pc + 3 = t) (kk : ∀ r σ', Q r σ' → σ'.1 = nc → Wp E F nE t L (r.toList ++ st) σ' K) : Wp E F nE pc L S σ K := by
  subst e
  subst hS
  intro p l e R s m args below meth c Q0 C n0 r1 r2 k2 H locs cells slots ls g
  obtain ⟨m1, m2, m3, m4, m5⟩ := hm
  have h4 := g.2.2.2.1
  have h5 := g.2.2.2.2.1
  have hmo := gsl_mono he.1
  have hmo2 := gsl_mono hnc
  have hx := he.1
  refine gBack C r1 r2 k2 g he.1 hnc (va_runI (Ts := gB) (b := E.1 + o) (As := gcs E as) (rest := gcs E st) ⟨C.1, C.2.1, C.2.2.1, C.2.2.2.1, C.2.2.2.2.1⟩ (he.2 l) (cwI n C.2.2.2.2.1 (gGood m1) (by unfold gWs; rw [hret]) rfl rfl (C.2.2.2.2.1 _ m2) (C.2.2.2.2.1 _ hw1) (C.2.2.2.2.1 _ hw2) hnm ⟨m3, m4, m5⟩ ⟨?_, ?_⟩) ⟨gPc_blind E _ σ, ?_⟩ rfl (by rw [List.length_map]; exact hn) g.2.2.1.1 ?_ (lv_room (by rw [gcs_cat]; exact hst)) d ⟨by omega, by omega⟩) kk
  · exact Nat.le_trans hfr C.2.2.2.2.2.2.2.2.1
  · exact Nat.le_trans hlo C.2.2.2.2.2.2.2.2.2.1
  · have := gPre C g (.ref o :: as)
    rw [show gcs E (.ref o :: as) = gcv E (.ref o) :: gcs E as from rfl, gcv_ref h9] at this
    exact this
  · show gcs E (as.reverse ++ .ref o :: st) = _
    rw [show gcs E (as.reverse ++ .ref o :: st) = gcs E as.reverse ++ (gcv E (.ref o) :: gcs E st) by simp [gcs, List.map_append], gcv_ref h9]
    simp [gcs, List.map_reverse]
/-- .. of a nest mate's private one -/
theorem g_callIN {Fc : gF} {n nc index t o : Nat} {as S : List Value} {Q : Option Value → gS → Prop} (hm : gMi Fc n) (hret : Fc.2.2.2.1 = none) (hw1 : Cond.methodLinkNest F.1.cls index Fc.1 "FlexRows" ∈ gNst) (hw2 : Cond.instanceMethod Fc.1 ∈ gB) (hnm : Fc.1.name = "<init>") (h9 : o < 1000) (he : gEv E Fc nc (.ref o :: as) σ Q) (hn : as.length = n) (hS : S = as.reverse ++ .ref o :: st) (hnc : nc ≤ nE) (hfr : Fc.2.2.2.2.1 + 1 ≤ F.2.2.2.2.1) (hlo : 8 + (Fc.2.2.1 + 11) + Fc.2.2.2.2.2 ≤ F.2.2.2.2.2) (hst : (st.map fun v => v.category).sum ≤ 8) (d : decode F.2.1 pc = .ok (.invokespecial index, 3)) (e : pc + 3 = t) (kk : ∀ r σ', Q r σ' → σ'.1 = nc → Wp E F nE t L (r.toList ++ st) σ' K) : Wp E F nE pc L S σ K := by
  subst e
  subst hS
  intro p l e R s m args below meth c Q0 C n0 r1 r2 k2 H locs cells slots ls g
  obtain ⟨m1, m2, m3, m4, m5⟩ := hm
  have h4 := g.2.2.2.1
  have h5 := g.2.2.2.2.1
  have hmo := gsl_mono he.1
  have hmo2 := gsl_mono hnc
  have hx := he.1
  refine gBack C r1 r2 k2 g he.1 hnc (va_runIN (Ts := gB) (b := E.1 + o) (As := gcs E as) (rest := gcs E st) ⟨C.1, C.2.1, C.2.2.1, C.2.2.2.1, C.2.2.2.2.1⟩ (he.2 l) ⟨va_cnB (ret := none) n C.2.2.2.2.1 (gGood m1) (by unfold gWs; rw [hret]) rfl rfl (C.2.2.2.2.2.2.1.2.2.2.1 _ hw1) (C.2.2.2.2.1 _ m2) ⟨m3, m4, m5⟩ ⟨?_, ?_⟩, hnm, C.2.2.2.2.1 _ hw2⟩ ⟨gPc_blind E _ σ, ?_⟩ rfl (by rw [List.length_map]; exact hn) g.2.2.1.1 ?_ (lv_room (by rw [gcs_cat]; exact hst)) d ⟨by omega, by omega⟩) kk
  · exact Nat.le_trans hfr C.2.2.2.2.2.2.2.2.1
  · exact Nat.le_trans hlo C.2.2.2.2.2.2.2.2.2.1
  · have := gPre C g (.ref o :: as)
    rw [show gcs E (.ref o :: as) = gcv E (.ref o) :: gcs E as from rfl, gcv_ref h9] at this
    exact this
  · show gcs E (as.reverse ++ .ref o :: st) = _
    rw [show gcs E (as.reverse ++ .ref o :: st) = gcs E as.reverse ++ (gcv E (.ref o) :: gcs E st) by simp [gcs, List.map_append], gcv_ref h9]
    simp [gcs, List.map_reverse]
/-- Object.<init> -/
theorem g_objInit {index t o : Nat} (h9 : o < 1000) (hw1 : Cond.methodLink F.1.cls index Lib.objectInit ∈ gB) (hw2 : Cond.instanceMethod Lib.objectInit ∈ gB) (hw3 : Cond.code Lib.objectInit ⟨#[0xb1]⟩ 1 none ∈ gB) (hfr : 1 ≤ F.2.2.2.2.1) (hlo : 20 ≤ F.2.2.2.2.2) (hst : (st.map fun v => v.category).sum ≤ 8) (d : decode F.2.1 pc = .ok (.invokespecial index, 3)) (e : pc + 3 = t) (kk : Wp E F nE t L st σ K) : Wp E F nE pc L (.ref o :: st) σ K := by
  subst e
  intro p l e R s m args below meth c Q C n0 r1 r2 k2 H locs cells slots ls g
  rw [show gcs E (.ref o :: st) = gcv E (.ref o) :: gcs E st from rfl, gcv_ref h9]
  refine W.objInit C.1 C.2.1 C.2.2.2.1 (C.2.2.2.2.1 _ hw1) (C.2.2.2.2.1 _ hw2) (C.2.2.2.2.1 _ hw3) rfl (g.2.2.1.1.trans C.2.2.1.symm) rfl d (Nat.le_trans hfr C.2.2.2.2.2.2.2.2.1) ?_ (kk p l e R s m args below meth c Q C n0 r1 r2 k2 H locs cells slots ls g)
  have h1 := C.2.2.2.2.2.2.2.2.2.1
  rw [gcs_cat]
  show 2 * 0 + _ + 12 ≤ _
  omega
theorem g_max {index t : Nat} {x y : Int32} (hw1 : Cond.methodLink F.1.cls index Lib.Math.max.name ∈ gB) (hw2 : Cond.static Lib.Math.max.name ∈ gB) (hw3 : Cond.initialized "java/lang/Math" ∈ gB) (hw4 : Cond.code Lib.Math.max.name Lib.Math.max.code 2 (some .int) ∈ gB) (hfr : 1 ≤ F.2.2.2.2.1) (hlo : 21 ≤ F.2.2.2.2.2) (hst : (st.map fun v => v.category).sum ≤ 8) (d : decode F.2.1 pc = .ok (.invokestatic index, 3)) (e : pc + 3 = t) (kk : Wp E F nE t L (.int (if x < y then y else x) :: st) σ K) : Wp E F nE pc L (.int y :: .int x :: st) σ K := by
  subst e
  intro p l e R s m args below meth c Q C n0 r1 r2 k2 H locs cells slots ls g
  have h1 := C.2.2.2.2.2.2.2.2.2.1
  have h4 := g.2.2.2.1
  have h5 := g.2.2.2.2.1
  have h6 := g.2.2.2.2.2
  have h7 := gsl_mono h6
  refine va_mmax C.1 C.2.1 (C.2.2.1.trans g.2.2.1.1.symm) C.2.2.2.1 (C.2.2.2.2.1 _ hw1) (C.2.2.2.2.1 _ hw2) (C.2.2.2.2.1 _ hw3) (C.2.2.2.2.1 _ hw4) (Nat.le_trans hfr C.2.2.2.2.2.2.2.2.1) ?_ (by omega) (by omega) d (kk p l e R s m args below meth c Q C n0 r1 r2 k2 H locs cells slots ls g)
  show ((gcs E st).map fun v => v.category).sum + 13 ≤ _
  rw [gcs_cat]
  omega
theorem g_min {index t : Nat} {x y : Int32} (hw1 : Cond.methodLink F.1.cls index Lib.Math.min.name ∈ gB) (hw2 : Cond.static Lib.Math.min.name ∈ gB) (hw3 : Cond.initialized "java/lang/Math" ∈ gB) (hw4 : Cond.code Lib.Math.min.name Lib.Math.min.code 2 (some .int) ∈ gB) (hfr : 1 ≤ F.2.2.2.2.1) (hlo : 21 ≤ F.2.2.2.2.2) (hst : (st.map fun v => v.category).sum ≤ 8) (d : decode F.2.1 pc = .ok (.invokestatic index, 3)) (e : pc + 3 = t) (kk : Wp E F nE t L (.int (if y < x then y else x) :: st) σ K) : Wp E F nE pc L (.int y :: .int x :: st) σ K := by
  subst e
  intro p l e R s m args below meth c Q C n0 r1 r2 k2 H locs cells slots ls g
  have h1 := C.2.2.2.2.2.2.2.2.2.1
  have h4 := g.2.2.2.1
  have h5 := g.2.2.2.2.1
  have h6 := g.2.2.2.2.2
  have h7 := gsl_mono h6
  refine va_mmin C.1 C.2.1 (C.2.2.1.trans g.2.2.1.1.symm) C.2.2.2.1 (C.2.2.2.2.1 _ hw1) (C.2.2.2.2.1 _ hw2) (C.2.2.2.2.1 _ hw3) (C.2.2.2.2.1 _ hw4) (Nat.le_trans hfr C.2.2.2.2.2.2.2.2.1) ?_ (by omega) (by omega) d (kk p l e R s m args below meth c Q C n0 r1 r2 k2 H locs cells slots ls g)
  show ((gcs E st).map fun v => v.category).sum + 13 ≤ _
  rw [gcs_cat]
  omega
/-- System.arraycopy of ints into a cell of the world -/
def gcopy (σ : gS) (b : Nat) (f : Nat → Int32) (sp dp n : Nat) : gS := (σ.1, (fun o => if o = b then va_cpy f (σ.2.1 b) sp dp n else σ.2.1 o), σ.2.2.1, σ.2.2.2)
theorem gcopyCore {index b n0 n1 : Nat} {v0 : Value} {a0 : Nat} {cs : Cell} {f : Nat → Int32} {sp dp n : Int32} {p : Program} {l : Launch} {e : Env} {R : Room} {s : State} {m : MethodId} {args : Array Value} {below : List Frame} {meth : Method} {c : Code} {Q : State → Prop} {n9 : Nat} {H : Heap} {locs : List Loc} {cells slots : Nat} {ls : Array Slot}
    (C : gC E F p R s m args meth c) (g : gR E F nE n9 s L σ H locs cells slots ls) (hw1 : Cond.methodLink F.1.cls index arraycopyName ∈ gB) (hw2 : Cond.native arraycopyName ∈ gB) (hw3 : Cond.static arraycopyName ∈ gB) (hw4 : Cond.initialized "java/lang/System" ∈ gB) (hv0 : gcv E v0 = .ref a0) (hc0 : H[a0]? = some cs) (hof : s.isArrayOf cs .int) (hkn : cs.vm ≠ .unknown) (hsz : n0 ≤ cs.slots.size) (hval : ∀ j, j < n0 → cs.slots[j]? = some (.int (f j))) (hb : b < σ.1) (h9 : b < 1000) (hsh : gsh b = .inr (0, n1)) (h1 : ¬ sp < 0) (h2 : ¬ dp < 0) (h3 : ¬ n < 0) (h4 : sp.toNatClampNeg + n.toNatClampNeg ≤ n0) (h5 : dp.toNatClampNeg + n.toNatClampNeg ≤ n1) (hfr : 1 ≤ F.2.2.2.2.1) (hlo : 8 + (nativeFrameWords "java/lang/System" "arraycopy" 5 + 11) ≤ F.2.2.2.2.2) (hst : (st.map fun v => v.category).sum ≤ 8) (d : decode F.2.1 pc = .ok (.invokestatic index, 3))
    (kk : ∀ (H1 : Heap) (locs1 : List Loc), gR E F nE n9 s L (gcopy σ b f sp.toNatClampNeg dp.toNatClampNeg n.toNatClampNeg) H1 locs1 cells slots ls → W p l e R s m args below meth c H1 locs1 cells slots Q (F0 m (pc + 3) ls (gcs E st))) : W p l e R s m args below meth c H locs cells slots Q (F0 m pc ls (gcs E (.int n :: .int dp :: .ref b :: .int sp :: v0 :: st))) := by
  have nn : ∀ z : Int32, ¬ z < 0 → z.toInt = (z.toNatClampNeg : Int) := by
    intro z hz
    have hz0 : (0 : Int) ≤ z.toInt := by
      have := Int32.not_lt.mp hz
      simpa using Int32.le_iff_toInt_le.mp this
    show z.toInt = ((z.toInt.toNat : Nat) : Int)
    omega
  rw [show gcs E (.int n :: .int dp :: .ref b :: .int sp :: v0 :: st) = .int n :: .int dp :: gcv E (.ref b) :: .int sp :: gcv E v0 :: gcs E st from rfl, gcv_ref h9, hv0]
  intro T hT X
  have hc1 : H[E.1 + b]? = some (arrV (E.2.2.1 0) n1 (fun j => .int (σ.2.1 b j))) := g.1.arr hb hsh 0 _ rfl
  obtain ⟨hs6, k0, hk0, cm0, hkk0⟩ := hof
  obtain ⟨-, k1, hk1, cm1, hkk1⟩ := (C.2.2.2.2.2.1.2 0 _ rfl).1 n1 (fun j => .int (σ.2.1 b j))
  have hts := C.2.2.2.2.1
  have hlo2 := C.2.2.2.2.2.2.2.2.2.1
  obtain ⟨vm', X', step⟩ := X.arraycopy C.1 C.2.2.2.1 (hts _ hw1) (hts _ hw2) (hts _ hw3) (hts _ hw4) (src := a0) (dst := E.1 + b) (cs := cs) (cd := arrV (E.2.2.1 0) n1 (fun j => .int (σ.2.1 b j))) (srcPos := sp) (destPos := dp) (n := n) (by rw [hT]; exact hc0) (by rw [hT]; exact hc1)
    hs6 (fun _ h => by cases h) hkn (fun h => by cases h) hk0 hk1 hkk0 hkk1 (by simp [refKind]) h1 h2 h3
    (by rw [nn sp h1, nn n h3]; omega)
    (by rw [nn dp h2, nn n h3, arrV_size]; omega)
    (fun vm₁ _ i hi => by
      have e : cs.slots.getD (sp.toNatClampNeg + i) .null = .int (f (sp.toNatClampNeg + i)) := by
        rw [Array.getD_eq_getD_getElem?, hval _ (by omega)]
        rfl
      refine ⟨?_, ?_⟩
      · rw [e]
        rfl
      · rw [e]
        exact trivial)
    (g := F0 m pc ls (.int n :: .int dp :: .ref (E.1 + b) :: .int sp :: .ref a0 :: gcs E st)) rfl (g.2.2.1.1.trans C.2.2.1.symm) (rest := gcs E st) rfl (by rw [C.2.1]; exact d) (Nat.le_trans hfr C.2.2.2.2.2.2.2.2.1) (by rw [gcs_cat]; show 2 * 0 + _ + _ ≤ _; omega)
  have e1 : copied cs (arrV (E.2.2.1 0) n1 (fun j => .int (σ.2.1 b j))) sp dp n = arrV (E.2.2.1 0) n1 (fun j => .int (va_cpy f (σ.2.1 b) sp.toNatClampNeg dp.toNatClampNeg n.toNatClampNeg j)) := va_copiedX (fun z => .int z) cs (E.2.2.1 0) f (σ.2.1 b) hval h4
  rw [e1] at X' step
  have hl : E.1 + b < H.size := (Array.getElem?_eq_some_iff.mp hc1).1
  have hheap : ((T.setVm vm').setCell (E.1 + b) (arrV (E.2.2.1 0) n1 (fun j => .int (va_cpy f (σ.2.1 b) sp.toNatClampNeg dp.toNatClampNeg n.toNatClampNeg j)))).heap = H.setIfInBounds (E.1 + b) (arrV (E.2.2.1 0) n1 (fun j => .int (va_cpy f (σ.2.1 b) sp.toNatClampNeg dp.toNatClampNeg n.toNatClampNeg j))) := by rw [← hT]; rfl
  have oq : ∀ q : Nat, q ≠ E.1 + b → (H.setIfInBounds (E.1 + b) (arrV (E.2.2.1 0) n1 (fun j => .int (va_cpy f (σ.2.1 b) sp.toNatClampNeg dp.toNatClampNeg n.toNatClampNeg j))))[q]? = H[q]? := fun q hq => by simp [Array.getElem?_setIfInBounds, Ne.symm hq]
  obtain ⟨t, a1, b1⟩ := kk _ _ ⟨g.1.set (σ' := gcopy σ b f sp.toNatClampNeg dp.toNatClampNeg n.toNatClampNeg) rfl (by simp) oq (fun i hi => gct_same (by simp [gcopy, hi]) rfl rfl) (by
      rw [show gct E (gcopy σ b f sp.toNatClampNeg dp.toNatClampNeg n.toNatClampNeg) b = .inl (E.2.2.1 0, n1, .inl (va_cpy f (σ.2.1 b) sp.toNatClampNeg dp.toNatClampNeg n.toNatClampNeg)) by simp [gct, hsh, gcopy]]
      show (H.setIfInBounds (E.1 + b) (arrV (E.2.2.1 0) n1 (fun j => .int (va_cpy f (σ.2.1 b) sp.toNatClampNeg dp.toNatClampNeg n.toNatClampNeg j))))[E.1 + b]? = some (arrV (E.2.2.1 0) n1 (fun j => .int (va_cpy f (σ.2.1 b) sp.toNatClampNeg dp.toNatClampNeg n.toNatClampNeg j)))
      simp [Array.getElem?_setIfInBounds, hl]), ⟨by simp; exact g.2.1.1, fun q g1 g2 => by
        rw [oq q (fun e => g2 (by rw [e]; exact Nat.le_add_right _ _))]
        exact g.2.1.2.1 q g1 g2, fun q hq => by
        rcases List.mem_append.mp hq with h | h
        · exact g.2.1.2.2 q h
        · obtain ⟨z, -, hz⟩ := List.mem_map.mp h
          rw [← hz]
          exact Nat.le_add_right _ _⟩, g.2.2⟩ _ hheap X'
  exact ⟨t, step t a1, b1⟩
theorem g_copy {index a b n0 n1 t : Nat} {sp dp n : Int32} (hw1 : Cond.methodLink F.1.cls index arraycopyName ∈ gB) (hw2 : Cond.native arraycopyName ∈ gB) (hw3 : Cond.static arraycopyName ∈ gB) (hw4 : Cond.initialized "java/lang/System" ∈ gB) (ha : a < σ.1) (ha9 : a < 1000) (hsa : gsh a = .inr (0, n0)) (hb : b < σ.1) (h9 : b < 1000) (hsh : gsh b = .inr (0, n1)) (h1 : ¬ sp < 0) (h2 : ¬ dp < 0) (h3 : ¬ n < 0) (h4 : sp.toNatClampNeg + n.toNatClampNeg ≤ n0) (h5 : dp.toNatClampNeg + n.toNatClampNeg ≤ n1) (hfr : 1 ≤ F.2.2.2.2.1) (hlo : 8 + (nativeFrameWords "java/lang/System" "arraycopy" 5 + 11) ≤ F.2.2.2.2.2) (hst : (st.map fun v => v.category).sum ≤ 8) (d : decode F.2.1 pc = .ok (.invokestatic index, 3)) (e : pc + 3 = t)
    (kk : Wp E F nE t L st (gcopy σ b (σ.2.1 a) sp.toNatClampNeg dp.toNatClampNeg n.toNatClampNeg) K) : Wp E F nE pc L (.int n :: .int dp :: .ref b :: .int sp :: .ref a :: st) σ K := by
  subst e
  intro p l e R s m args below meth c Q C n9 r1 r2 k2 H locs cells slots ls g
  exact gcopyCore C g hw1 hw2 hw3 hw4 (gcv_ref ha9) (g.1.arr ha hsa 0 _ rfl) ((C.2.2.2.2.2.1.2 0 _ rfl).1 n0 (fun j => .int (σ.2.1 a j))) (fun h => by cases h) (Nat.le_of_eq (arrV_size _ _ _).symm) (fun j hj => arrV_read _ _ hj) hb h9 hsh h1 h2 h3 h4 h5 hfr hlo hst d (fun H1 locs1 g1 => kk p l e R s m args below meth c Q C n9 r1 r2 k2 H1 locs1 cells slots ls g1)
theorem g_copyT {index j r b n1 t : Nat} {q : String × List Int32} {sp dp n : Int32} (hw1 : Cond.methodLink F.1.cls index arraycopyName ∈ gB) (hw2 : Cond.native arraycopyName ∈ gB) (hw3 : Cond.static arraycopyName ∈ gB) (hw4 : Cond.initialized "java/lang/System" ∈ gB) (hj : gst[j]? = some q) (hr : r = 1001 + j) (hb : b < σ.1) (h9 : b < 1000) (hsh : gsh b = .inr (0, n1)) (h1 : ¬ sp < 0) (h2 : ¬ dp < 0) (h3 : ¬ n < 0) (h4 : sp.toNatClampNeg + n.toNatClampNeg ≤ q.2.length) (h5 : dp.toNatClampNeg + n.toNatClampNeg ≤ n1) (hfr : 1 ≤ F.2.2.2.2.1) (hlo : 8 + (nativeFrameWords "java/lang/System" "arraycopy" 5 + 11) ≤ F.2.2.2.2.2) (hst : (st.map fun v => v.category).sum ≤ 8) (d : decode F.2.1 pc = .ok (.invokestatic index, 3)) (e : pc + 3 = t)
    (kk : Wp E F nE t L st (gcopy σ b (fun k => q.2.getD k 0) sp.toNatClampNeg dp.toNatClampNeg n.toNatClampNeg) K) : Wp E F nE pc L (.int n :: .int dp :: .ref b :: .int sp :: .ref r :: st) σ K := by
  subst e
  subst hr
  intro p l e R s m args below meth c Q C n9 r1 r2 k2 H locs cells slots ls g
  obtain ⟨t, z1, ⟨cell, y1, y2, y3, y4, y5, y6, y7⟩, -⟩ := C.2.2.2.2.2.2.1.2.1 j q hj
  have hc0 : H[t]? = some cell := by rw [g.2.1.2.1 t (Array.getElem?_eq_some_iff.mp y1).1 y7]; exact y1
  exact gcopyCore C g hw1 hw2 hw3 hw4 (gcv_ro gro_i (by rw [gro_j]; exact z1)) hc0 y2 y3 y4 y6 hb h9 hsh h1 h2 h3 h4 h5 hfr hlo hst d (fun H1 locs1 g1 => kk p l e R s m args below meth c Q C n9 r1 r2 k2 H1 locs1 cells slots ls g1)
end GCALL
end
section
theorem gclw0 : ∀ w ∈ u_ws RX0 TX0 5, w ∈ gB := by
  intro w h
  obtain ⟨k, hk, rfl⟩ := List.mem_map.mp h
  have hk := List.mem_range.mp hk
  rcases (show k = 0 ∨ k = 1 ∨ k = 2 ∨ k = 3 ∨ k = 4 by omega) with rfl | rfl | rfl | rfl | rfl
  · exact gB_mem (k := 148) (by decide +kernel) (by decide +kernel)
  · exact gB_mem (k := 150) (by decide +kernel) (by decide +kernel)
  · exact gB_mem (k := 152) (by decide +kernel) (by decide +kernel)
  · exact gB_mem (k := 154) (by decide +kernel) (by decide +kernel)
  · exact gB_mem (k := 156) (by decide +kernel) (by decide +kernel)
theorem gcl0 : gCl 0 RX0 TX0 5 := ⟨rfl, gclw0, by decide +kernel, nmX0, tyX0, fun k hk => ⟨tyX0_ok k hk, (show ∀ k, k < 5 → defaultValue (tyX0 k) = (match gfk 0 k with
  | 0 => .int 0
  | 1 => .null
  | _ => .long 0) by decide +kernel) k hk⟩⟩
theorem gclw1 : ∀ w ∈ u_ws RX1 TX1 12, w ∈ gB := by
  intro w h
  obtain ⟨k, hk, rfl⟩ := List.mem_map.mp h
  have hk := List.mem_range.mp hk
  rcases (show k = 0 ∨ k = 1 ∨ k = 2 ∨ k = 3 ∨ k = 4 ∨ k = 5 ∨ k = 6 ∨ k = 7 ∨ k = 8 ∨ k = 9 ∨ k = 10 ∨ k = 11 by omega) with rfl | rfl | rfl | rfl | rfl | rfl | rfl | rfl | rfl | rfl | rfl | rfl
  · exact gB_mem (k := 232) (by decide +kernel) (by decide +kernel)
  · exact gB_mem (k := 234) (by decide +kernel) (by decide +kernel)
  · exact gB_mem (k := 236) (by decide +kernel) (by decide +kernel)
  · exact gB_mem (k := 238) (by decide +kernel) (by decide +kernel)
  · exact gB_mem (k := 240) (by decide +kernel) (by decide +kernel)
  · exact gB_mem (k := 242) (by decide +kernel) (by decide +kernel)
  · exact gB_mem (k := 244) (by decide +kernel) (by decide +kernel)
  · exact gB_mem (k := 246) (by decide +kernel) (by decide +kernel)
  · exact gB_mem (k := 248) (by decide +kernel) (by decide +kernel)
  · exact gB_mem (k := 250) (by decide +kernel) (by decide +kernel)
  · exact gB_mem (k := 252) (by decide +kernel) (by decide +kernel)
  · exact gB_mem (k := 254) (by decide +kernel) (by decide +kernel)
theorem gcl1 : gCl 1 RX1 TX1 12 := ⟨rfl, gclw1, by decide +kernel, nmX1, tyX1, fun k hk => ⟨tyX1_ok k hk, (show ∀ k, k < 12 → defaultValue (tyX1 k) = (match gfk 1 k with
  | 0 => .int 0
  | 1 => .null
  | _ => .long 0) by decide +kernel) k hk⟩⟩
theorem gclw2 : ∀ w ∈ u_ws RX2 TX2 8, w ∈ gB := by
  intro w h
  obtain ⟨k, hk, rfl⟩ := List.mem_map.mp h
  have hk := List.mem_range.mp hk
  rcases (show k = 0 ∨ k = 1 ∨ k = 2 ∨ k = 3 ∨ k = 4 ∨ k = 5 ∨ k = 6 ∨ k = 7 by omega) with rfl | rfl | rfl | rfl | rfl | rfl | rfl | rfl
  · exact gB_mem (k := 185) (by decide +kernel) (by decide +kernel)
  · exact gB_mem (k := 187) (by decide +kernel) (by decide +kernel)
  · exact gB_mem (k := 189) (by decide +kernel) (by decide +kernel)
  · exact gB_mem (k := 191) (by decide +kernel) (by decide +kernel)
  · exact gB_mem (k := 193) (by decide +kernel) (by decide +kernel)
  · exact gB_mem (k := 195) (by decide +kernel) (by decide +kernel)
  · exact gB_mem (k := 197) (by decide +kernel) (by decide +kernel)
  · exact gB_mem (k := 199) (by decide +kernel) (by decide +kernel)
theorem gcl2 : gCl 2 RX2 TX2 8 := ⟨rfl, gclw2, by decide +kernel, nmX2, tyX2, fun k hk => ⟨tyX2_ok k hk, (show ∀ k, k < 8 → defaultValue (tyX2 k) = (match gfk 2 k with
  | 0 => .int 0
  | 1 => .null
  | _ => .long 0) by decide +kernel) k hk⟩⟩
theorem gclw3 : ∀ w ∈ u_ws RX3 TX3 8, w ∈ gB := by
  intro w h
  obtain ⟨k, hk, rfl⟩ := List.mem_map.mp h
  have hk := List.mem_range.mp hk
  rcases (show k = 0 ∨ k = 1 ∨ k = 2 ∨ k = 3 ∨ k = 4 ∨ k = 5 ∨ k = 6 ∨ k = 7 by omega) with rfl | rfl | rfl | rfl | rfl | rfl | rfl | rfl
  · exact gB_mem (k := 277) (by decide +kernel) (by decide +kernel)
  · exact gB_mem (k := 279) (by decide +kernel) (by decide +kernel)
  · exact gB_mem (k := 281) (by decide +kernel) (by decide +kernel)
  · exact gB_mem (k := 283) (by decide +kernel) (by decide +kernel)
  · exact gB_mem (k := 285) (by decide +kernel) (by decide +kernel)
  · exact gB_mem (k := 287) (by decide +kernel) (by decide +kernel)
  · exact gB_mem (k := 289) (by decide +kernel) (by decide +kernel)
  · exact gB_mem (k := 291) (by decide +kernel) (by decide +kernel)
theorem gcl3 : gCl 3 RX3 TX3 8 := ⟨rfl, gclw3, by decide +kernel, nmX3, tyX3, fun k hk => ⟨tyX3_ok k hk, (show ∀ k, k < 8 → defaultValue (tyX3 k) = (match gfk 3 k with
  | 0 => .int 0
  | 1 => .null
  | _ => .long 0) by decide +kernel) k hk⟩⟩
theorem gclw4 : ∀ w ∈ u_ws RX4 TX4 3, w ∈ gB := by
  intro w h
  obtain ⟨k, hk, rfl⟩ := List.mem_map.mp h
  have hk := List.mem_range.mp hk
  rcases (show k = 0 ∨ k = 1 ∨ k = 2 by omega) with rfl | rfl | rfl
  · exact gB_mem (k := 129) (by decide +kernel) (by decide +kernel)
  · exact gB_mem (k := 131) (by decide +kernel) (by decide +kernel)
  · exact gB_mem (k := 133) (by decide +kernel) (by decide +kernel)
theorem gcl4 : gCl 4 RX4 TX4 3 := ⟨rfl, gclw4, by decide +kernel, nmX4, tyX4, fun k hk => ⟨tyX4_ok k hk, (show ∀ k, k < 3 → defaultValue (tyX4 k) = (match gfk 4 k with
  | 0 => .int 0
  | 1 => .null
  | _ => .long 0) by decide +kernel) k hk⟩⟩
theorem gclw5 : ∀ w ∈ u_ws RX5 TX5 5, w ∈ gB := by
  intro w h
  obtain ⟨k, hk, rfl⟩ := List.mem_map.mp h
  have hk := List.mem_range.mp hk
  rcases (show k = 0 ∨ k = 1 ∨ k = 2 ∨ k = 3 ∨ k = 4 by omega) with rfl | rfl | rfl | rfl | rfl
  · exact gB_mem (k := 97) (by decide +kernel) (by decide +kernel)
  · exact gB_mem (k := 99) (by decide +kernel) (by decide +kernel)
  · exact gB_mem (k := 101) (by decide +kernel) (by decide +kernel)
  · exact gB_mem (k := 103) (by decide +kernel) (by decide +kernel)
  · exact gB_mem (k := 105) (by decide +kernel) (by decide +kernel)
theorem gcl5 : gCl 5 RX5 TX5 5 := ⟨rfl, gclw5, by decide +kernel, nmX5, tyX5, fun k hk => ⟨tyX5_ok k hk, (show ∀ k, k < 5 → defaultValue (tyX5 k) = (match gfk 5 k with
  | 0 => .int 0
  | 1 => .null
  | _ => .long 0) by decide +kernel) k hk⟩⟩
theorem gclw6 : ∀ w ∈ u_ws RX6 TX6 8, w ∈ gB := by
  intro w h
  obtain ⟨k, hk, rfl⟩ := List.mem_map.mp h
  have hk := List.mem_range.mp hk
  rcases (show k = 0 ∨ k = 1 ∨ k = 2 ∨ k = 3 ∨ k = 4 ∨ k = 5 ∨ k = 6 ∨ k = 7 by omega) with rfl | rfl | rfl | rfl | rfl | rfl | rfl | rfl
  · exact gB_mem (k := 302) (by decide +kernel) (by decide +kernel)
  · exact gB_mem (k := 304) (by decide +kernel) (by decide +kernel)
  · exact gB_mem (k := 306) (by decide +kernel) (by decide +kernel)
  · exact gB_mem (k := 308) (by decide +kernel) (by decide +kernel)
  · exact gB_mem (k := 310) (by decide +kernel) (by decide +kernel)
  · exact gB_mem (k := 312) (by decide +kernel) (by decide +kernel)
  · exact gB_mem (k := 314) (by decide +kernel) (by decide +kernel)
  · exact gB_mem (k := 316) (by decide +kernel) (by decide +kernel)
theorem gcl6 : gCl 6 RX6 TX6 8 := ⟨rfl, gclw6, by decide +kernel, nmX6, tyX6, fun k hk => ⟨tyX6_ok k hk, (show ∀ k, k < 8 → defaultValue (tyX6 k) = (match gfk 6 k with
  | 0 => .int 0
  | 1 => .null
  | _ => .long 0) by decide +kernel) k hk⟩⟩
theorem gclw7 : ∀ w ∈ u_ws RX7 TX7 27, w ∈ gB := by
  intro w h
  obtain ⟨k, hk, rfl⟩ := List.mem_map.mp h
  have hk := List.mem_range.mp hk
  rcases (show k = 0 ∨ k = 1 ∨ k = 2 ∨ k = 3 ∨ k = 4 ∨ k = 5 ∨ k = 6 ∨ k = 7 ∨ k = 8 ∨ k = 9 ∨ k = 10 ∨ k = 11 ∨ k = 12 ∨ k = 13 ∨ k = 14 ∨ k = 15 ∨ k = 16 ∨ k = 17 ∨ k = 18 ∨ k = 19 ∨ k = 20 ∨ k = 21 ∨ k = 22 ∨ k = 23 ∨ k = 24 ∨ k = 25 ∨ k = 26 by omega) with rfl | rfl | rfl | rfl | rfl | rfl | rfl | rfl | rfl | rfl | rfl | rfl | rfl | rfl | rfl | rfl | rfl | rfl | rfl | rfl | rfl | rfl | rfl | rfl | rfl | rfl | rfl
  · exact gB_mem (k := 745) (by decide +kernel) (by decide +kernel)
  · exact gB_mem (k := 747) (by decide +kernel) (by decide +kernel)
  · exact gB_mem (k := 749) (by decide +kernel) (by decide +kernel)
  · exact gB_mem (k := 751) (by decide +kernel) (by decide +kernel)
  · exact gB_mem (k := 753) (by decide +kernel) (by decide +kernel)
  · exact gB_mem (k := 755) (by decide +kernel) (by decide +kernel)
  · exact gB_mem (k := 757) (by decide +kernel) (by decide +kernel)
  · exact gB_mem (k := 759) (by decide +kernel) (by decide +kernel)
  · exact gB_mem (k := 761) (by decide +kernel) (by decide +kernel)
  · exact gB_mem (k := 763) (by decide +kernel) (by decide +kernel)
  · exact gB_mem (k := 765) (by decide +kernel) (by decide +kernel)
  · exact gB_mem (k := 767) (by decide +kernel) (by decide +kernel)
  · exact gB_mem (k := 769) (by decide +kernel) (by decide +kernel)
  · exact gB_mem (k := 771) (by decide +kernel) (by decide +kernel)
  · exact gB_mem (k := 773) (by decide +kernel) (by decide +kernel)
  · exact gB_mem (k := 775) (by decide +kernel) (by decide +kernel)
  · exact gB_mem (k := 777) (by decide +kernel) (by decide +kernel)
  · exact gB_mem (k := 779) (by decide +kernel) (by decide +kernel)
  · exact gB_mem (k := 781) (by decide +kernel) (by decide +kernel)
  · exact gB_mem (k := 783) (by decide +kernel) (by decide +kernel)
  · exact gB_mem (k := 785) (by decide +kernel) (by decide +kernel)
  · exact gB_mem (k := 787) (by decide +kernel) (by decide +kernel)
  · exact gB_mem (k := 789) (by decide +kernel) (by decide +kernel)
  · exact gB_mem (k := 791) (by decide +kernel) (by decide +kernel)
  · exact gB_mem (k := 793) (by decide +kernel) (by decide +kernel)
  · exact gB_mem (k := 795) (by decide +kernel) (by decide +kernel)
  · exact gB_mem (k := 797) (by decide +kernel) (by decide +kernel)
theorem gcl7 : gCl 7 RX7 TX7 27 := ⟨rfl, gclw7, by decide +kernel, nmX7, tyX7, fun k hk => ⟨tyX7_ok k hk, (show ∀ k, k < 27 → defaultValue (tyX7 k) = (match gfk 7 k with
  | 0 => .int 0
  | 1 => .null
  | _ => .long 0) by decide +kernel) k hk⟩⟩
theorem gf_X6_10 : gFL RX6 10 6 0 := ⟨RX6, TX6, 8, gcl6, by decide, gB_mem (k := 294) (by decide +kernel) (by decide +kernel)⟩
theorem gp_X6_10 : gFP RX6 10 6 0 (.object "FlexRows$Text") true := ⟨RX6, TX6, 8, gcl6, by decide, gB_mem (k := 294) (by decide +kernel) (by decide +kernel), rfl, by decide +kernel, fun _ => rfl⟩
theorem gf_X6_19 : gFL RX6 19 6 1 := ⟨RX6, TX6, 8, gcl6, by decide, gB_mem (k := 295) (by decide +kernel) (by decide +kernel)⟩
theorem gp_X6_19 : gFP RX6 19 6 1 (.object "FlexRows$State") true := ⟨RX6, TX6, 8, gcl6, by decide, gB_mem (k := 295) (by decide +kernel) (by decide +kernel), rfl, by decide +kernel, fun _ => rfl⟩
theorem gf_X6_26 : gFL RX6 26 6 2 := ⟨RX6, TX6, 8, gcl6, by decide, gB_mem (k := 296) (by decide +kernel) (by decide +kernel)⟩
theorem gp_X6_26 : gFP RX6 26 6 2 (.object "FlexRows$History") true := ⟨RX6, TX6, 8, gcl6, by decide, gB_mem (k := 296) (by decide +kernel) (by decide +kernel), rfl, by decide +kernel, fun _ => rfl⟩
theorem gf_X6_35 : gFL RX6 35 6 3 := ⟨RX6, TX6, 8, gcl6, by decide, gB_mem (k := 297) (by decide +kernel) (by decide +kernel)⟩
theorem gp_X6_35 : gFP RX6 35 6 3 (.object "FlexRows$Order") true := ⟨RX6, TX6, 8, gcl6, by decide, gB_mem (k := 297) (by decide +kernel) (by decide +kernel), rfl, by decide +kernel, fun _ => rfl⟩
theorem gf_X6_44 : gFL RX6 44 6 4 := ⟨RX6, TX6, 8, gcl6, by decide, gB_mem (k := 298) (by decide +kernel) (by decide +kernel)⟩
theorem gp_X6_44 : gFP RX6 44 6 4 (.object "FlexRows$Lines") true := ⟨RX6, TX6, 8, gcl6, by decide, gB_mem (k := 298) (by decide +kernel) (by decide +kernel), rfl, by decide +kernel, fun _ => rfl⟩
theorem gf_X6_53 : gFL RX6 53 6 5 := ⟨RX6, TX6, 8, gcl6, by decide, gB_mem (k := 299) (by decide +kernel) (by decide +kernel)⟩
theorem gp_X6_53 : gFP RX6 53 6 5 (.object "FlexRows$Places") true := ⟨RX6, TX6, 8, gcl6, by decide, gB_mem (k := 299) (by decide +kernel) (by decide +kernel), rfl, by decide +kernel, fun _ => rfl⟩
theorem gf_X6_57 : gFL RX6 57 6 6 := ⟨RX6, TX6, 8, gcl6, by decide, gB_mem (k := 300) (by decide +kernel) (by decide +kernel)⟩
theorem gp_X6_57 : gFP RX6 57 6 6 (.object "FlexRows$Lines") true := ⟨RX6, TX6, 8, gcl6, by decide, gB_mem (k := 300) (by decide +kernel) (by decide +kernel), rfl, by decide +kernel, fun _ => rfl⟩
theorem gf_X6_60 : gFL RX6 60 6 7 := ⟨RX6, TX6, 8, gcl6, by decide, gB_mem (k := 301) (by decide +kernel) (by decide +kernel)⟩
theorem gp_X6_60 : gFP RX6 60 6 7 .boolean false := ⟨RX6, TX6, 8, gcl6, by decide, gB_mem (k := 301) (by decide +kernel) (by decide +kernel), rfl, by decide +kernel, fun h => by cases h⟩
theorem gf_X6_68 : gFL RX6 68 5 2 := ⟨RX5, TX5, 5, gcl5, by decide, gB_mem (k := 94) (by decide +kernel) (by decide +kernel)⟩
theorem gp_X6_68 : gFP RX6 68 5 2 .int false := ⟨RX5, TX5, 5, gcl5, by decide, gB_mem (k := 94) (by decide +kernel) (by decide +kernel), rfl, by decide +kernel, fun h => by cases h⟩
theorem gf_X6_72 : gFL RX6 72 4 0 := ⟨RX4, TX4, 3, gcl4, by decide, gB_mem (k := 124) (by decide +kernel) (by decide +kernel)⟩
theorem gp_X6_72 : gFP RX6 72 4 0 .int false := ⟨RX4, TX4, 3, gcl4, by decide, gB_mem (k := 124) (by decide +kernel) (by decide +kernel), rfl, by decide +kernel, fun h => by cases h⟩
theorem gf_X6_82 : gFL RX6 82 5 1 := ⟨RX5, TX5, 5, gcl5, by decide, gB_mem (k := 92) (by decide +kernel) (by decide +kernel)⟩
theorem gf_X6_129 : gFL RX6 129 0 0 := ⟨RX0, TX0, 5, gcl0, by decide, gB_mem (k := 143) (by decide +kernel) (by decide +kernel)⟩
theorem gf_X6_141 : gFL RX6 141 2 0 := ⟨RX2, TX2, 8, gcl2, by decide, gB_mem (k := 168) (by decide +kernel) (by decide +kernel)⟩
theorem gf_X6_147 : gFL RX6 147 1 0 := ⟨RX1, TX1, 12, gcl1, by decide, gB_mem (k := 210) (by decide +kernel) (by decide +kernel)⟩
theorem gf_X6_190 : gFL RX6 190 2 1 := ⟨RX2, TX2, 8, gcl2, by decide, gB_mem (k := 171) (by decide +kernel) (by decide +kernel)⟩
theorem gf_X6_195 : gFL RX6 195 3 1 := ⟨RX3, TX3, 8, gcl3, by decide, gB_mem (k := 267) (by decide +kernel) (by decide +kernel)⟩
theorem gf_X6_198 : gFL RX6 198 1 6 := ⟨RX1, TX1, 12, gcl1, by decide, gB_mem (k := 225) (by decide +kernel) (by decide +kernel)⟩
theorem gf_X6_201 : gFL RX6 201 3 2 := ⟨RX3, TX3, 8, gcl3, by decide, gB_mem (k := 269) (by decide +kernel) (by decide +kernel)⟩
theorem gf_X6_207 : gFL RX6 207 2 6 := ⟨RX2, TX2, 8, gcl2, by decide, gB_mem (k := 183) (by decide +kernel) (by decide +kernel)⟩
theorem gf_X6_209 : gFL RX6 209 1 7 := ⟨RX1, TX1, 12, gcl1, by decide, gB_mem (k := 227) (by decide +kernel) (by decide +kernel)⟩
theorem gf_X6_215 : gFL RX6 215 1 1 := ⟨RX1, TX1, 12, gcl1, by decide, gB_mem (k := 213) (by decide +kernel) (by decide +kernel)⟩
theorem gf_X6_218 : gFL RX6 218 3 3 := ⟨RX3, TX3, 8, gcl3, by decide, gB_mem (k := 271) (by decide +kernel) (by decide +kernel)⟩
theorem gf_X6_221 : gFL RX6 221 3 4 := ⟨RX3, TX3, 8, gcl3, by decide, gB_mem (k := 273) (by decide +kernel) (by decide +kernel)⟩
theorem gf_X6_224 : gFL RX6 224 1 3 := ⟨RX1, TX1, 12, gcl1, by decide, gB_mem (k := 218) (by decide +kernel) (by decide +kernel)⟩
theorem gf_X6_227 : gFL RX6 227 1 5 := ⟨RX1, TX1, 12, gcl1, by decide, gB_mem (k := 222) (by decide +kernel) (by decide +kernel)⟩
theorem gf_X6_231 : gFL RX6 231 1 4 := ⟨RX1, TX1, 12, gcl1, by decide, gB_mem (k := 220) (by decide +kernel) (by decide +kernel)⟩
theorem gf_X6_234 : gFL RX6 234 1 2 := ⟨RX1, TX1, 12, gcl1, by decide, gB_mem (k := 215) (by decide +kernel) (by decide +kernel)⟩
theorem gf_X6_237 : gFL RX6 237 3 0 := ⟨RX3, TX3, 8, gcl3, by decide, gB_mem (k := 265) (by decide +kernel) (by decide +kernel)⟩
theorem gf_X0_9 : gFL RX0 9 0 2 := ⟨RX0, TX0, 5, gcl0, by decide, gB_mem (k := 145) (by decide +kernel) (by decide +kernel)⟩
theorem gp_X0_9 : gFP RX0 9 0 2 (.array .int) true := ⟨RX0, TX0, 5, gcl0, by decide, gB_mem (k := 145) (by decide +kernel) (by decide +kernel), rfl, by decide +kernel, fun _ => rfl⟩
theorem gf_X0_15 : gFL RX0 15 0 3 := ⟨RX0, TX0, 5, gcl0, by decide, gB_mem (k := 146) (by decide +kernel) (by decide +kernel)⟩
theorem gp_X0_15 : gFP RX0 15 0 3 (.array .int) true := ⟨RX0, TX0, 5, gcl0, by decide, gB_mem (k := 146) (by decide +kernel) (by decide +kernel), rfl, by decide +kernel, fun _ => rfl⟩
theorem gf_X0_18 : gFL RX0 18 0 4 := ⟨RX0, TX0, 5, gcl0, by decide, gB_mem (k := 147) (by decide +kernel) (by decide +kernel)⟩
theorem gp_X0_18 : gFP RX0 18 0 4 (.array .int) true := ⟨RX0, TX0, 5, gcl0, by decide, gB_mem (k := 147) (by decide +kernel) (by decide +kernel), rfl, by decide +kernel, fun _ => rfl⟩
theorem gf_X0_21 : gFL RX0 21 0 1 := ⟨RX0, TX0, 5, gcl0, by decide, gB_mem (k := 144) (by decide +kernel) (by decide +kernel)⟩
theorem gp_X0_21 : gFP RX0 21 0 1 .int false := ⟨RX0, TX0, 5, gcl0, by decide, gB_mem (k := 144) (by decide +kernel) (by decide +kernel), rfl, by decide +kernel, fun h => by cases h⟩
theorem gf_X0_31 : gFL RX0 31 4 0 := ⟨RX4, TX4, 3, gcl4, by decide, gB_mem (k := 123) (by decide +kernel) (by decide +kernel)⟩
theorem gp_X0_31 : gFP RX0 31 4 0 .int false := ⟨RX4, TX4, 3, gcl4, by decide, gB_mem (k := 123) (by decide +kernel) (by decide +kernel), rfl, by decide +kernel, fun h => by cases h⟩
theorem gf_X0_35 : gFL RX0 35 4 1 := ⟨RX4, TX4, 3, gcl4, by decide, gB_mem (k := 126) (by decide +kernel) (by decide +kernel)⟩
theorem gf_X0_44 : gFL RX0 44 4 2 := ⟨RX4, TX4, 3, gcl4, by decide, gB_mem (k := 128) (by decide +kernel) (by decide +kernel)⟩
theorem gf_X0_45 : gFL RX0 45 0 0 := ⟨RX0, TX0, 5, gcl0, by decide, gB_mem (k := 142) (by decide +kernel) (by decide +kernel)⟩
theorem gp_X0_45 : gFP RX0 45 0 0 .int false := ⟨RX0, TX0, 5, gcl0, by decide, gB_mem (k := 142) (by decide +kernel) (by decide +kernel), rfl, by decide +kernel, fun h => by cases h⟩
theorem gf_X1_9 : gFL RX1 9 1 1 := ⟨RX1, TX1, 12, gcl1, by decide, gB_mem (k := 211) (by decide +kernel) (by decide +kernel)⟩
theorem gp_X1_9 : gFP RX1 9 1 1 (.array .int) true := ⟨RX1, TX1, 12, gcl1, by decide, gB_mem (k := 211) (by decide +kernel) (by decide +kernel), rfl, by decide +kernel, fun _ => rfl⟩
theorem gf_X1_15 : gFL RX1 15 1 2 := ⟨RX1, TX1, 12, gcl1, by decide, gB_mem (k := 214) (by decide +kernel) (by decide +kernel)⟩
theorem gp_X1_15 : gFP RX1 15 1 2 (.array .int) true := ⟨RX1, TX1, 12, gcl1, by decide, gB_mem (k := 214) (by decide +kernel) (by decide +kernel), rfl, by decide +kernel, fun _ => rfl⟩
theorem gf_X1_18 : gFL RX1 18 1 3 := ⟨RX1, TX1, 12, gcl1, by decide, gB_mem (k := 216) (by decide +kernel) (by decide +kernel)⟩
theorem gp_X1_18 : gFP RX1 18 1 3 (.array .int) true := ⟨RX1, TX1, 12, gcl1, by decide, gB_mem (k := 216) (by decide +kernel) (by decide +kernel), rfl, by decide +kernel, fun _ => rfl⟩
theorem gf_X1_21 : gFL RX1 21 1 4 := ⟨RX1, TX1, 12, gcl1, by decide, gB_mem (k := 219) (by decide +kernel) (by decide +kernel)⟩
theorem gp_X1_21 : gFP RX1 21 1 4 (.array .int) true := ⟨RX1, TX1, 12, gcl1, by decide, gB_mem (k := 219) (by decide +kernel) (by decide +kernel), rfl, by decide +kernel, fun _ => rfl⟩
theorem gf_X1_24 : gFL RX1 24 1 5 := ⟨RX1, TX1, 12, gcl1, by decide, gB_mem (k := 221) (by decide +kernel) (by decide +kernel)⟩
theorem gp_X1_24 : gFP RX1 24 1 5 (.array .boolean) true := ⟨RX1, TX1, 12, gcl1, by decide, gB_mem (k := 221) (by decide +kernel) (by decide +kernel), rfl, by decide +kernel, fun _ => rfl⟩
theorem gf_X1_28 : gFL RX1 28 1 6 := ⟨RX1, TX1, 12, gcl1, by decide, gB_mem (k := 223) (by decide +kernel) (by decide +kernel)⟩
theorem gp_X1_28 : gFP RX1 28 1 6 (.array .int) true := ⟨RX1, TX1, 12, gcl1, by decide, gB_mem (k := 223) (by decide +kernel) (by decide +kernel), rfl, by decide +kernel, fun _ => rfl⟩
theorem gf_X1_31 : gFL RX1 31 1 7 := ⟨RX1, TX1, 12, gcl1, by decide, gB_mem (k := 226) (by decide +kernel) (by decide +kernel)⟩
theorem gp_X1_31 : gFP RX1 31 1 7 (.array .int) true := ⟨RX1, TX1, 12, gcl1, by decide, gB_mem (k := 226) (by decide +kernel) (by decide +kernel), rfl, by decide +kernel, fun _ => rfl⟩
theorem gf_X1_34 : gFL RX1 34 1 8 := ⟨RX1, TX1, 12, gcl1, by decide, gB_mem (k := 228) (by decide +kernel) (by decide +kernel)⟩
theorem gp_X1_34 : gFP RX1 34 1 8 (.array .int) true := ⟨RX1, TX1, 12, gcl1, by decide, gB_mem (k := 228) (by decide +kernel) (by decide +kernel), rfl, by decide +kernel, fun _ => rfl⟩
theorem gf_X1_37 : gFL RX1 37 1 9 := ⟨RX1, TX1, 12, gcl1, by decide, gB_mem (k := 229) (by decide +kernel) (by decide +kernel)⟩
theorem gp_X1_37 : gFP RX1 37 1 9 (.object "FlexRows$State") true := ⟨RX1, TX1, 12, gcl1, by decide, gB_mem (k := 229) (by decide +kernel) (by decide +kernel), rfl, by decide +kernel, fun _ => rfl⟩
theorem gf_X1_41 : gFL RX1 41 1 10 := ⟨RX1, TX1, 12, gcl1, by decide, gB_mem (k := 230) (by decide +kernel) (by decide +kernel)⟩
theorem gp_X1_41 : gFP RX1 41 1 10 (.object "FlexRows$Order") true := ⟨RX1, TX1, 12, gcl1, by decide, gB_mem (k := 230) (by decide +kernel) (by decide +kernel), rfl, by decide +kernel, fun _ => rfl⟩
theorem gf_X1_45 : gFL RX1 45 1 11 := ⟨RX1, TX1, 12, gcl1, by decide, gB_mem (k := 231) (by decide +kernel) (by decide +kernel)⟩
theorem gp_X1_45 : gFP RX1 45 1 11 .int false := ⟨RX1, TX1, 12, gcl1, by decide, gB_mem (k := 231) (by decide +kernel) (by decide +kernel), rfl, by decide +kernel, fun h => by cases h⟩
theorem gf_X1_49 : gFL RX1 49 1 0 := ⟨RX1, TX1, 12, gcl1, by decide, gB_mem (k := 208) (by decide +kernel) (by decide +kernel)⟩
theorem gp_X1_49 : gFP RX1 49 1 0 .int false := ⟨RX1, TX1, 12, gcl1, by decide, gB_mem (k := 208) (by decide +kernel) (by decide +kernel), rfl, by decide +kernel, fun h => by cases h⟩
theorem gf_X1_57 : gFL RX1 57 2 0 := ⟨RX2, TX2, 8, gcl2, by decide, gB_mem (k := 166) (by decide +kernel) (by decide +kernel)⟩
theorem gf_X1_72 : gFL RX1 72 2 5 := ⟨RX2, TX2, 8, gcl2, by decide, gB_mem (k := 180) (by decide +kernel) (by decide +kernel)⟩
theorem gf_X1_75 : gFL RX1 75 2 6 := ⟨RX2, TX2, 8, gcl2, by decide, gB_mem (k := 182) (by decide +kernel) (by decide +kernel)⟩
theorem gf_X1_98 : gFL RX1 98 2 2 := ⟨RX2, TX2, 8, gcl2, by decide, gB_mem (k := 173) (by decide +kernel) (by decide +kernel)⟩
theorem gf_X1_118 : gFL RX1 118 2 3 := ⟨RX2, TX2, 8, gcl2, by decide, gB_mem (k := 175) (by decide +kernel) (by decide +kernel)⟩
theorem gf_X1_121 : gFL RX1 121 2 4 := ⟨RX2, TX2, 8, gcl2, by decide, gB_mem (k := 177) (by decide +kernel) (by decide +kernel)⟩
theorem gf_X2_9 : gFL RX2 9 2 1 := ⟨RX2, TX2, 8, gcl2, by decide, gB_mem (k := 169) (by decide +kernel) (by decide +kernel)⟩
theorem gp_X2_9 : gFP RX2 9 2 1 (.array .int) true := ⟨RX2, TX2, 8, gcl2, by decide, gB_mem (k := 169) (by decide +kernel) (by decide +kernel), rfl, by decide +kernel, fun _ => rfl⟩
theorem gf_X2_15 : gFL RX2 15 2 2 := ⟨RX2, TX2, 8, gcl2, by decide, gB_mem (k := 172) (by decide +kernel) (by decide +kernel)⟩
theorem gp_X2_15 : gFP RX2 15 2 2 (.array .int) true := ⟨RX2, TX2, 8, gcl2, by decide, gB_mem (k := 172) (by decide +kernel) (by decide +kernel), rfl, by decide +kernel, fun _ => rfl⟩
theorem gf_X2_18 : gFL RX2 18 2 3 := ⟨RX2, TX2, 8, gcl2, by decide, gB_mem (k := 174) (by decide +kernel) (by decide +kernel)⟩
theorem gp_X2_18 : gFP RX2 18 2 3 (.array .int) true := ⟨RX2, TX2, 8, gcl2, by decide, gB_mem (k := 174) (by decide +kernel) (by decide +kernel), rfl, by decide +kernel, fun _ => rfl⟩
theorem gf_X2_21 : gFL RX2 21 2 4 := ⟨RX2, TX2, 8, gcl2, by decide, gB_mem (k := 176) (by decide +kernel) (by decide +kernel)⟩
theorem gp_X2_21 : gFP RX2 21 2 4 (.array .int) true := ⟨RX2, TX2, 8, gcl2, by decide, gB_mem (k := 176) (by decide +kernel) (by decide +kernel), rfl, by decide +kernel, fun _ => rfl⟩
theorem gf_X2_24 : gFL RX2 24 2 5 := ⟨RX2, TX2, 8, gcl2, by decide, gB_mem (k := 178) (by decide +kernel) (by decide +kernel)⟩
theorem gp_X2_24 : gFP RX2 24 2 5 (.array .int) true := ⟨RX2, TX2, 8, gcl2, by decide, gB_mem (k := 178) (by decide +kernel) (by decide +kernel), rfl, by decide +kernel, fun _ => rfl⟩
theorem gf_X2_27 : gFL RX2 27 2 6 := ⟨RX2, TX2, 8, gcl2, by decide, gB_mem (k := 181) (by decide +kernel) (by decide +kernel)⟩
theorem gp_X2_27 : gFP RX2 27 2 6 (.array .int) true := ⟨RX2, TX2, 8, gcl2, by decide, gB_mem (k := 181) (by decide +kernel) (by decide +kernel), rfl, by decide +kernel, fun _ => rfl⟩
theorem gf_X2_30 : gFL RX2 30 2 7 := ⟨RX2, TX2, 8, gcl2, by decide, gB_mem (k := 184) (by decide +kernel) (by decide +kernel)⟩
theorem gp_X2_30 : gFP RX2 30 2 7 (.object "FlexRows$State") true := ⟨RX2, TX2, 8, gcl2, by decide, gB_mem (k := 184) (by decide +kernel) (by decide +kernel), rfl, by decide +kernel, fun _ => rfl⟩
theorem gf_X2_34 : gFL RX2 34 2 0 := ⟨RX2, TX2, 8, gcl2, by decide, gB_mem (k := 165) (by decide +kernel) (by decide +kernel)⟩
theorem gp_X2_34 : gFP RX2 34 2 0 .int false := ⟨RX2, TX2, 8, gcl2, by decide, gB_mem (k := 165) (by decide +kernel) (by decide +kernel), rfl, by decide +kernel, fun h => by cases h⟩
theorem gf_X2_38 : gFL RX2 38 4 0 := ⟨RX4, TX4, 3, gcl4, by decide, gB_mem (k := 122) (by decide +kernel) (by decide +kernel)⟩
theorem gf_X3_9 : gFL RX3 9 3 1 := ⟨RX3, TX3, 8, gcl3, by decide, gB_mem (k := 266) (by decide +kernel) (by decide +kernel)⟩
theorem gp_X3_9 : gFP RX3 9 3 1 (.array .int) true := ⟨RX3, TX3, 8, gcl3, by decide, gB_mem (k := 266) (by decide +kernel) (by decide +kernel), rfl, by decide +kernel, fun _ => rfl⟩
theorem gf_X3_15 : gFL RX3 15 3 2 := ⟨RX3, TX3, 8, gcl3, by decide, gB_mem (k := 268) (by decide +kernel) (by decide +kernel)⟩
theorem gp_X3_15 : gFP RX3 15 3 2 (.array .int) true := ⟨RX3, TX3, 8, gcl3, by decide, gB_mem (k := 268) (by decide +kernel) (by decide +kernel), rfl, by decide +kernel, fun _ => rfl⟩
theorem gf_X3_18 : gFL RX3 18 3 3 := ⟨RX3, TX3, 8, gcl3, by decide, gB_mem (k := 270) (by decide +kernel) (by decide +kernel)⟩
theorem gp_X3_18 : gFP RX3 18 3 3 (.array .int) true := ⟨RX3, TX3, 8, gcl3, by decide, gB_mem (k := 270) (by decide +kernel) (by decide +kernel), rfl, by decide +kernel, fun _ => rfl⟩
theorem gf_X3_21 : gFL RX3 21 3 4 := ⟨RX3, TX3, 8, gcl3, by decide, gB_mem (k := 272) (by decide +kernel) (by decide +kernel)⟩
theorem gp_X3_21 : gFP RX3 21 3 4 (.array .int) true := ⟨RX3, TX3, 8, gcl3, by decide, gB_mem (k := 272) (by decide +kernel) (by decide +kernel), rfl, by decide +kernel, fun _ => rfl⟩
theorem gf_X3_24 : gFL RX3 24 3 5 := ⟨RX3, TX3, 8, gcl3, by decide, gB_mem (k := 274) (by decide +kernel) (by decide +kernel)⟩
theorem gp_X3_24 : gFP RX3 24 3 5 (.object "FlexRows$State") true := ⟨RX3, TX3, 8, gcl3, by decide, gB_mem (k := 274) (by decide +kernel) (by decide +kernel), rfl, by decide +kernel, fun _ => rfl⟩
theorem gf_X3_28 : gFL RX3 28 3 6 := ⟨RX3, TX3, 8, gcl3, by decide, gB_mem (k := 275) (by decide +kernel) (by decide +kernel)⟩
theorem gp_X3_28 : gFP RX3 28 3 6 (.object "FlexRows$Order") true := ⟨RX3, TX3, 8, gcl3, by decide, gB_mem (k := 275) (by decide +kernel) (by decide +kernel), rfl, by decide +kernel, fun _ => rfl⟩
theorem gf_X3_32 : gFL RX3 32 3 7 := ⟨RX3, TX3, 8, gcl3, by decide, gB_mem (k := 276) (by decide +kernel) (by decide +kernel)⟩
theorem gp_X3_32 : gFP RX3 32 3 7 (.object "FlexRows$Lines") true := ⟨RX3, TX3, 8, gcl3, by decide, gB_mem (k := 276) (by decide +kernel) (by decide +kernel), rfl, by decide +kernel, fun _ => rfl⟩
theorem gf_X3_36 : gFL RX3 36 3 0 := ⟨RX3, TX3, 8, gcl3, by decide, gB_mem (k := 264) (by decide +kernel) (by decide +kernel)⟩
theorem gp_X3_36 : gFP RX3 36 3 0 .int false := ⟨RX3, TX3, 8, gcl3, by decide, gB_mem (k := 264) (by decide +kernel) (by decide +kernel), rfl, by decide +kernel, fun h => by cases h⟩
theorem gf_X3_40 : gFL RX3 40 1 0 := ⟨RX1, TX1, 12, gcl1, by decide, gB_mem (k := 209) (by decide +kernel) (by decide +kernel)⟩
theorem gf_X3_58 : gFL RX3 58 1 6 := ⟨RX1, TX1, 12, gcl1, by decide, gB_mem (k := 224) (by decide +kernel) (by decide +kernel)⟩
theorem gf_X3_61 : gFL RX3 61 2 0 := ⟨RX2, TX2, 8, gcl2, by decide, gB_mem (k := 167) (by decide +kernel) (by decide +kernel)⟩
theorem gf_X3_66 : gFL RX3 66 2 1 := ⟨RX2, TX2, 8, gcl2, by decide, gB_mem (k := 170) (by decide +kernel) (by decide +kernel)⟩
theorem gf_X3_76 : gFL RX3 76 1 1 := ⟨RX1, TX1, 12, gcl1, by decide, gB_mem (k := 212) (by decide +kernel) (by decide +kernel)⟩
theorem gf_X3_80 : gFL RX3 80 2 5 := ⟨RX2, TX2, 8, gcl2, by decide, gB_mem (k := 179) (by decide +kernel) (by decide +kernel)⟩
theorem gf_X3_83 : gFL RX3 83 1 3 := ⟨RX1, TX1, 12, gcl1, by decide, gB_mem (k := 217) (by decide +kernel) (by decide +kernel)⟩
theorem gf_X4_9 : gFL RX4 9 4 1 := ⟨RX4, TX4, 3, gcl4, by decide, gB_mem (k := 125) (by decide +kernel) (by decide +kernel)⟩
theorem gp_X4_9 : gFP RX4 9 4 1 (.array .int) true := ⟨RX4, TX4, 3, gcl4, by decide, gB_mem (k := 125) (by decide +kernel) (by decide +kernel), rfl, by decide +kernel, fun _ => rfl⟩
theorem gf_X4_15 : gFL RX4 15 4 2 := ⟨RX4, TX4, 3, gcl4, by decide, gB_mem (k := 127) (by decide +kernel) (by decide +kernel)⟩
theorem gp_X4_15 : gFP RX4 15 4 2 (.array .int) true := ⟨RX4, TX4, 3, gcl4, by decide, gB_mem (k := 127) (by decide +kernel) (by decide +kernel), rfl, by decide +kernel, fun _ => rfl⟩
theorem gf_X4_27 : gFL RX4 27 4 0 := ⟨RX4, TX4, 3, gcl4, by decide, gB_mem (k := 121) (by decide +kernel) (by decide +kernel)⟩
theorem gp_X4_27 : gFP RX4 27 4 0 .int false := ⟨RX4, TX4, 3, gcl4, by decide, gB_mem (k := 121) (by decide +kernel) (by decide +kernel), rfl, by decide +kernel, fun h => by cases h⟩
theorem gf_X5_9 : gFL RX5 9 5 0 := ⟨RX5, TX5, 5, gcl5, by decide, gB_mem (k := 90) (by decide +kernel) (by decide +kernel)⟩
theorem gp_X5_9 : gFP RX5 9 5 0 (.array .byte) true := ⟨RX5, TX5, 5, gcl5, by decide, gB_mem (k := 90) (by decide +kernel) (by decide +kernel), rfl, by decide +kernel, fun _ => rfl⟩
theorem gf_X5_15 : gFL RX5 15 5 1 := ⟨RX5, TX5, 5, gcl5, by decide, gB_mem (k := 91) (by decide +kernel) (by decide +kernel)⟩
theorem gp_X5_15 : gFP RX5 15 5 1 (.array .int) true := ⟨RX5, TX5, 5, gcl5, by decide, gB_mem (k := 91) (by decide +kernel) (by decide +kernel), rfl, by decide +kernel, fun _ => rfl⟩
theorem gf_X5_19 : gFL RX5 19 5 2 := ⟨RX5, TX5, 5, gcl5, by decide, gB_mem (k := 93) (by decide +kernel) (by decide +kernel)⟩
theorem gp_X5_19 : gFP RX5 19 5 2 .int false := ⟨RX5, TX5, 5, gcl5, by decide, gB_mem (k := 93) (by decide +kernel) (by decide +kernel), rfl, by decide +kernel, fun h => by cases h⟩
theorem gf_X5_32 : gFL RX5 32 5 3 := ⟨RX5, TX5, 5, gcl5, by decide, gB_mem (k := 95) (by decide +kernel) (by decide +kernel)⟩
theorem gp_X5_32 : gFP RX5 32 5 3 .int false := ⟨RX5, TX5, 5, gcl5, by decide, gB_mem (k := 95) (by decide +kernel) (by decide +kernel), rfl, by decide +kernel, fun h => by cases h⟩
theorem gf_X5_35 : gFL RX5 35 5 4 := ⟨RX5, TX5, 5, gcl5, by decide, gB_mem (k := 96) (by decide +kernel) (by decide +kernel)⟩
theorem gp_X5_35 : gFP RX5 35 5 4 .int false := ⟨RX5, TX5, 5, gcl5, by decide, gB_mem (k := 96) (by decide +kernel) (by decide +kernel), rfl, by decide +kernel, fun h => by cases h⟩
theorem gf_X7_7 : gFL RX7 7 7 0 := ⟨RX7, TX7, 27, gcl7, by decide, gB_mem (k := 718) (by decide +kernel) (by decide +kernel)⟩
theorem gp_X7_7 : gFP RX7 7 7 0 (.array .int) true := ⟨RX7, TX7, 27, gcl7, by decide, gB_mem (k := 718) (by decide +kernel) (by decide +kernel), rfl, by decide +kernel, fun _ => rfl⟩
theorem gf_X7_13 : gFL RX7 13 7 1 := ⟨RX7, TX7, 27, gcl7, by decide, gB_mem (k := 719) (by decide +kernel) (by decide +kernel)⟩
theorem gp_X7_13 : gFP RX7 13 7 1 (.array .int) true := ⟨RX7, TX7, 27, gcl7, by decide, gB_mem (k := 719) (by decide +kernel) (by decide +kernel), rfl, by decide +kernel, fun _ => rfl⟩
theorem gf_X7_16 : gFL RX7 16 7 3 := ⟨RX7, TX7, 27, gcl7, by decide, gB_mem (k := 721) (by decide +kernel) (by decide +kernel)⟩
theorem gp_X7_16 : gFP RX7 16 7 3 (.array .int) true := ⟨RX7, TX7, 27, gcl7, by decide, gB_mem (k := 721) (by decide +kernel) (by decide +kernel), rfl, by decide +kernel, fun _ => rfl⟩
theorem gf_X7_19 : gFL RX7 19 7 7 := ⟨RX7, TX7, 27, gcl7, by decide, gB_mem (k := 725) (by decide +kernel) (by decide +kernel)⟩
theorem gp_X7_19 : gFP RX7 19 7 7 (.array .int) true := ⟨RX7, TX7, 27, gcl7, by decide, gB_mem (k := 725) (by decide +kernel) (by decide +kernel), rfl, by decide +kernel, fun _ => rfl⟩
theorem gf_X7_22 : gFL RX7 22 7 8 := ⟨RX7, TX7, 27, gcl7, by decide, gB_mem (k := 726) (by decide +kernel) (by decide +kernel)⟩
theorem gp_X7_22 : gFP RX7 22 7 8 (.array .int) true := ⟨RX7, TX7, 27, gcl7, by decide, gB_mem (k := 726) (by decide +kernel) (by decide +kernel), rfl, by decide +kernel, fun _ => rfl⟩
theorem gf_X7_25 : gFL RX7 25 7 10 := ⟨RX7, TX7, 27, gcl7, by decide, gB_mem (k := 728) (by decide +kernel) (by decide +kernel)⟩
theorem gp_X7_25 : gFP RX7 25 7 10 (.array .int) true := ⟨RX7, TX7, 27, gcl7, by decide, gB_mem (k := 728) (by decide +kernel) (by decide +kernel), rfl, by decide +kernel, fun _ => rfl⟩
theorem gf_X7_28 : gFL RX7 28 7 11 := ⟨RX7, TX7, 27, gcl7, by decide, gB_mem (k := 729) (by decide +kernel) (by decide +kernel)⟩
theorem gp_X7_28 : gFP RX7 28 7 11 (.array .int) true := ⟨RX7, TX7, 27, gcl7, by decide, gB_mem (k := 729) (by decide +kernel) (by decide +kernel), rfl, by decide +kernel, fun _ => rfl⟩
theorem gf_X7_31 : gFL RX7 31 7 12 := ⟨RX7, TX7, 27, gcl7, by decide, gB_mem (k := 730) (by decide +kernel) (by decide +kernel)⟩
theorem gp_X7_31 : gFP RX7 31 7 12 (.array .int) true := ⟨RX7, TX7, 27, gcl7, by decide, gB_mem (k := 730) (by decide +kernel) (by decide +kernel), rfl, by decide +kernel, fun _ => rfl⟩
theorem gf_X7_34 : gFL RX7 34 7 14 := ⟨RX7, TX7, 27, gcl7, by decide, gB_mem (k := 732) (by decide +kernel) (by decide +kernel)⟩
theorem gp_X7_34 : gFP RX7 34 7 14 (.array .int) true := ⟨RX7, TX7, 27, gcl7, by decide, gB_mem (k := 732) (by decide +kernel) (by decide +kernel), rfl, by decide +kernel, fun _ => rfl⟩
theorem gf_X7_37 : gFL RX7 37 7 15 := ⟨RX7, TX7, 27, gcl7, by decide, gB_mem (k := 733) (by decide +kernel) (by decide +kernel)⟩
theorem gp_X7_37 : gFP RX7 37 7 15 (.array .int) true := ⟨RX7, TX7, 27, gcl7, by decide, gB_mem (k := 733) (by decide +kernel) (by decide +kernel), rfl, by decide +kernel, fun _ => rfl⟩
theorem gf_X7_40 : gFL RX7 40 7 16 := ⟨RX7, TX7, 27, gcl7, by decide, gB_mem (k := 734) (by decide +kernel) (by decide +kernel)⟩
theorem gp_X7_40 : gFP RX7 40 7 16 (.array .int) true := ⟨RX7, TX7, 27, gcl7, by decide, gB_mem (k := 734) (by decide +kernel) (by decide +kernel), rfl, by decide +kernel, fun _ => rfl⟩
theorem gf_X7_43 : gFL RX7 43 7 17 := ⟨RX7, TX7, 27, gcl7, by decide, gB_mem (k := 735) (by decide +kernel) (by decide +kernel)⟩
theorem gp_X7_43 : gFP RX7 43 7 17 (.array .boolean) true := ⟨RX7, TX7, 27, gcl7, by decide, gB_mem (k := 735) (by decide +kernel) (by decide +kernel), rfl, by decide +kernel, fun _ => rfl⟩
theorem gf_X7_47 : gFL RX7 47 7 18 := ⟨RX7, TX7, 27, gcl7, by decide, gB_mem (k := 736) (by decide +kernel) (by decide +kernel)⟩
theorem gp_X7_47 : gFP RX7 47 7 18 (.array .int) true := ⟨RX7, TX7, 27, gcl7, by decide, gB_mem (k := 736) (by decide +kernel) (by decide +kernel), rfl, by decide +kernel, fun _ => rfl⟩
theorem gf_X7_50 : gFL RX7 50 7 19 := ⟨RX7, TX7, 27, gcl7, by decide, gB_mem (k := 737) (by decide +kernel) (by decide +kernel)⟩
theorem gp_X7_50 : gFP RX7 50 7 19 (.array .int) true := ⟨RX7, TX7, 27, gcl7, by decide, gB_mem (k := 737) (by decide +kernel) (by decide +kernel), rfl, by decide +kernel, fun _ => rfl⟩
theorem gf_X7_53 : gFL RX7 53 7 20 := ⟨RX7, TX7, 27, gcl7, by decide, gB_mem (k := 738) (by decide +kernel) (by decide +kernel)⟩
theorem gp_X7_53 : gFP RX7 53 7 20 (.array .int) true := ⟨RX7, TX7, 27, gcl7, by decide, gB_mem (k := 738) (by decide +kernel) (by decide +kernel), rfl, by decide +kernel, fun _ => rfl⟩
theorem gf_X7_56 : gFL RX7 56 7 21 := ⟨RX7, TX7, 27, gcl7, by decide, gB_mem (k := 739) (by decide +kernel) (by decide +kernel)⟩
theorem gp_X7_56 : gFP RX7 56 7 21 (.array .boolean) true := ⟨RX7, TX7, 27, gcl7, by decide, gB_mem (k := 739) (by decide +kernel) (by decide +kernel), rfl, by decide +kernel, fun _ => rfl⟩
theorem gf_X7_59 : gFL RX7 59 7 22 := ⟨RX7, TX7, 27, gcl7, by decide, gB_mem (k := 740) (by decide +kernel) (by decide +kernel)⟩
theorem gp_X7_59 : gFP RX7 59 7 22 (.array .int) true := ⟨RX7, TX7, 27, gcl7, by decide, gB_mem (k := 740) (by decide +kernel) (by decide +kernel), rfl, by decide +kernel, fun _ => rfl⟩
theorem gf_X7_62 : gFL RX7 62 7 23 := ⟨RX7, TX7, 27, gcl7, by decide, gB_mem (k := 741) (by decide +kernel) (by decide +kernel)⟩
theorem gp_X7_62 : gFP RX7 62 7 23 (.array .int) true := ⟨RX7, TX7, 27, gcl7, by decide, gB_mem (k := 741) (by decide +kernel) (by decide +kernel), rfl, by decide +kernel, fun _ => rfl⟩
theorem gf_X7_65 : gFL RX7 65 7 24 := ⟨RX7, TX7, 27, gcl7, by decide, gB_mem (k := 742) (by decide +kernel) (by decide +kernel)⟩
theorem gp_X7_65 : gFP RX7 65 7 24 (.array .int) true := ⟨RX7, TX7, 27, gcl7, by decide, gB_mem (k := 742) (by decide +kernel) (by decide +kernel), rfl, by decide +kernel, fun _ => rfl⟩
theorem gf_X7_68 : gFL RX7 68 7 25 := ⟨RX7, TX7, 27, gcl7, by decide, gB_mem (k := 743) (by decide +kernel) (by decide +kernel)⟩
theorem gp_X7_68 : gFP RX7 68 7 25 (.array .int) true := ⟨RX7, TX7, 27, gcl7, by decide, gB_mem (k := 743) (by decide +kernel) (by decide +kernel), rfl, by decide +kernel, fun _ => rfl⟩
theorem gf_X7_71 : gFL RX7 71 7 2 := ⟨RX7, TX7, 27, gcl7, by decide, gB_mem (k := 720) (by decide +kernel) (by decide +kernel)⟩
theorem gp_X7_71 : gFP RX7 71 7 2 .int false := ⟨RX7, TX7, 27, gcl7, by decide, gB_mem (k := 720) (by decide +kernel) (by decide +kernel), rfl, by decide +kernel, fun h => by cases h⟩
theorem gf_X7_79 : gFL RX7 79 7 4 := ⟨RX7, TX7, 27, gcl7, by decide, gB_mem (k := 722) (by decide +kernel) (by decide +kernel)⟩
theorem gp_X7_79 : gFP RX7 79 7 4 .int false := ⟨RX7, TX7, 27, gcl7, by decide, gB_mem (k := 722) (by decide +kernel) (by decide +kernel), rfl, by decide +kernel, fun h => by cases h⟩
theorem gf_X7_82 : gFL RX7 82 7 5 := ⟨RX7, TX7, 27, gcl7, by decide, gB_mem (k := 723) (by decide +kernel) (by decide +kernel)⟩
theorem gp_X7_82 : gFP RX7 82 7 5 .int false := ⟨RX7, TX7, 27, gcl7, by decide, gB_mem (k := 723) (by decide +kernel) (by decide +kernel), rfl, by decide +kernel, fun h => by cases h⟩
theorem gf_X7_89 : gFL RX7 89 7 6 := ⟨RX7, TX7, 27, gcl7, by decide, gB_mem (k := 724) (by decide +kernel) (by decide +kernel)⟩
theorem gp_X7_89 : gFP RX7 89 7 6 .int false := ⟨RX7, TX7, 27, gcl7, by decide, gB_mem (k := 724) (by decide +kernel) (by decide +kernel), rfl, by decide +kernel, fun h => by cases h⟩
theorem gf_X7_176 : gFL RX7 176 7 9 := ⟨RX7, TX7, 27, gcl7, by decide, gB_mem (k := 727) (by decide +kernel) (by decide +kernel)⟩
theorem gp_X7_176 : gFP RX7 176 7 9 .int false := ⟨RX7, TX7, 27, gcl7, by decide, gB_mem (k := 727) (by decide +kernel) (by decide +kernel), rfl, by decide +kernel, fun h => by cases h⟩
theorem gf_X7_182 : gFL RX7 182 7 13 := ⟨RX7, TX7, 27, gcl7, by decide, gB_mem (k := 731) (by decide +kernel) (by decide +kernel)⟩
theorem gp_X7_182 : gFP RX7 182 7 13 .int false := ⟨RX7, TX7, 27, gcl7, by decide, gB_mem (k := 731) (by decide +kernel) (by decide +kernel), rfl, by decide +kernel, fun h => by cases h⟩
theorem gf_X7_252 : gFL RX7 252 7 26 := ⟨RX7, TX7, 27, gcl7, by decide, gB_mem (k := 744) (by decide +kernel) (by decide +kernel)⟩
theorem gp_X7_252 : gFP RX7 252 7 26 .long false := ⟨RX7, TX7, 27, gcl7, by decide, gB_mem (k := 744) (by decide +kernel) (by decide +kernel), rfl, by decide +kernel, fun h => by cases h⟩
abbrev fJ0_charAt_5068e : gF := (yJ0_charAt_5068e, cJ0_charAt_5068e, 2, some .char, 4, 85)
theorem mJ0_charAt_5068e : gMi fJ0_charAt_5068e 1 := ⟨gB_mem (k := 397) (by decide +kernel) (by decide +kernel), gB_mem (k := 71) (by decide +kernel) (by decide +kernel), by decide +kernel, by decide +kernel, by decide +kernel⟩
theorem imJ0_charAt_5068e : Cond.instanceMethod yJ0_charAt_5068e ∈ gB := gB_mem (k := 395) (by decide +kernel) (by decide +kernel)
theorem seJ0_charAt_5068e : Cond.selects RJ0 yJ0_charAt_5068e yJ0_charAt_5068e ∈ gB := gB_mem (k := 396) (by decide +kernel) (by decide +kernel)
abbrev fJ0_checkIndex_df160 : gF := (yJ0_checkIndex_df160, cJ0_checkIndex_df160, 2, none, 1, 22)
theorem mJ0_checkIndex_df160 : gMi fJ0_checkIndex_df160 2 := ⟨gB_mem (k := 407) (by decide +kernel) (by decide +kernel), gB_mem (k := 71) (by decide +kernel) (by decide +kernel), by decide +kernel, by decide +kernel, by decide +kernel⟩
theorem smJ0_checkIndex_df160 : Cond.static yJ0_checkIndex_df160 ∈ gB := gB_mem (k := 406) (by decide +kernel) (by decide +kernel)
abbrev fJ0_coder_7d493 : gF := (yJ0_coder_7d493, cJ0_coder_7d493, 1, some .byte, 0, 0)
theorem mJ0_coder_7d493 : gMi fJ0_coder_7d493 0 := ⟨gB_mem (k := 391) (by decide +kernel) (by decide +kernel), gB_mem (k := 71) (by decide +kernel) (by decide +kernel), by decide +kernel, by decide +kernel, by decide +kernel⟩
theorem imJ0_coder_7d493 : Cond.instanceMethod yJ0_coder_7d493 ∈ gB := gB_mem (k := 389) (by decide +kernel) (by decide +kernel)
theorem seJ0_coder_7d493 : Cond.selects RJ0 yJ0_coder_7d493 yJ0_coder_7d493 ∈ gB := gB_mem (k := 390) (by decide +kernel) (by decide +kernel)
abbrev fJ0_isLatin1_aae02 : gF := (yJ0_isLatin1_aae02, cJ0_isLatin1_aae02, 1, some .boolean, 0, 0)
theorem mJ0_isLatin1_aae02 : gMi fJ0_isLatin1_aae02 0 := ⟨gB_mem (k := 401) (by decide +kernel) (by decide +kernel), gB_mem (k := 71) (by decide +kernel) (by decide +kernel), by decide +kernel, by decide +kernel, by decide +kernel⟩
theorem imJ0_isLatin1_aae02 : Cond.instanceMethod yJ0_isLatin1_aae02 ∈ gB := gB_mem (k := 399) (by decide +kernel) (by decide +kernel)
theorem seJ0_isLatin1_aae02 : Cond.selects RJ0 yJ0_isLatin1_aae02 yJ0_isLatin1_aae02 ∈ gB := gB_mem (k := 400) (by decide +kernel) (by decide +kernel)
abbrev fJ0_length_8abf5 : gF := (yJ0_length_8abf5, cJ0_length_8abf5, 1, some .int, 1, 20)
theorem mJ0_length_8abf5 : gMi fJ0_length_8abf5 0 := ⟨gB_mem (k := 387) (by decide +kernel) (by decide +kernel), gB_mem (k := 71) (by decide +kernel) (by decide +kernel), by decide +kernel, by decide +kernel, by decide +kernel⟩
theorem imJ0_length_8abf5 : Cond.instanceMethod yJ0_length_8abf5 ∈ gB := gB_mem (k := 385) (by decide +kernel) (by decide +kernel)
theorem seJ0_length_8abf5 : Cond.selects RJ0 yJ0_length_8abf5 yJ0_length_8abf5 ∈ gB := gB_mem (k := 386) (by decide +kernel) (by decide +kernel)
abbrev fJ1_charAt_3b067 : gF := (yJ1_charAt_3b067, cJ1_charAt_3b067, 2, some .char, 2, 43)
theorem mJ1_charAt_3b067 : gMi fJ1_charAt_3b067 2 := ⟨gB_mem (k := 404) (by decide +kernel) (by decide +kernel), gB_mem (k := 72) (by decide +kernel) (by decide +kernel), by decide +kernel, by decide +kernel, by decide +kernel⟩
theorem smJ1_charAt_3b067 : Cond.static yJ1_charAt_3b067 ∈ gB := gB_mem (k := 403) (by decide +kernel) (by decide +kernel)
abbrev fJ2_charAt_3b067 : gF := (yJ2_charAt_3b067, cJ2_charAt_3b067, 2, some .char, 3, 64)
theorem mJ2_charAt_3b067 : gMi fJ2_charAt_3b067 2 := ⟨gB_mem (k := 415) (by decide +kernel) (by decide +kernel), gB_mem (k := 74) (by decide +kernel) (by decide +kernel), by decide +kernel, by decide +kernel, by decide +kernel⟩
theorem smJ2_charAt_3b067 : Cond.static yJ2_charAt_3b067 ∈ gB := gB_mem (k := 414) (by decide +kernel) (by decide +kernel)
abbrev fJ2_checkIndex_2214a : gF := (yJ2_checkIndex_2214a, cJ2_checkIndex_2214a, 2, none, 2, 43)
theorem mJ2_checkIndex_2214a : gMi fJ2_checkIndex_2214a 2 := ⟨gB_mem (k := 418) (by decide +kernel) (by decide +kernel), gB_mem (k := 74) (by decide +kernel) (by decide +kernel), by decide +kernel, by decide +kernel, by decide +kernel⟩
theorem smJ2_checkIndex_2214a : Cond.static yJ2_checkIndex_2214a ∈ gB := gB_mem (k := 417) (by decide +kernel) (by decide +kernel)
abbrev fJ2_getChar_3b067 : gF := (yJ2_getChar_3b067, cJ2_getChar_3b067, 2, some .char, 1, 20)
theorem mJ2_getChar_3b067 : gMi fJ2_getChar_3b067 2 := ⟨gB_mem (k := 425) (by decide +kernel) (by decide +kernel), gB_mem (k := 74) (by decide +kernel) (by decide +kernel), by decide +kernel, by decide +kernel, by decide +kernel⟩
theorem smJ2_getChar_3b067 : Cond.static yJ2_getChar_3b067 ∈ gB := gB_mem (k := 424) (by decide +kernel) (by decide +kernel)
abbrev fJ2_length_9d52b : gF := (yJ2_length_9d52b, cJ2_length_9d52b, 1, some .int, 0, 0)
theorem mJ2_length_9d52b : gMi fJ2_length_9d52b 1 := ⟨gB_mem (k := 421) (by decide +kernel) (by decide +kernel), gB_mem (k := 74) (by decide +kernel) (by decide +kernel), by decide +kernel, by decide +kernel, by decide +kernel⟩
theorem smJ2_length_9d52b : Cond.static yJ2_length_9d52b ∈ gB := gB_mem (k := 420) (by decide +kernel) (by decide +kernel)
abbrev fJ3_checkIndex_8e157 : gF := (yJ3_checkIndex_8e157, cJ3_checkIndex_8e157, 3, some .int, 0, 0)
theorem mJ3_checkIndex_8e157 : gMi fJ3_checkIndex_8e157 3 := ⟨gB_mem (k := 412) (by decide +kernel) (by decide +kernel), gB_mem (k := 73) (by decide +kernel) (by decide +kernel), by decide +kernel, by decide +kernel, by decide +kernel⟩
theorem smJ3_checkIndex_8e157 : Cond.static yJ3_checkIndex_8e157 ∈ gB := gB_mem (k := 411) (by decide +kernel) (by decide +kernel)
abbrev fJ9_floorDiv_7cf53 : gF := (yJ9_floorDiv_7cf53, cJ9_floorDiv_7cf53, 3, some .int, 0, 0)
theorem mJ9_floorDiv_7cf53 : gMi fJ9_floorDiv_7cf53 2 := ⟨gB_mem (k := 556) (by decide +kernel) (by decide +kernel), gB_mem (k := 75) (by decide +kernel) (by decide +kernel), by decide +kernel, by decide +kernel, by decide +kernel⟩
theorem smJ9_floorDiv_7cf53 : Cond.static yJ9_floorDiv_7cf53 ∈ gB := gB_mem (k := 555) (by decide +kernel) (by decide +kernel)
abbrev fJ9_floorMod_7cf53 : gF := (yJ9_floorMod_7cf53, cJ9_floorMod_7cf53, 3, some .int, 0, 0)
theorem mJ9_floorMod_7cf53 : gMi fJ9_floorMod_7cf53 2 := ⟨gB_mem (k := 442) (by decide +kernel) (by decide +kernel), gB_mem (k := 75) (by decide +kernel) (by decide +kernel), by decide +kernel, by decide +kernel, by decide +kernel⟩
theorem smJ9_floorMod_7cf53 : Cond.static yJ9_floorMod_7cf53 ∈ gB := gB_mem (k := 441) (by decide +kernel) (by decide +kernel)
abbrev fJ9_max_7cf53 : gF := (yJ9_max_7cf53, cJ9_max_7cf53, 2, some .int, 0, 0)
theorem mJ9_max_7cf53 : gMi fJ9_max_7cf53 2 := ⟨gB_mem (k := 498) (by decide +kernel) (by decide +kernel), gB_mem (k := 75) (by decide +kernel) (by decide +kernel), by decide +kernel, by decide +kernel, by decide +kernel⟩
theorem smJ9_max_7cf53 : Cond.static yJ9_max_7cf53 ∈ gB := gB_mem (k := 497) (by decide +kernel) (by decide +kernel)
abbrev fJ9_min_7cf53 : gF := (yJ9_min_7cf53, cJ9_min_7cf53, 2, some .int, 0, 0)
theorem mJ9_min_7cf53 : gMi fJ9_min_7cf53 2 := ⟨gB_mem (k := 446) (by decide +kernel) (by decide +kernel), gB_mem (k := 75) (by decide +kernel) (by decide +kernel), by decide +kernel, by decide +kernel, by decide +kernel⟩
theorem smJ9_min_7cf53 : Cond.static yJ9_min_7cf53 ∈ gB := gB_mem (k := 445) (by decide +kernel) (by decide +kernel)
abbrev fL_law : gF := (x, code, maxLocals, ret, 11, 394)
abbrev fX0_init : gF := (yX0_init, cX0_init, 1, none, 1, 20)
theorem mX0_init : gMi fX0_init 0 := ⟨gB_mem (k := 140) (by decide +kernel) (by decide +kernel), gB_mem (k := 66) (by decide +kernel) (by decide +kernel), by decide +kernel, by decide +kernel, by decide +kernel⟩
theorem imX0_init : Cond.instanceMethod yX0_init ∈ gB := gB_mem (k := 139) (by decide +kernel) (by decide +kernel)
abbrev fX0_record : gF := (yX0_record, cX0_record, 3, none, 1, 26)
theorem mX0_record : gMi fX0_record 1 := ⟨gB_mem (k := 439) (by decide +kernel) (by decide +kernel), gB_mem (k := 66) (by decide +kernel) (by decide +kernel), by decide +kernel, by decide +kernel, by decide +kernel⟩
theorem imX0_record : Cond.instanceMethod yX0_record ∈ gB := gB_mem (k := 437) (by decide +kernel) (by decide +kernel)
theorem seX0_record : Cond.selects RX0 yX0_record yX0_record ∈ gB := gB_mem (k := 438) (by decide +kernel) (by decide +kernel)
abbrev fX0_restore : gF := (yX0_restore, cX0_restore, 3, none, 1, 26)
theorem mX0_restore : gMi fX0_restore 1 := ⟨gB_mem (k := 631) (by decide +kernel) (by decide +kernel), gB_mem (k := 66) (by decide +kernel) (by decide +kernel), by decide +kernel, by decide +kernel, by decide +kernel⟩
theorem imX0_restore : Cond.instanceMethod yX0_restore ∈ gB := gB_mem (k := 629) (by decide +kernel) (by decide +kernel)
theorem seX0_restore : Cond.selects RX0 yX0_restore yX0_restore ∈ gB := gB_mem (k := 630) (by decide +kernel) (by decide +kernel)
abbrev fX1_allHaveRoom : gF := (yX1_allHaveRoom, cX1_allHaveRoom, 2, some .boolean, 4, 104)
theorem mX1_allHaveRoom : gMi fX1_allHaveRoom 0 := ⟨gB_mem (k := 686) (by decide +kernel) (by decide +kernel), gB_mem (k := 68) (by decide +kernel) (by decide +kernel), by decide +kernel, by decide +kernel, by decide +kernel⟩
theorem imX1_allHaveRoom : Cond.instanceMethod yX1_allHaveRoom ∈ gB := gB_mem (k := 684) (by decide +kernel) (by decide +kernel)
theorem seX1_allHaveRoom : Cond.selects RX1 yX1_allHaveRoom yX1_allHaveRoom ∈ gB := gB_mem (k := 685) (by decide +kernel) (by decide +kernel)
abbrev fX1_breakUp : gF := (yX1_breakUp, cX1_breakUp, 7, none, 1, 21)
theorem mX1_breakUp : gMi fX1_breakUp 1 := ⟨gB_mem (k := 512) (by decide +kernel) (by decide +kernel), gB_mem (k := 68) (by decide +kernel) (by decide +kernel), by decide +kernel, by decide +kernel, by decide +kernel⟩
theorem imX1_breakUp : Cond.instanceMethod yX1_breakUp ∈ gB := gB_mem (k := 510) (by decide +kernel) (by decide +kernel)
theorem seX1_breakUp : Cond.selects RX1 yX1_breakUp yX1_breakUp ∈ gB := gB_mem (k := 511) (by decide +kernel) (by decide +kernel)
abbrev fX1_end : gF := (yX1_end, cX1_end, 2, some .int, 0, 0)
theorem mX1_end : gMi fX1_end 1 := ⟨gB_mem (k := 529) (by decide +kernel) (by decide +kernel), gB_mem (k := 68) (by decide +kernel) (by decide +kernel), by decide +kernel, by decide +kernel, by decide +kernel⟩
theorem imX1_end : Cond.instanceMethod yX1_end ∈ gB := gB_mem (k := 527) (by decide +kernel) (by decide +kernel)
theorem seX1_end : Cond.selects RX1 yX1_end yX1_end ∈ gB := gB_mem (k := 528) (by decide +kernel) (by decide +kernel)
abbrev fX1_freezeCorrected : gF := (yX1_freezeCorrected, cX1_freezeCorrected, 7, none, 1, 21)
theorem mX1_freezeCorrected : gMi fX1_freezeCorrected 3 := ⟨gB_mem (k := 560) (by decide +kernel) (by decide +kernel), gB_mem (k := 68) (by decide +kernel) (by decide +kernel), by decide +kernel, by decide +kernel, by decide +kernel⟩
theorem imX1_freezeCorrected : Cond.instanceMethod yX1_freezeCorrected ∈ gB := gB_mem (k := 559) (by decide +kernel) (by decide +kernel)
theorem seX1_freezeCorrected : Cond.selects RX1 yX1_freezeCorrected yX1_freezeCorrected ∈ gB := gB_mem (k := 12) (by decide +kernel) (by decide +kernel)
abbrev fX1_freezeStiff : gF := (yX1_freezeStiff, cX1_freezeStiff, 5, none, 2, 46)
theorem mX1_freezeStiff : gMi fX1_freezeStiff 3 := ⟨gB_mem (k := 533) (by decide +kernel) (by decide +kernel), gB_mem (k := 68) (by decide +kernel) (by decide +kernel), by decide +kernel, by decide +kernel, by decide +kernel⟩
theorem imX1_freezeStiff : Cond.instanceMethod yX1_freezeStiff ∈ gB := gB_mem (k := 532) (by decide +kernel) (by decide +kernel)
theorem seX1_freezeStiff : Cond.selects RX1 yX1_freezeStiff yX1_freezeStiff ∈ gB := gB_mem (k := 9) (by decide +kernel) (by decide +kernel)
abbrev fX1_hasOpen : gF := (yX1_hasOpen, cX1_hasOpen, 4, some .boolean, 0, 0)
theorem mX1_hasOpen : gMi fX1_hasOpen 2 := ⟨gB_mem (k := 541) (by decide +kernel) (by decide +kernel), gB_mem (k := 68) (by decide +kernel) (by decide +kernel), by decide +kernel, by decide +kernel, by decide +kernel⟩
theorem imX1_hasOpen : Cond.instanceMethod yX1_hasOpen ∈ gB := gB_mem (k := 540) (by decide +kernel) (by decide +kernel)
theorem seX1_hasOpen : Cond.selects RX1 yX1_hasOpen yX1_hasOpen ∈ gB := gB_mem (k := 10) (by decide +kernel) (by decide +kernel)
abbrev fX1_init : gF := (yX1_init, cX1_init, 3, none, 1, 20)
theorem mX1_init : gMi fX1_init 2 := ⟨gB_mem (k := 206) (by decide +kernel) (by decide +kernel), gB_mem (k := 68) (by decide +kernel) (by decide +kernel), by decide +kernel, by decide +kernel, by decide +kernel⟩
theorem imX1_init : Cond.instanceMethod yX1_init ∈ gB := gB_mem (k := 205) (by decide +kernel) (by decide +kernel)
abbrev fX1_lineOf : gF := (yX1_lineOf, cX1_lineOf, 3, some .int, 0, 0)
theorem mX1_lineOf : gMi fX1_lineOf 1 := ⟨gB_mem (k := 648) (by decide +kernel) (by decide +kernel), gB_mem (k := 68) (by decide +kernel) (by decide +kernel), by decide +kernel, by decide +kernel, by decide +kernel⟩
theorem imX1_lineOf : Cond.instanceMethod yX1_lineOf ∈ gB := gB_mem (k := 646) (by decide +kernel) (by decide +kernel)
theorem seX1_lineOf : Cond.selects RX1 yX1_lineOf yX1_lineOf ∈ gB := gB_mem (k := 647) (by decide +kernel) (by decide +kernel)
abbrev fX1_part : gF := (yX1_part, cX1_part, 3, some .int, 1, 22)
theorem mX1_part : gMi fX1_part 3 := ⟨gB_mem (k := 553) (by decide +kernel) (by decide +kernel), gB_mem (k := 68) (by decide +kernel) (by decide +kernel), by decide +kernel, by decide +kernel, by decide +kernel⟩
theorem smX1_part : Cond.static yX1_part ∈ gB := gB_mem (k := 552) (by decide +kernel) (by decide +kernel)
abbrev fX1_share : gF := (yX1_share, cX1_share, 2, none, 4, 104)
theorem mX1_share : gMi fX1_share 0 := ⟨gB_mem (k := 521) (by decide +kernel) (by decide +kernel), gB_mem (k := 68) (by decide +kernel) (by decide +kernel), by decide +kernel, by decide +kernel, by decide +kernel⟩
theorem imX1_share : Cond.instanceMethod yX1_share ∈ gB := gB_mem (k := 519) (by decide +kernel) (by decide +kernel)
theorem seX1_share : Cond.selects RX1 yX1_share yX1_share ∈ gB := gB_mem (k := 520) (by decide +kernel) (by decide +kernel)
abbrev fX1_shareLine : gF := (yX1_shareLine, cX1_shareLine, 8, none, 3, 77)
theorem mX1_shareLine : gMi fX1_shareLine 1 := ⟨gB_mem (k := 525) (by decide +kernel) (by decide +kernel), gB_mem (k := 68) (by decide +kernel) (by decide +kernel), by decide +kernel, by decide +kernel, by decide +kernel⟩
theorem imX1_shareLine : Cond.instanceMethod yX1_shareLine ∈ gB := gB_mem (k := 524) (by decide +kernel) (by decide +kernel)
theorem seX1_shareLine : Cond.selects RX1 yX1_shareLine yX1_shareLine ∈ gB := gB_mem (k := 8) (by decide +kernel) (by decide +kernel)
abbrev fX1_shareOut : gF := (yX1_shareOut, cX1_shareOut, 12, none, 2, 46)
theorem mX1_shareOut : gMi fX1_shareOut 4 := ⟨gB_mem (k := 545) (by decide +kernel) (by decide +kernel), gB_mem (k := 68) (by decide +kernel) (by decide +kernel), by decide +kernel, by decide +kernel, by decide +kernel⟩
theorem imX1_shareOut : Cond.instanceMethod yX1_shareOut ∈ gB := gB_mem (k := 544) (by decide +kernel) (by decide +kernel)
theorem seX1_shareOut : Cond.selects RX1 yX1_shareOut yX1_shareOut ∈ gB := gB_mem (k := 11) (by decide +kernel) (by decide +kernel)
abbrev fX2_enter : gF := (yX2_enter, cX2_enter, 4, none, 1, 23)
theorem mX2_enter : gMi fX2_enter 1 := ⟨gB_mem (k := 491) (by decide +kernel) (by decide +kernel), gB_mem (k := 67) (by decide +kernel) (by decide +kernel), by decide +kernel, by decide +kernel, by decide +kernel⟩
theorem imX2_enter : Cond.instanceMethod yX2_enter ∈ gB := gB_mem (k := 490) (by decide +kernel) (by decide +kernel)
theorem seX2_enter : Cond.selects RX2 yX2_enter yX2_enter ∈ gB := gB_mem (k := 7) (by decide +kernel) (by decide +kernel)
abbrev fX2_init : gF := (yX2_init, cX2_init, 2, none, 1, 20)
theorem mX2_init : gMi fX2_init 1 := ⟨gB_mem (k := 163) (by decide +kernel) (by decide +kernel), gB_mem (k := 67) (by decide +kernel) (by decide +kernel), by decide +kernel, by decide +kernel, by decide +kernel⟩
theorem imX2_init : Cond.instanceMethod yX2_init ∈ gB := gB_mem (k := 162) (by decide +kernel) (by decide +kernel)
abbrev fX2_isStiff : gF := (yX2_isStiff, cX2_isStiff, 4, some .boolean, 1, 23)
theorem mX2_isStiff : gMi fX2_isStiff 2 := ⟨gB_mem (k := 537) (by decide +kernel) (by decide +kernel), gB_mem (k := 67) (by decide +kernel) (by decide +kernel), by decide +kernel, by decide +kernel, by decide +kernel⟩
theorem imX2_isStiff : Cond.instanceMethod yX2_isStiff ∈ gB := gB_mem (k := 535) (by decide +kernel) (by decide +kernel)
theorem seX2_isStiff : Cond.selects RX2 yX2_isStiff yX2_isStiff ∈ gB := gB_mem (k := 536) (by decide +kernel) (by decide +kernel)
abbrev fX2_itemAt : gF := (yX2_itemAt, cX2_itemAt, 2, some .int, 0, 0)
theorem mX2_itemAt : gMi fX2_itemAt 1 := ⟨gB_mem (k := 657) (by decide +kernel) (by decide +kernel), gB_mem (k := 67) (by decide +kernel) (by decide +kernel), by decide +kernel, by decide +kernel, by decide +kernel⟩
theorem imX2_itemAt : Cond.instanceMethod yX2_itemAt ∈ gB := gB_mem (k := 655) (by decide +kernel) (by decide +kernel)
theorem seX2_itemAt : Cond.selects RX2 yX2_itemAt yX2_itemAt ∈ gB := gB_mem (k := 656) (by decide +kernel) (by decide +kernel)
abbrev fX2_outerWish : gF := (yX2_outerWish, cX2_outerWish, 2, some .int, 0, 0)
theorem mX2_outerWish : gMi fX2_outerWish 1 := ⟨gB_mem (k := 517) (by decide +kernel) (by decide +kernel), gB_mem (k := 67) (by decide +kernel) (by decide +kernel), by decide +kernel, by decide +kernel, by decide +kernel⟩
theorem imX2_outerWish : Cond.instanceMethod yX2_outerWish ∈ gB := gB_mem (k := 515) (by decide +kernel) (by decide +kernel)
theorem seX2_outerWish : Cond.selects RX2 yX2_outerWish yX2_outerWish ∈ gB := gB_mem (k := 516) (by decide +kernel) (by decide +kernel)
abbrev fX2_placeOf : gF := (yX2_placeOf, cX2_placeOf, 3, some .int, 0, 0)
theorem mX2_placeOf : gMi fX2_placeOf 1 := ⟨gB_mem (k := 599) (by decide +kernel) (by decide +kernel), gB_mem (k := 67) (by decide +kernel) (by decide +kernel), by decide +kernel, by decide +kernel, by decide +kernel⟩
theorem imX2_placeOf : Cond.instanceMethod yX2_placeOf ∈ gB := gB_mem (k := 597) (by decide +kernel) (by decide +kernel)
theorem seX2_placeOf : Cond.selects RX2 yX2_placeOf yX2_placeOf ∈ gB := gB_mem (k := 598) (by decide +kernel) (by decide +kernel)
abbrev fX2_sort : gF := (yX2_sort, cX2_sort, 3, none, 3, 65)
theorem mX2_sort : gMi fX2_sort 0 := ⟨gB_mem (k := 486) (by decide +kernel) (by decide +kernel), gB_mem (k := 67) (by decide +kernel) (by decide +kernel), by decide +kernel, by decide +kernel, by decide +kernel⟩
theorem imX2_sort : Cond.instanceMethod yX2_sort ∈ gB := gB_mem (k := 484) (by decide +kernel) (by decide +kernel)
theorem seX2_sort : Cond.selects RX2 yX2_sort yX2_sort ∈ gB := gB_mem (k := 485) (by decide +kernel) (by decide +kernel)
abbrev fX2_weight : gF := (yX2_weight, cX2_weight, 4, some .int, 1, 23)
theorem mX2_weight : gMi fX2_weight 2 := ⟨gB_mem (k := 549) (by decide +kernel) (by decide +kernel), gB_mem (k := 67) (by decide +kernel) (by decide +kernel), by decide +kernel, by decide +kernel, by decide +kernel⟩
theorem imX2_weight : Cond.instanceMethod yX2_weight ∈ gB := gB_mem (k := 547) (by decide +kernel) (by decide +kernel)
theorem seX2_weight : Cond.selects RX2 yX2_weight yX2_weight ∈ gB := gB_mem (k := 548) (by decide +kernel) (by decide +kernel)
abbrev fX3_covers : gF := (yX3_covers, cX3_covers, 5, some .boolean, 1, 23)
theorem mX3_covers : gMi fX3_covers 3 := ⟨gB_mem (k := 674) (by decide +kernel) (by decide +kernel), gB_mem (k := 69) (by decide +kernel) (by decide +kernel), by decide +kernel, by decide +kernel, by decide +kernel⟩
theorem imX3_covers : Cond.instanceMethod yX3_covers ∈ gB := gB_mem (k := 672) (by decide +kernel) (by decide +kernel)
theorem seX3_covers : Cond.selects RX3 yX3_covers yX3_covers ∈ gB := gB_mem (k := 673) (by decide +kernel) (by decide +kernel)
abbrev fX3_end : gF := (yX3_end, cX3_end, 2, some .int, 0, 0)
theorem mX3_end : gMi fX3_end 1 := ⟨gB_mem (k := 678) (by decide +kernel) (by decide +kernel), gB_mem (k := 69) (by decide +kernel) (by decide +kernel), by decide +kernel, by decide +kernel, by decide +kernel⟩
theorem imX3_end : Cond.instanceMethod yX3_end ∈ gB := gB_mem (k := 676) (by decide +kernel) (by decide +kernel)
theorem seX3_end : Cond.selects RX3 yX3_end yX3_end ∈ gB := gB_mem (k := 677) (by decide +kernel) (by decide +kernel)
abbrev fX3_find : gF := (yX3_find, cX3_find, 3, none, 4, 98)
theorem mX3_find : gMi fX3_find 0 := ⟨gB_mem (k := 565) (by decide +kernel) (by decide +kernel), gB_mem (k := 69) (by decide +kernel) (by decide +kernel), by decide +kernel, by decide +kernel, by decide +kernel⟩
theorem imX3_find : Cond.instanceMethod yX3_find ∈ gB := gB_mem (k := 563) (by decide +kernel) (by decide +kernel)
theorem seX3_find : Cond.selects RX3 yX3_find yX3_find ∈ gB := gB_mem (k := 564) (by decide +kernel) (by decide +kernel)
abbrev fX3_init : gF := (yX3_init, cX3_init, 4, none, 1, 20)
theorem mX3_init : gMi fX3_init 3 := ⟨gB_mem (k := 262) (by decide +kernel) (by decide +kernel), gB_mem (k := 69) (by decide +kernel) (by decide +kernel), by decide +kernel, by decide +kernel, by decide +kernel⟩
theorem imX3_init : Cond.instanceMethod yX3_init ∈ gB := gB_mem (k := 261) (by decide +kernel) (by decide +kernel)
abbrev fX3_lowered : gF := (yX3_lowered, cX3_lowered, 5, some .int, 2, 45)
theorem mX3_lowered : gMi fX3_lowered 3 := ⟨gB_mem (k := 595) (by decide +kernel) (by decide +kernel), gB_mem (k := 69) (by decide +kernel) (by decide +kernel), by decide +kernel, by decide +kernel, by decide +kernel⟩
theorem imX3_lowered : Cond.instanceMethod yX3_lowered ∈ gB := gB_mem (k := 594) (by decide +kernel) (by decide +kernel)
theorem seX3_lowered : Cond.selects RX3 yX3_lowered yX3_lowered ∈ gB := gB_mem (k := 16) (by decide +kernel) (by decide +kernel)
abbrev fX3_setAcross : gF := (yX3_setAcross, cX3_setAcross, 10, none, 3, 69)
theorem mX3_setAcross : gMi fX3_setAcross 2 := ⟨gB_mem (k := 580) (by decide +kernel) (by decide +kernel), gB_mem (k := 69) (by decide +kernel) (by decide +kernel), by decide +kernel, by decide +kernel, by decide +kernel⟩
theorem imX3_setAcross : Cond.instanceMethod yX3_setAcross ∈ gB := gB_mem (k := 579) (by decide +kernel) (by decide +kernel)
theorem seX3_setAcross : Cond.selects RX3 yX3_setAcross yX3_setAcross ∈ gB := gB_mem (k := 15) (by decide +kernel) (by decide +kernel)
abbrev fX3_setAlong : gF := (yX3_setAlong, cX3_setAlong, 10, none, 2, 46)
theorem mX3_setAlong : gMi fX3_setAlong 1 := ⟨gB_mem (k := 569) (by decide +kernel) (by decide +kernel), gB_mem (k := 69) (by decide +kernel) (by decide +kernel), by decide +kernel, by decide +kernel, by decide +kernel⟩
theorem imX3_setAlong : Cond.instanceMethod yX3_setAlong ∈ gB := gB_mem (k := 568) (by decide +kernel) (by decide +kernel)
theorem seX3_setAlong : Cond.selects RX3 yX3_setAlong yX3_setAlong ∈ gB := gB_mem (k := 13) (by decide +kernel) (by decide +kernel)
abbrev fX3_shift : gF := (yX3_shift, cX3_shift, 5, some .int, 1, 22)
theorem mX3_shift : gMi fX3_shift 3 := ⟨gB_mem (k := 575) (by decide +kernel) (by decide +kernel), gB_mem (k := 69) (by decide +kernel) (by decide +kernel), by decide +kernel, by decide +kernel, by decide +kernel⟩
theorem imX3_shift : Cond.instanceMethod yX3_shift ∈ gB := gB_mem (k := 574) (by decide +kernel) (by decide +kernel)
theorem seX3_shift : Cond.selects RX3 yX3_shift yX3_shift ∈ gB := gB_mem (k := 14) (by decide +kernel) (by decide +kernel)
abbrev fX4_above : gF := (yX4_above, cX4_above, 2, some .int, 1, 23)
theorem mX4_above : gMi fX4_above 1 := ⟨gB_mem (k := 591) (by decide +kernel) (by decide +kernel), gB_mem (k := 64) (by decide +kernel) (by decide +kernel), by decide +kernel, by decide +kernel, by decide +kernel⟩
theorem imX4_above : Cond.instanceMethod yX4_above ∈ gB := gB_mem (k := 589) (by decide +kernel) (by decide +kernel)
theorem seX4_above : Cond.selects RX4 yX4_above yX4_above ∈ gB := gB_mem (k := 590) (by decide +kernel) (by decide +kernel)
abbrev fX4_append : gF := (yX4_append, cX4_append, 3, none, 1, 23)
theorem mX4_append : gMi fX4_append 1 := ⟨gB_mem (k := 450) (by decide +kernel) (by decide +kernel), gB_mem (k := 64) (by decide +kernel) (by decide +kernel), by decide +kernel, by decide +kernel, by decide +kernel⟩
theorem imX4_append : Cond.instanceMethod yX4_append ∈ gB := gB_mem (k := 448) (by decide +kernel) (by decide +kernel)
theorem seX4_append : Cond.selects RX4 yX4_append yX4_append ∈ gB := gB_mem (k := 449) (by decide +kernel) (by decide +kernel)
abbrev fX4_carry : gF := (yX4_carry, cX4_carry, 4, none, 2, 47)
theorem mX4_carry : gMi fX4_carry 2 := ⟨gB_mem (k := 458) (by decide +kernel) (by decide +kernel), gB_mem (k := 64) (by decide +kernel) (by decide +kernel), by decide +kernel, by decide +kernel, by decide +kernel⟩
theorem imX4_carry : Cond.instanceMethod yX4_carry ∈ gB := gB_mem (k := 456) (by decide +kernel) (by decide +kernel)
theorem seX4_carry : Cond.selects RX4 yX4_carry yX4_carry ∈ gB := gB_mem (k := 457) (by decide +kernel) (by decide +kernel)
abbrev fX4_greatest : gF := (yX4_greatest, cX4_greatest, 2, some .int, 1, 23)
theorem mX4_greatest : gMi fX4_greatest 1 := ⟨gB_mem (k := 495) (by decide +kernel) (by decide +kernel), gB_mem (k := 64) (by decide +kernel) (by decide +kernel), by decide +kernel, by decide +kernel, by decide +kernel⟩
theorem imX4_greatest : Cond.instanceMethod yX4_greatest ∈ gB := gB_mem (k := 493) (by decide +kernel) (by decide +kernel)
theorem seX4_greatest : Cond.selects RX4 yX4_greatest yX4_greatest ∈ gB := gB_mem (k := 494) (by decide +kernel) (by decide +kernel)
abbrev fX4_has : gF := (yX4_has, cX4_has, 2, some .boolean, 0, 0)
theorem mX4_has : gMi fX4_has 1 := ⟨gB_mem (k := 474) (by decide +kernel) (by decide +kernel), gB_mem (k := 64) (by decide +kernel) (by decide +kernel), by decide +kernel, by decide +kernel, by decide +kernel⟩
theorem imX4_has : Cond.instanceMethod yX4_has ∈ gB := gB_mem (k := 472) (by decide +kernel) (by decide +kernel)
theorem seX4_has : Cond.selects RX4 yX4_has yX4_has ∈ gB := gB_mem (k := 473) (by decide +kernel) (by decide +kernel)
abbrev fX4_init : gF := (yX4_init, cX4_init, 1, none, 1, 26)
theorem mX4_init : gMi fX4_init 0 := ⟨gB_mem (k := 114) (by decide +kernel) (by decide +kernel), gB_mem (k := 64) (by decide +kernel) (by decide +kernel), by decide +kernel, by decide +kernel, by decide +kernel⟩
theorem imX4_init : Cond.instanceMethod yX4_init ∈ gB := gB_mem (k := 113) (by decide +kernel) (by decide +kernel)
abbrev fX4_number : gF := (yX4_number, cX4_number, 2, some .int, 0, 0)
theorem mX4_number : gMi fX4_number 1 := ⟨gB_mem (k := 508) (by decide +kernel) (by decide +kernel), gB_mem (k := 64) (by decide +kernel) (by decide +kernel), by decide +kernel, by decide +kernel, by decide +kernel⟩
theorem imX4_number : Cond.instanceMethod yX4_number ∈ gB := gB_mem (k := 506) (by decide +kernel) (by decide +kernel)
theorem seX4_number : Cond.selects RX4 yX4_number yX4_number ∈ gB := gB_mem (k := 507) (by decide +kernel) (by decide +kernel)
abbrev fX4_property : gF := (yX4_property, cX4_property, 4, some .int, 0, 0)
theorem mX4_property : gMi fX4_property 2 := ⟨gB_mem (k := 466) (by decide +kernel) (by decide +kernel), gB_mem (k := 64) (by decide +kernel) (by decide +kernel), by decide +kernel, by decide +kernel, by decide +kernel⟩
theorem imX4_property : Cond.instanceMethod yX4_property ∈ gB := gB_mem (k := 464) (by decide +kernel) (by decide +kernel)
theorem seX4_property : Cond.selects RX4 yX4_property yX4_property ∈ gB := gB_mem (k := 465) (by decide +kernel) (by decide +kernel)
abbrev fX4_put : gF := (yX4_put, cX4_put, 4, none, 0, 0)
theorem mX4_put : gMi fX4_put 3 := ⟨gB_mem (k := 454) (by decide +kernel) (by decide +kernel), gB_mem (k := 64) (by decide +kernel) (by decide +kernel), by decide +kernel, by decide +kernel, by decide +kernel⟩
theorem imX4_put : Cond.instanceMethod yX4_put ∈ gB := gB_mem (k := 452) (by decide +kernel) (by decide +kernel)
theorem seX4_put : Cond.selects RX4 yX4_put yX4_put ∈ gB := gB_mem (k := 453) (by decide +kernel) (by decide +kernel)
abbrev fX4_setNumber : gF := (yX4_setNumber, cX4_setNumber, 3, none, 0, 0)
theorem mX4_setNumber : gMi fX4_setNumber 2 := ⟨gB_mem (k := 623) (by decide +kernel) (by decide +kernel), gB_mem (k := 64) (by decide +kernel) (by decide +kernel), by decide +kernel, by decide +kernel, by decide +kernel⟩
theorem imX4_setNumber : Cond.instanceMethod yX4_setNumber ∈ gB := gB_mem (k := 621) (by decide +kernel) (by decide +kernel)
theorem seX4_setNumber : Cond.selects RX4 yX4_setNumber yX4_setNumber ∈ gB := gB_mem (k := 622) (by decide +kernel) (by decide +kernel)
abbrev fX4_swap : gF := (yX4_swap, cX4_swap, 5, none, 1, 23)
theorem mX4_swap : gMi fX4_swap 2 := ⟨gB_mem (k := 462) (by decide +kernel) (by decide +kernel), gB_mem (k := 64) (by decide +kernel) (by decide +kernel), by decide +kernel, by decide +kernel, by decide +kernel⟩
theorem imX4_swap : Cond.instanceMethod yX4_swap ∈ gB := gB_mem (k := 461) (by decide +kernel) (by decide +kernel)
theorem seX4_swap : Cond.selects RX4 yX4_swap yX4_swap ∈ gB := gB_mem (k := 5) (by decide +kernel) (by decide +kernel)
abbrev fX4_wayAcross : gF := (yX4_wayAcross, cX4_wayAcross, 3, some .int, 1, 23)
theorem mX4_wayAcross : gMi fX4_wayAcross 1 := ⟨gB_mem (k := 586) (by decide +kernel) (by decide +kernel), gB_mem (k := 64) (by decide +kernel) (by decide +kernel), by decide +kernel, by decide +kernel, by decide +kernel⟩
theorem imX4_wayAcross : Cond.instanceMethod yX4_wayAcross ∈ gB := gB_mem (k := 584) (by decide +kernel) (by decide +kernel)
theorem seX4_wayAcross : Cond.selects RX4 yX4_wayAcross yX4_wayAcross ∈ gB := gB_mem (k := 585) (by decide +kernel) (by decide +kernel)
abbrev fX4_wish : gF := (yX4_wish, cX4_wish, 2, some .int, 2, 44)
theorem mX4_wish : gMi fX4_wish 1 := ⟨gB_mem (k := 502) (by decide +kernel) (by decide +kernel), gB_mem (k := 64) (by decide +kernel) (by decide +kernel), by decide +kernel, by decide +kernel, by decide +kernel⟩
theorem imX4_wish : Cond.instanceMethod yX4_wish ∈ gB := gB_mem (k := 500) (by decide +kernel) (by decide +kernel)
theorem seX4_wish : Cond.selects RX4 yX4_wish yX4_wish ∈ gB := gB_mem (k := 501) (by decide +kernel) (by decide +kernel)
abbrev fX5_append : gF := (yX5_append, cX5_append, 2, some .boolean, 0, 0)
theorem mX5_append : gMi fX5_append 1 := ⟨gB_mem (k := 326) (by decide +kernel) (by decide +kernel), gB_mem (k := 63) (by decide +kernel) (by decide +kernel), by decide +kernel, by decide +kernel, by decide +kernel⟩
theorem imX5_append : Cond.instanceMethod yX5_append ∈ gB := gB_mem (k := 324) (by decide +kernel) (by decide +kernel)
theorem seX5_append : Cond.selects RX5 yX5_append yX5_append ∈ gB := gB_mem (k := 325) (by decide +kernel) (by decide +kernel)
abbrev fX5_byteAt : gF := (yX5_byteAt, cX5_byteAt, 2, some .int, 0, 0)
theorem mX5_byteAt : gMi fX5_byteAt 1 := ⟨gB_mem (k := 353) (by decide +kernel) (by decide +kernel), gB_mem (k := 63) (by decide +kernel) (by decide +kernel), by decide +kernel, by decide +kernel, by decide +kernel⟩
theorem imX5_byteAt : Cond.instanceMethod yX5_byteAt ∈ gB := gB_mem (k := 351) (by decide +kernel) (by decide +kernel)
theorem seX5_byteAt : Cond.selects RX5 yX5_byteAt yX5_byteAt ∈ gB := gB_mem (k := 352) (by decide +kernel) (by decide +kernel)
abbrev fX5_init : gF := (yX5_init, cX5_init, 1, none, 1, 20)
theorem mX5_init : gMi fX5_init 0 := ⟨gB_mem (k := 88) (by decide +kernel) (by decide +kernel), gB_mem (k := 63) (by decide +kernel) (by decide +kernel), by decide +kernel, by decide +kernel, by decide +kernel⟩
theorem imX5_init : Cond.instanceMethod yX5_init ∈ gB := gB_mem (k := 87) (by decide +kernel) (by decide +kernel)
abbrev fX5_isDigit : gF := (yX5_isDigit, cX5_isDigit, 1, some .boolean, 0, 0)
theorem mX5_isDigit : gMi fX5_isDigit 1 := ⟨gB_mem (k := 356) (by decide +kernel) (by decide +kernel), gB_mem (k := 63) (by decide +kernel) (by decide +kernel), by decide +kernel, by decide +kernel, by decide +kernel⟩
theorem smX5_isDigit : Cond.static yX5_isDigit ∈ gB := gB_mem (k := 355) (by decide +kernel) (by decide +kernel)
abbrev fX5_isLetter : gF := (yX5_isLetter, cX5_isLetter, 1, some .boolean, 0, 0)
theorem mX5_isLetter : gMi fX5_isLetter 1 := ⟨gB_mem (k := 367) (by decide +kernel) (by decide +kernel), gB_mem (k := 63) (by decide +kernel) (by decide +kernel), by decide +kernel, by decide +kernel, by decide +kernel⟩
theorem smX5_isLetter : Cond.static yX5_isLetter ∈ gB := gB_mem (k := 366) (by decide +kernel) (by decide +kernel)
abbrev fX5_read : gF := (yX5_read, cX5_read, 4, some .int, 7, 152)
theorem mX5_read : gMi fX5_read 0 := ⟨gB_mem (k := 338) (by decide +kernel) (by decide +kernel), gB_mem (k := 63) (by decide +kernel) (by decide +kernel), by decide +kernel, by decide +kernel, by decide +kernel⟩
theorem imX5_read : Cond.instanceMethod yX5_read ∈ gB := gB_mem (k := 336) (by decide +kernel) (by decide +kernel)
theorem seX5_read : Cond.selects RX5 yX5_read yX5_read ∈ gB := gB_mem (k := 337) (by decide +kernel) (by decide +kernel)
abbrev fX5_readNumber : gF := (yX5_readNumber, cX5_readNumber, 6, some .int, 2, 41)
theorem mX5_readNumber : gMi fX5_readNumber 1 := ⟨gB_mem (k := 345) (by decide +kernel) (by decide +kernel), gB_mem (k := 63) (by decide +kernel) (by decide +kernel), by decide +kernel, by decide +kernel, by decide +kernel⟩
theorem imX5_readNumber : Cond.instanceMethod yX5_readNumber ∈ gB := gB_mem (k := 344) (by decide +kernel) (by decide +kernel)
theorem seX5_readNumber : Cond.selects RX5 yX5_readNumber yX5_readNumber ∈ gB := gB_mem (k := 0) (by decide +kernel) (by decide +kernel)
abbrev fX5_readWord : gF := (yX5_readWord, cX5_readWord, 4, some .int, 6, 129)
theorem mX5_readWord : gMi fX5_readWord 0 := ⟨gB_mem (k := 364) (by decide +kernel) (by decide +kernel), gB_mem (k := 63) (by decide +kernel) (by decide +kernel), by decide +kernel, by decide +kernel, by decide +kernel⟩
theorem imX5_readWord : Cond.instanceMethod yX5_readWord ∈ gB := gB_mem (k := 363) (by decide +kernel) (by decide +kernel)
theorem seX5_readWord : Cond.selects RX5 yX5_readWord yX5_readWord ∈ gB := gB_mem (k := 2) (by decide +kernel) (by decide +kernel)
abbrev fX5_skipBlanks : gF := (yX5_skipBlanks, cX5_skipBlanks, 1, none, 1, 21)
theorem mX5_skipBlanks : gMi fX5_skipBlanks 0 := ⟨gB_mem (k := 349) (by decide +kernel) (by decide +kernel), gB_mem (k := 63) (by decide +kernel) (by decide +kernel), by decide +kernel, by decide +kernel, by decide +kernel⟩
theorem imX5_skipBlanks : Cond.instanceMethod yX5_skipBlanks ∈ gB := gB_mem (k := 348) (by decide +kernel) (by decide +kernel)
theorem seX5_skipBlanks : Cond.selects RX5 yX5_skipBlanks yX5_skipBlanks ∈ gB := gB_mem (k := 1) (by decide +kernel) (by decide +kernel)
abbrev fX5_stands : gF := (yX5_stands, cX5_stands, 4, some .boolean, 5, 106)
theorem mX5_stands : gMi fX5_stands 2 := ⟨gB_mem (k := 383) (by decide +kernel) (by decide +kernel), gB_mem (k := 63) (by decide +kernel) (by decide +kernel), by decide +kernel, by decide +kernel, by decide +kernel⟩
theorem imX5_stands : Cond.instanceMethod yX5_stands ∈ gB := gB_mem (k := 382) (by decide +kernel) (by decide +kernel)
theorem seX5_stands : Cond.selects RX5 yX5_stands yX5_stands ∈ gB := gB_mem (k := 3) (by decide +kernel) (by decide +kernel)
abbrev fX5_word : gF := (yX5_word, cX5_word, 1, some (.object "java/lang/String"), 0, 0)
theorem mX5_word : gMi fX5_word 1 := ⟨gB_mem (k := 370) (by decide +kernel) (by decide +kernel), gB_mem (k := 63) (by decide +kernel) (by decide +kernel), by decide +kernel, by decide +kernel, by decide +kernel⟩
theorem smX5_word : Cond.static yX5_word ∈ gB := gB_mem (k := 369) (by decide +kernel) (by decide +kernel)
abbrev fX6_at : gF := (yX6_at, cX6_at, 4, some .int, 6, 145)
theorem mX6_at : gMi fX6_at 2 := ⟨gB_mem (k := 670) (by decide +kernel) (by decide +kernel), gB_mem (k := 62) (by decide +kernel) (by decide +kernel), by decide +kernel, by decide +kernel, by decide +kernel⟩
theorem imX6_at : Cond.instanceMethod yX6_at ∈ gB := gB_mem (k := 668) (by decide +kernel) (by decide +kernel)
theorem seX6_at : Cond.selects RX6 yX6_at yX6_at ∈ gB := gB_mem (k := 669) (by decide +kernel) (by decide +kernel)
abbrev fX6_beforeChange : gF := (yX6_beforeChange, cX6_beforeChange, 1, none, 2, 48)
theorem mX6_beforeChange : gMi fX6_beforeChange 0 := ⟨gB_mem (k := 435) (by decide +kernel) (by decide +kernel), gB_mem (k := 62) (by decide +kernel) (by decide +kernel), by decide +kernel, by decide +kernel, by decide +kernel⟩
theorem imX6_beforeChange : Cond.instanceMethod yX6_beforeChange ∈ gB := gB_mem (k := 434) (by decide +kernel) (by decide +kernel)
theorem seX6_beforeChange : Cond.selects RX6 yX6_beforeChange yX6_beforeChange ∈ gB := gB_mem (k := 4) (by decide +kernel) (by decide +kernel)
abbrev fX6_change : gF := (yX6_change, cX6_change, 5, some .int, 3, 68)
theorem mX6_change : gMi fX6_change 3 := ⟨gB_mem (k := 603) (by decide +kernel) (by decide +kernel), gB_mem (k := 62) (by decide +kernel) (by decide +kernel), by decide +kernel, by decide +kernel, by decide +kernel⟩
theorem imX6_change : Cond.instanceMethod yX6_change ∈ gB := gB_mem (k := 601) (by decide +kernel) (by decide +kernel)
theorem seX6_change : Cond.selects RX6 yX6_change yX6_change ∈ gB := gB_mem (k := 602) (by decide +kernel) (by decide +kernel)
abbrev fX6_clear : gF := (yX6_clear, cX6_clear, 2, some .int, 0, 0)
theorem mX6_clear : gMi fX6_clear 0 := ⟨gB_mem (k := 330) (by decide +kernel) (by decide +kernel), gB_mem (k := 62) (by decide +kernel) (by decide +kernel), by decide +kernel, by decide +kernel, by decide +kernel⟩
theorem imX6_clear : Cond.instanceMethod yX6_clear ∈ gB := gB_mem (k := 328) (by decide +kernel) (by decide +kernel)
theorem seX6_clear : Cond.selects RX6 yX6_clear yX6_clear ∈ gB := gB_mem (k := 329) (by decide +kernel) (by decide +kernel)
abbrev fX6_count : gF := (yX6_count, cX6_count, 2, some .int, 6, 145)
theorem mX6_count : gMi fX6_count 1 := ⟨gB_mem (k := 690) (by decide +kernel) (by decide +kernel), gB_mem (k := 62) (by decide +kernel) (by decide +kernel), by decide +kernel, by decide +kernel, by decide +kernel⟩
theorem imX6_count : Cond.instanceMethod yX6_count ∈ gB := gB_mem (k := 688) (by decide +kernel) (by decide +kernel)
theorem seX6_count : Cond.selects RX6 yX6_count yX6_count ∈ gB := gB_mem (k := 689) (by decide +kernel) (by decide +kernel)
abbrev fX6_counted : gF := (yX6_counted, cX6_counted, 2, some .int, 2, 43)
theorem mX6_counted : gMi fX6_counted 1 := ⟨gB_mem (k := 694) (by decide +kernel) (by decide +kernel), gB_mem (k := 62) (by decide +kernel) (by decide +kernel), by decide +kernel, by decide +kernel, by decide +kernel⟩
theorem imX6_counted : Cond.instanceMethod yX6_counted ∈ gB := gB_mem (k := 693) (by decide +kernel) (by decide +kernel)
theorem seX6_counted : Cond.selects RX6 yX6_counted yX6_counted ∈ gB := gB_mem (k := 19) (by decide +kernel) (by decide +kernel)
abbrev fX6_digest : gF := (yX6_digest, cX6_digest, 5, some .long, 6, 145)
theorem mX6_digest : gMi fX6_digest 0 := ⟨gB_mem (k := 704) (by decide +kernel) (by decide +kernel), gB_mem (k := 62) (by decide +kernel) (by decide +kernel), by decide +kernel, by decide +kernel, by decide +kernel⟩
theorem imX6_digest : Cond.instanceMethod yX6_digest ∈ gB := gB_mem (k := 702) (by decide +kernel) (by decide +kernel)
theorem seX6_digest : Cond.selects RX6 yX6_digest yX6_digest ∈ gB := gB_mem (k := 703) (by decide +kernel) (by decide +kernel)
abbrev fX6_greatestEnd : gF := (yX6_greatestEnd, cX6_greatestEnd, 3, some .int, 1, 21)
theorem mX6_greatestEnd : gMi fX6_greatestEnd 0 := ⟨gB_mem (k := 698) (by decide +kernel) (by decide +kernel), gB_mem (k := 62) (by decide +kernel) (by decide +kernel), by decide +kernel, by decide +kernel, by decide +kernel⟩
theorem imX6_greatestEnd : Cond.instanceMethod yX6_greatestEnd ∈ gB := gB_mem (k := 697) (by decide +kernel) (by decide +kernel)
theorem seX6_greatestEnd : Cond.selects RX6 yX6_greatestEnd yX6_greatestEnd ∈ gB := gB_mem (k := 20) (by decide +kernel) (by decide +kernel)
abbrev fX6_hide : gF := (yX6_hide, cX6_hide, 3, some .int, 3, 68)
theorem mX6_hide : gMi fX6_hide 1 := ⟨gB_mem (k := 611) (by decide +kernel) (by decide +kernel), gB_mem (k := 62) (by decide +kernel) (by decide +kernel), by decide +kernel, by decide +kernel, by decide +kernel⟩
theorem imX6_hide : Cond.instanceMethod yX6_hide ∈ gB := gB_mem (k := 609) (by decide +kernel) (by decide +kernel)
theorem seX6_hide : Cond.selects RX6 yX6_hide yX6_hide ∈ gB := gB_mem (k := 610) (by decide +kernel) (by decide +kernel)
abbrev fX6_init : gF := (yX6_init, cX6_init, 1, none, 2, 46)
theorem mX6_init : gMi fX6_init 0 := ⟨gB_mem (k := 80) (by decide +kernel) (by decide +kernel), gB_mem (k := 62) (by decide +kernel) (by decide +kernel), by decide +kernel, by decide +kernel, by decide +kernel⟩
theorem imX6_init : Cond.instanceMethod yX6_init ∈ gB := gB_mem (k := 79) (by decide +kernel) (by decide +kernel)
abbrev fX6_insert : gF := (yX6_insert, cX6_insert, 3, some .int, 8, 175)
theorem mX6_insert : gMi fX6_insert 1 := ⟨gB_mem (k := 334) (by decide +kernel) (by decide +kernel), gB_mem (k := 62) (by decide +kernel) (by decide +kernel), by decide +kernel, by decide +kernel, by decide +kernel⟩
theorem imX6_insert : Cond.instanceMethod yX6_insert ∈ gB := gB_mem (k := 332) (by decide +kernel) (by decide +kernel)
theorem seX6_insert : Cond.selects RX6 yX6_insert yX6_insert ∈ gB := gB_mem (k := 333) (by decide +kernel) (by decide +kernel)
abbrev fX6_item : gF := (yX6_item, cX6_item, 3, some .int, 3, 65)
theorem mX6_item : gMi fX6_item 2 := ⟨gB_mem (k := 635) (by decide +kernel) (by decide +kernel), gB_mem (k := 62) (by decide +kernel) (by decide +kernel), by decide +kernel, by decide +kernel, by decide +kernel⟩
theorem imX6_item : Cond.instanceMethod yX6_item ∈ gB := gB_mem (k := 633) (by decide +kernel) (by decide +kernel)
theorem seX6_item : Cond.selects RX6 yX6_item yX6_item ∈ gB := gB_mem (k := 634) (by decide +kernel) (by decide +kernel)
abbrev fX6_layOut : gF := (yX6_layOut, cX6_layOut, 1, none, 5, 125)
theorem mX6_layOut : gMi fX6_layOut 0 := ⟨gB_mem (k := 482) (by decide +kernel) (by decide +kernel), gB_mem (k := 62) (by decide +kernel) (by decide +kernel), by decide +kernel, by decide +kernel, by decide +kernel⟩
theorem imX6_layOut : Cond.instanceMethod yX6_layOut ∈ gB := gB_mem (k := 481) (by decide +kernel) (by decide +kernel)
theorem seX6_layOut : Cond.selects RX6 yX6_layOut yX6_layOut ∈ gB := gB_mem (k := 6) (by decide +kernel) (by decide +kernel)
abbrev fX6_leastWidth : gF := (yX6_leastWidth, cX6_leastWidth, 6, some .int, 5, 125)
theorem mX6_leastWidth : gMi fX6_leastWidth 2 := ⟨gB_mem (k := 682) (by decide +kernel) (by decide +kernel), gB_mem (k := 62) (by decide +kernel) (by decide +kernel), by decide +kernel, by decide +kernel, by decide +kernel⟩
theorem imX6_leastWidth : Cond.instanceMethod yX6_leastWidth ∈ gB := gB_mem (k := 680) (by decide +kernel) (by decide +kernel)
theorem seX6_leastWidth : Cond.selects RX6 yX6_leastWidth yX6_leastWidth ∈ gB := gB_mem (k := 681) (by decide +kernel) (by decide +kernel)
abbrev fX6_lieAt : gF := (yX6_lieAt, cX6_lieAt, 4, some .int, 2, 44)
theorem mX6_lieAt : gMi fX6_lieAt 2 := ⟨gB_mem (k := 644) (by decide +kernel) (by decide +kernel), gB_mem (k := 62) (by decide +kernel) (by decide +kernel), by decide +kernel, by decide +kernel, by decide +kernel⟩
theorem imX6_lieAt : Cond.instanceMethod yX6_lieAt ∈ gB := gB_mem (k := 643) (by decide +kernel) (by decide +kernel)
theorem seX6_lieAt : Cond.selects RX6 yX6_lieAt yX6_lieAt ∈ gB := gB_mem (k := 17) (by decide +kernel) (by decide +kernel)
abbrev fX6_lies : gF := (yX6_lies, cX6_lies, 3, some .int, 6, 145)
theorem mX6_lies : gMi fX6_lies 2 := ⟨gB_mem (k := 640) (by decide +kernel) (by decide +kernel), gB_mem (k := 62) (by decide +kernel) (by decide +kernel), by decide +kernel, by decide +kernel, by decide +kernel⟩
theorem imX6_lies : Cond.instanceMethod yX6_lies ∈ gB := gB_mem (k := 638) (by decide +kernel) (by decide +kernel)
theorem seX6_lies : Cond.selects RX6 yX6_lies yX6_lies ∈ gB := gB_mem (k := 639) (by decide +kernel) (by decide +kernel)
abbrev fX6_line : gF := (yX6_line, cX6_line, 3, some .int, 6, 145)
theorem mX6_line : gMi fX6_line 2 := ⟨gB_mem (k := 661) (by decide +kernel) (by decide +kernel), gB_mem (k := 62) (by decide +kernel) (by decide +kernel), by decide +kernel, by decide +kernel, by decide +kernel⟩
theorem imX6_line : Cond.instanceMethod yX6_line ∈ gB := gB_mem (k := 659) (by decide +kernel) (by decide +kernel)
theorem seX6_line : Cond.selects RX6 yX6_line yX6_line ∈ gB := gB_mem (k := 660) (by decide +kernel) (by decide +kernel)
abbrev fX6_lineTells : gF := (yX6_lineTells, cX6_lineTells, 3, some .int, 1, 21)
theorem mX6_lineTells : gMi fX6_lineTells 2 := ⟨gB_mem (k := 665) (by decide +kernel) (by decide +kernel), gB_mem (k := 62) (by decide +kernel) (by decide +kernel), by decide +kernel, by decide +kernel, by decide +kernel⟩
theorem imX6_lineTells : Cond.instanceMethod yX6_lineTells ∈ gB := gB_mem (k := 664) (by decide +kernel) (by decide +kernel)
theorem seX6_lineTells : Cond.selects RX6 yX6_lineTells yX6_lineTells ∈ gB := gB_mem (k := 18) (by decide +kernel) (by decide +kernel)
abbrev fX6_move : gF := (yX6_move, cX6_move, 3, some .int, 6, 145)
theorem mX6_move : gMi fX6_move 2 := ⟨gB_mem (k := 478) (by decide +kernel) (by decide +kernel), gB_mem (k := 62) (by decide +kernel) (by decide +kernel), by decide +kernel, by decide +kernel, by decide +kernel⟩
theorem imX6_move : Cond.instanceMethod yX6_move ∈ gB := gB_mem (k := 476) (by decide +kernel) (by decide +kernel)
theorem seX6_move : Cond.selects RX6 yX6_move yX6_move ∈ gB := gB_mem (k := 477) (by decide +kernel) (by decide +kernel)
abbrev fX6_ordered : gF := (yX6_ordered, cX6_ordered, 2, some .int, 6, 145)
theorem mX6_ordered : gMi fX6_ordered 1 := ⟨gB_mem (k := 653) (by decide +kernel) (by decide +kernel), gB_mem (k := 62) (by decide +kernel) (by decide +kernel), by decide +kernel, by decide +kernel, by decide +kernel⟩
theorem imX6_ordered : Cond.instanceMethod yX6_ordered ∈ gB := gB_mem (k := 651) (by decide +kernel) (by decide +kernel)
theorem seX6_ordered : Cond.selects RX6 yX6_ordered yX6_ordered ∈ gB := gB_mem (k := 652) (by decide +kernel) (by decide +kernel)
abbrev fX6_remove : gF := (yX6_remove, cX6_remove, 2, some .int, 3, 70)
theorem mX6_remove : gMi fX6_remove 1 := ⟨gB_mem (k := 470) (by decide +kernel) (by decide +kernel), gB_mem (k := 62) (by decide +kernel) (by decide +kernel), by decide +kernel, by decide +kernel, by decide +kernel⟩
theorem imX6_remove : Cond.instanceMethod yX6_remove ∈ gB := gB_mem (k := 468) (by decide +kernel) (by decide +kernel)
theorem seX6_remove : Cond.selects RX6 yX6_remove yX6_remove ∈ gB := gB_mem (k := 469) (by decide +kernel) (by decide +kernel)
abbrev fX6_set : gF := (yX6_set, cX6_set, 4, some .int, 3, 68)
theorem mX6_set : gMi fX6_set 2 := ⟨gB_mem (k := 615) (by decide +kernel) (by decide +kernel), gB_mem (k := 62) (by decide +kernel) (by decide +kernel), by decide +kernel, by decide +kernel, by decide +kernel⟩
theorem imX6_set : Cond.instanceMethod yX6_set ∈ gB := gB_mem (k := 613) (by decide +kernel) (by decide +kernel)
theorem seX6_set : Cond.selects RX6 yX6_set yX6_set ∈ gB := gB_mem (k := 614) (by decide +kernel) (by decide +kernel)
abbrev fX6_type : gF := (yX6_type, cX6_type, 2, some .int, 1, 21)
theorem mX6_type : gMi fX6_type 1 := ⟨gB_mem (k := 322) (by decide +kernel) (by decide +kernel), gB_mem (k := 62) (by decide +kernel) (by decide +kernel), by decide +kernel, by decide +kernel, by decide +kernel⟩
theorem imX6_type : Cond.instanceMethod yX6_type ∈ gB := gB_mem (k := 320) (by decide +kernel) (by decide +kernel)
theorem seX6_type : Cond.selects RX6 yX6_type yX6_type ∈ gB := gB_mem (k := 321) (by decide +kernel) (by decide +kernel)
abbrev fX6_undo : gF := (yX6_undo, cX6_undo, 1, some .int, 2, 48)
theorem mX6_undo : gMi fX6_undo 0 := ⟨gB_mem (k := 627) (by decide +kernel) (by decide +kernel), gB_mem (k := 62) (by decide +kernel) (by decide +kernel), by decide +kernel, by decide +kernel, by decide +kernel⟩
theorem imX6_undo : Cond.instanceMethod yX6_undo ∈ gB := gB_mem (k := 625) (by decide +kernel) (by decide +kernel)
theorem seX6_undo : Cond.selects RX6 yX6_undo yX6_undo ∈ gB := gB_mem (k := 626) (by decide +kernel) (by decide +kernel)
abbrev fX6_withItem : gF := (yX6_withItem, cX6_withItem, 6, some .long, 3, 67)
theorem mX6_withItem : gMi fX6_withItem 2 := ⟨gB_mem (k := 710) (by decide +kernel) (by decide +kernel), gB_mem (k := 62) (by decide +kernel) (by decide +kernel), by decide +kernel, by decide +kernel, by decide +kernel⟩
theorem imX6_withItem : Cond.instanceMethod yX6_withItem ∈ gB := gB_mem (k := 709) (by decide +kernel) (by decide +kernel)
theorem seX6_withItem : Cond.selects RX6 yX6_withItem yX6_withItem ∈ gB := gB_mem (k := 21) (by decide +kernel) (by decide +kernel)
abbrev fX7_above : gF := (yX7_above, cX7_above, 2, some .int, 1, 22)
theorem mX7_above : gMi fX7_above 1 := ⟨gB_mem (k := 967) (by decide +kernel) (by decide +kernel), gB_mem (k := 70) (by decide +kernel) (by decide +kernel), by decide +kernel, by decide +kernel, by decide +kernel⟩
theorem imX7_above : Cond.instanceMethod yX7_above ∈ gB := gB_mem (k := 966) (by decide +kernel) (by decide +kernel)
theorem seX7_above : Cond.selects RX7 yX7_above yX7_above ∈ gB := gB_mem (k := 50) (by decide +kernel) (by decide +kernel)
abbrev fX7_across : gF := (yX7_across, cX7_across, 8, none, 2, 44)
theorem mX7_across : gMi fX7_across 1 := ⟨gB_mem (k := 959) (by decide +kernel) (by decide +kernel), gB_mem (k := 70) (by decide +kernel) (by decide +kernel), by decide +kernel, by decide +kernel, by decide +kernel⟩
theorem imX7_across : Cond.instanceMethod yX7_across ∈ gB := gB_mem (k := 958) (by decide +kernel) (by decide +kernel)
theorem seX7_across : Cond.selects RX7 yX7_across yX7_across ∈ gB := gB_mem (k := 48) (by decide +kernel) (by decide +kernel)
abbrev fX7_along : gF := (yX7_along, cX7_along, 7, none, 2, 46)
theorem mX7_along : gMi fX7_along 2 := ⟨gB_mem (k := 948) (by decide +kernel) (by decide +kernel), gB_mem (k := 70) (by decide +kernel) (by decide +kernel), by decide +kernel, by decide +kernel, by decide +kernel⟩
theorem imX7_along : Cond.instanceMethod yX7_along ∈ gB := gB_mem (k := 947) (by decide +kernel) (by decide +kernel)
theorem seX7_along : Cond.selects RX7 yX7_along yX7_along ∈ gB := gB_mem (k := 46) (by decide +kernel) (by decide +kernel)
abbrev fX7_at : gF := (yX7_at, cX7_at, 6, some .int, 6, 130)
theorem mX7_at : gMi fX7_at 2 := ⟨gB_mem (k := 1015) (by decide +kernel) (by decide +kernel), gB_mem (k := 70) (by decide +kernel) (by decide +kernel), by decide +kernel, by decide +kernel, by decide +kernel⟩
theorem imX7_at : Cond.instanceMethod yX7_at ∈ gB := gB_mem (k := 1013) (by decide +kernel) (by decide +kernel)
theorem seX7_at : Cond.selects RX7 yX7_at yX7_at ∈ gB := gB_mem (k := 1014) (by decide +kernel) (by decide +kernel)
abbrev fX7_change : gF := (yX7_change, cX7_change, 5, some .int, 2, 43)
theorem mX7_change : gMi fX7_change 3 := ⟨gB_mem (k := 975) (by decide +kernel) (by decide +kernel), gB_mem (k := 70) (by decide +kernel) (by decide +kernel), by decide +kernel, by decide +kernel, by decide +kernel⟩
theorem imX7_change : Cond.instanceMethod yX7_change ∈ gB := gB_mem (k := 973) (by decide +kernel) (by decide +kernel)
theorem seX7_change : Cond.selects RX7 yX7_change yX7_change ∈ gB := gB_mem (k := 974) (by decide +kernel) (by decide +kernel)
abbrev fX7_clear : gF := (yX7_clear, cX7_clear, 2, some .int, 0, 0)
theorem mX7_clear : gMi fX7_clear 0 := ⟨gB_mem (k := 814) (by decide +kernel) (by decide +kernel), gB_mem (k := 70) (by decide +kernel) (by decide +kernel), by decide +kernel, by decide +kernel, by decide +kernel⟩
theorem imX7_clear : Cond.instanceMethod yX7_clear ∈ gB := gB_mem (k := 812) (by decide +kernel) (by decide +kernel)
theorem seX7_clear : Cond.selects RX7 yX7_clear yX7_clear ∈ gB := gB_mem (k := 813) (by decide +kernel) (by decide +kernel)
abbrev fX7_copies : gF := (yX7_copies, cX7_copies, 4, none, 0, 0)
theorem mX7_copies : gMi fX7_copies 2 := ⟨gB_mem (k := 874) (by decide +kernel) (by decide +kernel), gB_mem (k := 70) (by decide +kernel) (by decide +kernel), by decide +kernel, by decide +kernel, by decide +kernel⟩
theorem imX7_copies : Cond.instanceMethod yX7_copies ∈ gB := gB_mem (k := 873) (by decide +kernel) (by decide +kernel)
theorem seX7_copies : Cond.selects RX7 yX7_copies yX7_copies ∈ gB := gB_mem (k := 31) (by decide +kernel) (by decide +kernel)
abbrev fX7_count : gF := (yX7_count, cX7_count, 2, some .int, 6, 130)
theorem mX7_count : gMi fX7_count 1 := ⟨gB_mem (k := 1027) (by decide +kernel) (by decide +kernel), gB_mem (k := 70) (by decide +kernel) (by decide +kernel), by decide +kernel, by decide +kernel, by decide +kernel⟩
theorem imX7_count : Cond.instanceMethod yX7_count ∈ gB := gB_mem (k := 1025) (by decide +kernel) (by decide +kernel)
theorem seX7_count : Cond.selects RX7 yX7_count yX7_count ∈ gB := gB_mem (k := 1026) (by decide +kernel) (by decide +kernel)
abbrev fX7_digest : gF := (yX7_digest, cX7_digest, 2, some .long, 6, 130)
theorem mX7_digest : gMi fX7_digest 0 := ⟨gB_mem (k := 1043) (by decide +kernel) (by decide +kernel), gB_mem (k := 70) (by decide +kernel) (by decide +kernel), by decide +kernel, by decide +kernel, by decide +kernel⟩
theorem imX7_digest : Cond.instanceMethod yX7_digest ∈ gB := gB_mem (k := 1041) (by decide +kernel) (by decide +kernel)
theorem seX7_digest : Cond.selects RX7 yX7_digest yX7_digest ∈ gB := gB_mem (k := 1042) (by decide +kernel) (by decide +kernel)
abbrev fX7_down : gF := (yX7_down, cX7_down, 2, some .int, 0, 0)
theorem mX7_down : gMi fX7_down 2 := ⟨gB_mem (k := 955) (by decide +kernel) (by decide +kernel), gB_mem (k := 70) (by decide +kernel) (by decide +kernel), by decide +kernel, by decide +kernel, by decide +kernel⟩
theorem smX7_down : Cond.static yX7_down ∈ gB := gB_mem (k := 954) (by decide +kernel) (by decide +kernel)
abbrev fX7_draws : gF := (yX7_draws, cX7_draws, 3, none, 5, 108)
theorem mX7_draws : gMi fX7_draws 1 := ⟨gB_mem (k := 898) (by decide +kernel) (by decide +kernel), gB_mem (k := 70) (by decide +kernel) (by decide +kernel), by decide +kernel, by decide +kernel, by decide +kernel⟩
theorem imX7_draws : Cond.instanceMethod yX7_draws ∈ gB := gB_mem (k := 897) (by decide +kernel) (by decide +kernel)
theorem seX7_draws : Cond.selects RX7 yX7_draws yX7_draws ∈ gB := gB_mem (k := 35) (by decide +kernel) (by decide +kernel)
abbrev fX7_fails : gF := (yX7_fails, cX7_fails, 2, none, 0, 0)
theorem mX7_fails : gMi fX7_fails 1 := ⟨gB_mem (k := 842) (by decide +kernel) (by decide +kernel), gB_mem (k := 70) (by decide +kernel) (by decide +kernel), by decide +kernel, by decide +kernel, by decide +kernel⟩
theorem imX7_fails : Cond.instanceMethod yX7_fails ∈ gB := gB_mem (k := 841) (by decide +kernel) (by decide +kernel)
theorem seX7_fails : Cond.selects RX7 yX7_fails yX7_fails ∈ gB := gB_mem (k := 27) (by decide +kernel) (by decide +kernel)
abbrev fX7_farthest : gF := (yX7_farthest, cX7_farthest, 4, some .int, 0, 0)
theorem mX7_farthest : gMi fX7_farthest 0 := ⟨gB_mem (k := 1039) (by decide +kernel) (by decide +kernel), gB_mem (k := 70) (by decide +kernel) (by decide +kernel), by decide +kernel, by decide +kernel, by decide +kernel⟩
theorem imX7_farthest : Cond.instanceMethod yX7_farthest ∈ gB := gB_mem (k := 1038) (by decide +kernel) (by decide +kernel)
theorem seX7_farthest : Cond.selects RX7 yX7_farthest yX7_farthest ∈ gB := gB_mem (k := 58) (by decide +kernel) (by decide +kernel)
abbrev fX7_fits : gF := (yX7_fits, cX7_fits, 5, some .boolean, 0, 0)
theorem mX7_fits : gMi fX7_fits 2 := ⟨gB_mem (k := 1023) (by decide +kernel) (by decide +kernel), gB_mem (k := 70) (by decide +kernel) (by decide +kernel), by decide +kernel, by decide +kernel, by decide +kernel⟩
theorem imX7_fits : Cond.instanceMethod yX7_fits ∈ gB := gB_mem (k := 1022) (by decide +kernel) (by decide +kernel)
theorem seX7_fits : Cond.selects RX7 yX7_fits yX7_fits ∈ gB := gB_mem (k := 55) (by decide +kernel) (by decide +kernel)
abbrev fX7_greater : gF := (yX7_greater, cX7_greater, 2, some .int, 0, 0)
theorem mX7_greater : gMi fX7_greater 2 := ⟨gB_mem (k := 917) (by decide +kernel) (by decide +kernel), gB_mem (k := 70) (by decide +kernel) (by decide +kernel), by decide +kernel, by decide +kernel, by decide +kernel⟩
theorem smX7_greater : Cond.static yX7_greater ∈ gB := gB_mem (k := 916) (by decide +kernel) (by decide +kernel)
abbrev fX7_greatest : gF := (yX7_greatest, cX7_greatest, 2, some .int, 1, 22)
theorem mX7_greatest : gMi fX7_greatest 1 := ⟨gB_mem (k := 921) (by decide +kernel) (by decide +kernel), gB_mem (k := 70) (by decide +kernel) (by decide +kernel), by decide +kernel, by decide +kernel, by decide +kernel⟩
theorem imX7_greatest : Cond.instanceMethod yX7_greatest ∈ gB := gB_mem (k := 920) (by decide +kernel) (by decide +kernel)
theorem seX7_greatest : Cond.selects RX7 yX7_greatest yX7_greatest ∈ gB := gB_mem (k := 40) (by decide +kernel) (by decide +kernel)
abbrev fX7_hidden : gF := (yX7_hidden, cX7_hidden, 3, some .int, 1, 22)
theorem mX7_hidden : gMi fX7_hidden 0 := ⟨gB_mem (k := 1035) (by decide +kernel) (by decide +kernel), gB_mem (k := 70) (by decide +kernel) (by decide +kernel), by decide +kernel, by decide +kernel, by decide +kernel⟩
theorem imX7_hidden : Cond.instanceMethod yX7_hidden ∈ gB := gB_mem (k := 1034) (by decide +kernel) (by decide +kernel)
theorem seX7_hidden : Cond.selects RX7 yX7_hidden yX7_hidden ∈ gB := gB_mem (k := 57) (by decide +kernel) (by decide +kernel)
abbrev fX7_hide : gF := (yX7_hide, cX7_hide, 2, some .int, 2, 43)
theorem mX7_hide : gMi fX7_hide 1 := ⟨gB_mem (k := 979) (by decide +kernel) (by decide +kernel), gB_mem (k := 70) (by decide +kernel) (by decide +kernel), by decide +kernel, by decide +kernel, by decide +kernel⟩
theorem imX7_hide : Cond.instanceMethod yX7_hide ∈ gB := gB_mem (k := 977) (by decide +kernel) (by decide +kernel)
theorem seX7_hide : Cond.selects RX7 yX7_hide yX7_hide ∈ gB := gB_mem (k := 978) (by decide +kernel) (by decide +kernel)
abbrev fX7_in : gF := (yX7_in, cX7_in, 3, some .boolean, 0, 0)
theorem mX7_in : gMi fX7_in 3 := ⟨gB_mem (k := 810) (by decide +kernel) (by decide +kernel), gB_mem (k := 70) (by decide +kernel) (by decide +kernel), by decide +kernel, by decide +kernel, by decide +kernel⟩
theorem smX7_in : Cond.static yX7_in ∈ gB := gB_mem (k := 809) (by decide +kernel) (by decide +kernel)
abbrev fX7_init : gF := (yX7_init, cX7_init, 1, none, 1, 20)
theorem mX7_init : gMi fX7_init 0 := ⟨gB_mem (k := 716) (by decide +kernel) (by decide +kernel), gB_mem (k := 70) (by decide +kernel) (by decide +kernel), by decide +kernel, by decide +kernel, by decide +kernel⟩
theorem imX7_init : Cond.instanceMethod yX7_init ∈ gB := gB_mem (k := 715) (by decide +kernel) (by decide +kernel)
abbrev fX7_insert : gF := (yX7_insert, cX7_insert, 3, some .int, 4, 90)
theorem mX7_insert : gMi fX7_insert 1 := ⟨gB_mem (k := 818) (by decide +kernel) (by decide +kernel), gB_mem (k := 70) (by decide +kernel) (by decide +kernel), by decide +kernel, by decide +kernel, by decide +kernel⟩
theorem imX7_insert : Cond.instanceMethod yX7_insert ∈ gB := gB_mem (k := 816) (by decide +kernel) (by decide +kernel)
theorem seX7_insert : Cond.selects RX7 yX7_insert yX7_insert ∈ gB := gB_mem (k := 817) (by decide +kernel) (by decide +kernel)
abbrev fX7_isDigit : gF := (yX7_isDigit, cX7_isDigit, 1, some .boolean, 1, 22)
theorem mX7_isDigit : gMi fX7_isDigit 0 := ⟨gB_mem (k := 838) (by decide +kernel) (by decide +kernel), gB_mem (k := 70) (by decide +kernel) (by decide +kernel), by decide +kernel, by decide +kernel, by decide +kernel⟩
theorem imX7_isDigit : Cond.instanceMethod yX7_isDigit ∈ gB := gB_mem (k := 837) (by decide +kernel) (by decide +kernel)
theorem seX7_isDigit : Cond.selects RX7 yX7_isDigit yX7_isDigit ∈ gB := gB_mem (k := 26) (by decide +kernel) (by decide +kernel)
abbrev fX7_isItem : gF := (yX7_isItem, cX7_isItem, 2, some .boolean, 1, 22)
theorem mX7_isItem : gMi fX7_isItem 1 := ⟨gB_mem (k := 886) (by decide +kernel) (by decide +kernel), gB_mem (k := 70) (by decide +kernel) (by decide +kernel), by decide +kernel, by decide +kernel, by decide +kernel⟩
theorem imX7_isItem : Cond.instanceMethod yX7_isItem ∈ gB := gB_mem (k := 885) (by decide +kernel) (by decide +kernel)
theorem seX7_isItem : Cond.selects RX7 yX7_isItem yX7_isItem ∈ gB := gB_mem (k := 33) (by decide +kernel) (by decide +kernel)
abbrev fX7_isLeft : gF := (yX7_isLeft, cX7_isLeft, 4, some .boolean, 0, 0)
theorem mX7_isLeft : gMi fX7_isLeft 1 := ⟨gB_mem (k := 932) (by decide +kernel) (by decide +kernel), gB_mem (k := 70) (by decide +kernel) (by decide +kernel), by decide +kernel, by decide +kernel, by decide +kernel⟩
theorem imX7_isLeft : Cond.instanceMethod yX7_isLeft ∈ gB := gB_mem (k := 931) (by decide +kernel) (by decide +kernel)
theorem seX7_isLeft : Cond.selects RX7 yX7_isLeft yX7_isLeft ∈ gB := gB_mem (k := 42) (by decide +kernel) (by decide +kernel)
abbrev fX7_isWord : gF := (yX7_isWord, cX7_isWord, 7, some .boolean, 0, 0)
theorem mX7_isWord : gMi fX7_isWord 3 := ⟨gB_mem (k := 857) (by decide +kernel) (by decide +kernel), gB_mem (k := 70) (by decide +kernel) (by decide +kernel), by decide +kernel, by decide +kernel, by decide +kernel⟩
theorem imX7_isWord : Cond.instanceMethod yX7_isWord ∈ gB := gB_mem (k := 856) (by decide +kernel) (by decide +kernel)
theorem seX7_isWord : Cond.selects RX7 yX7_isWord yX7_isWord ∈ gB := gB_mem (k := 29) (by decide +kernel) (by decide +kernel)
abbrev fX7_item : gF := (yX7_item, cX7_item, 3, some .int, 3, 64)
theorem mX7_item : gMi fX7_item 2 := ⟨gB_mem (k := 987) (by decide +kernel) (by decide +kernel), gB_mem (k := 70) (by decide +kernel) (by decide +kernel), by decide +kernel, by decide +kernel, by decide +kernel⟩
theorem imX7_item : Cond.instanceMethod yX7_item ∈ gB := gB_mem (k := 985) (by decide +kernel) (by decide +kernel)
theorem seX7_item : Cond.selects RX7 yX7_item yX7_item ∈ gB := gB_mem (k := 986) (by decide +kernel) (by decide +kernel)
abbrev fX7_keeps : gF := (yX7_keeps, cX7_keeps, 2, none, 0, 0)
theorem mX7_keeps : gMi fX7_keeps 0 := ⟨gB_mem (k := 870) (by decide +kernel) (by decide +kernel), gB_mem (k := 70) (by decide +kernel) (by decide +kernel), by decide +kernel, by decide +kernel, by decide +kernel⟩
theorem imX7_keeps : Cond.instanceMethod yX7_keeps ∈ gB := gB_mem (k := 869) (by decide +kernel) (by decide +kernel)
theorem seX7_keeps : Cond.selects RX7 yX7_keeps yX7_keeps ∈ gB := gB_mem (k := 30) (by decide +kernel) (by decide +kernel)
abbrev fX7_lays : gF := (yX7_lays, cX7_lays, 3, none, 0, 0)
theorem mX7_lays : gMi fX7_lays 1 := ⟨gB_mem (k := 878) (by decide +kernel) (by decide +kernel), gB_mem (k := 70) (by decide +kernel) (by decide +kernel), by decide +kernel, by decide +kernel, by decide +kernel⟩
theorem imX7_lays : Cond.instanceMethod yX7_lays ∈ gB := gB_mem (k := 877) (by decide +kernel) (by decide +kernel)
theorem seX7_lays : Cond.selects RX7 yX7_lays yX7_lays ∈ gB := gB_mem (k := 32) (by decide +kernel) (by decide +kernel)
abbrev fX7_leastOf : gF := (yX7_leastOf, cX7_leastOf, 1, some .int, 0, 0)
theorem mX7_leastOf : gMi fX7_leastOf 1 := ⟨gB_mem (k := 845) (by decide +kernel) (by decide +kernel), gB_mem (k := 70) (by decide +kernel) (by decide +kernel), by decide +kernel, by decide +kernel, by decide +kernel⟩
theorem smX7_leastOf : Cond.static yX7_leastOf ∈ gB := gB_mem (k := 844) (by decide +kernel) (by decide +kernel)
abbrev fX7_leastWidth : gF := (yX7_leastWidth, cX7_leastWidth, 4, some .int, 6, 130)
theorem mX7_leastWidth : gMi fX7_leastWidth 2 := ⟨gB_mem (k := 1019) (by decide +kernel) (by decide +kernel), gB_mem (k := 70) (by decide +kernel) (by decide +kernel), by decide +kernel, by decide +kernel, by decide +kernel⟩
theorem imX7_leastWidth : Cond.instanceMethod yX7_leastWidth ∈ gB := gB_mem (k := 1017) (by decide +kernel) (by decide +kernel)
theorem seX7_leastWidth : Cond.selects RX7 yX7_leastWidth yX7_leastWidth ∈ gB := gB_mem (k := 1018) (by decide +kernel) (by decide +kernel)
abbrev fX7_lesser : gF := (yX7_lesser, cX7_lesser, 2, some .int, 0, 0)
theorem mX7_lesser : gMi fX7_lesser 2 := ⟨gB_mem (k := 924) (by decide +kernel) (by decide +kernel), gB_mem (k := 70) (by decide +kernel) (by decide +kernel), by decide +kernel, by decide +kernel, by decide +kernel⟩
theorem smX7_lesser : Cond.static yX7_lesser ∈ gB := gB_mem (k := 923) (by decide +kernel) (by decide +kernel)
abbrev fX7_lies : gF := (yX7_lies, cX7_lies, 3, some .int, 6, 130)
theorem mX7_lies : gMi fX7_lies 2 := ⟨gB_mem (k := 991) (by decide +kernel) (by decide +kernel), gB_mem (k := 70) (by decide +kernel) (by decide +kernel), by decide +kernel, by decide +kernel, by decide +kernel⟩
theorem imX7_lies : Cond.instanceMethod yX7_lies ∈ gB := gB_mem (k := 989) (by decide +kernel) (by decide +kernel)
theorem seX7_lies : Cond.selects RX7 yX7_lies yX7_lies ∈ gB := gB_mem (k := 990) (by decide +kernel) (by decide +kernel)
abbrev fX7_liesAt : gF := (yX7_liesAt, cX7_liesAt, 3, some .int, 3, 64)
theorem mX7_liesAt : gMi fX7_liesAt 2 := ⟨gB_mem (k := 995) (by decide +kernel) (by decide +kernel), gB_mem (k := 70) (by decide +kernel) (by decide +kernel), by decide +kernel, by decide +kernel, by decide +kernel⟩
theorem imX7_liesAt : Cond.instanceMethod yX7_liesAt ∈ gB := gB_mem (k := 994) (by decide +kernel) (by decide +kernel)
theorem seX7_liesAt : Cond.selects RX7 yX7_liesAt yX7_liesAt ∈ gB := gB_mem (k := 52) (by decide +kernel) (by decide +kernel)
abbrev fX7_line : gF := (yX7_line, cX7_line, 3, some .int, 6, 130)
theorem mX7_line : gMi fX7_line 2 := ⟨gB_mem (k := 1003) (by decide +kernel) (by decide +kernel), gB_mem (k := 70) (by decide +kernel) (by decide +kernel), by decide +kernel, by decide +kernel, by decide +kernel⟩
theorem imX7_line : Cond.instanceMethod yX7_line ∈ gB := gB_mem (k := 1001) (by decide +kernel) (by decide +kernel)
theorem seX7_line : Cond.selects RX7 yX7_line yX7_line ∈ gB := gB_mem (k := 1002) (by decide +kernel) (by decide +kernel)
abbrev fX7_linePart : gF := (yX7_linePart, cX7_linePart, 3, some .int, 5, 108)
theorem mX7_linePart : gMi fX7_linePart 2 := ⟨gB_mem (k := 1007) (by decide +kernel) (by decide +kernel), gB_mem (k := 70) (by decide +kernel) (by decide +kernel), by decide +kernel, by decide +kernel, by decide +kernel⟩
theorem imX7_linePart : Cond.instanceMethod yX7_linePart ∈ gB := gB_mem (k := 1006) (by decide +kernel) (by decide +kernel)
theorem seX7_linePart : Cond.selects RX7 yX7_linePart yX7_linePart ∈ gB := gB_mem (k := 53) (by decide +kernel) (by decide +kernel)
abbrev fX7_mixes : gF := (yX7_mixes, cX7_mixes, 3, none, 0, 0)
theorem mX7_mixes : gMi fX7_mixes 1 := ⟨gB_mem (k := 1048) (by decide +kernel) (by decide +kernel), gB_mem (k := 70) (by decide +kernel) (by decide +kernel), by decide +kernel, by decide +kernel, by decide +kernel⟩
theorem imX7_mixes : Cond.instanceMethod yX7_mixes ∈ gB := gB_mem (k := 1047) (by decide +kernel) (by decide +kernel)
theorem seX7_mixes : Cond.selects RX7 yX7_mixes yX7_mixes ∈ gB := gB_mem (k := 59) (by decide +kernel) (by decide +kernel)
abbrev fX7_mixesItem : gF := (yX7_mixesItem, cX7_mixesItem, 4, none, 4, 86)
theorem mX7_mixesItem : gMi fX7_mixesItem 1 := ⟨gB_mem (k := 1053) (by decide +kernel) (by decide +kernel), gB_mem (k := 70) (by decide +kernel) (by decide +kernel), by decide +kernel, by decide +kernel, by decide +kernel⟩
theorem imX7_mixesItem : Cond.instanceMethod yX7_mixesItem ∈ gB := gB_mem (k := 1052) (by decide +kernel) (by decide +kernel)
theorem seX7_mixesItem : Cond.selects RX7 yX7_mixesItem yX7_mixesItem ∈ gB := gB_mem (k := 60) (by decide +kernel) (by decide +kernel)
abbrev fX7_mostOf : gF := (yX7_mostOf, cX7_mostOf, 1, some .int, 0, 0)
theorem mX7_mostOf : gMi fX7_mostOf 1 := ⟨gB_mem (k := 848) (by decide +kernel) (by decide +kernel), gB_mem (k := 70) (by decide +kernel) (by decide +kernel), by decide +kernel, by decide +kernel, by decide +kernel⟩
theorem smX7_mostOf : Cond.static yX7_mostOf ∈ gB := gB_mem (k := 847) (by decide +kernel) (by decide +kernel)
abbrev fX7_move : gF := (yX7_move, cX7_move, 4, some .int, 6, 130)
theorem mX7_move : gMi fX7_move 2 := ⟨gB_mem (k := 890) (by decide +kernel) (by decide +kernel), gB_mem (k := 70) (by decide +kernel) (by decide +kernel), by decide +kernel, by decide +kernel, by decide +kernel⟩
theorem imX7_move : Cond.instanceMethod yX7_move ∈ gB := gB_mem (k := 888) (by decide +kernel) (by decide +kernel)
theorem seX7_move : Cond.selects RX7 yX7_move yX7_move ∈ gB := gB_mem (k := 889) (by decide +kernel) (by decide +kernel)
abbrev fX7_next : gF := (yX7_next, cX7_next, 1, some .int, 0, 0)
theorem mX7_next : gMi fX7_next 0 := ⟨gB_mem (k := 830) (by decide +kernel) (by decide +kernel), gB_mem (k := 70) (by decide +kernel) (by decide +kernel), by decide +kernel, by decide +kernel, by decide +kernel⟩
theorem imX7_next : Cond.instanceMethod yX7_next ∈ gB := gB_mem (k := 829) (by decide +kernel) (by decide +kernel)
theorem seX7_next : Cond.selects RX7 yX7_next yX7_next ∈ gB := gB_mem (k := 24) (by decide +kernel) (by decide +kernel)
abbrev fX7_number : gF := (yX7_number, cX7_number, 2, some .int, 2, 44)
theorem mX7_number : gMi fX7_number 1 := ⟨gB_mem (k := 1031) (by decide +kernel) (by decide +kernel), gB_mem (k := 70) (by decide +kernel) (by decide +kernel), by decide +kernel, by decide +kernel, by decide +kernel⟩
theorem imX7_number : Cond.instanceMethod yX7_number ∈ gB := gB_mem (k := 1030) (by decide +kernel) (by decide +kernel)
theorem seX7_number : Cond.selects RX7 yX7_number yX7_number ∈ gB := gB_mem (k := 56) (by decide +kernel) (by decide +kernel)
abbrev fX7_of : gF := (yX7_of, cX7_of, 3, some .int, 0, 0)
theorem mX7_of : gMi fX7_of 2 := ⟨gB_mem (k := 894) (by decide +kernel) (by decide +kernel), gB_mem (k := 70) (by decide +kernel) (by decide +kernel), by decide +kernel, by decide +kernel, by decide +kernel⟩
theorem imX7_of : Cond.instanceMethod yX7_of ∈ gB := gB_mem (k := 893) (by decide +kernel) (by decide +kernel)
theorem seX7_of : Cond.selects RX7 yX7_of yX7_of ∈ gB := gB_mem (k := 34) (by decide +kernel) (by decide +kernel)
abbrev fX7_ordered : gF := (yX7_ordered, cX7_ordered, 2, some .int, 2, 44)
theorem mX7_ordered : gMi fX7_ordered 1 := ⟨gB_mem (k := 999) (by decide +kernel) (by decide +kernel), gB_mem (k := 70) (by decide +kernel) (by decide +kernel), by decide +kernel, by decide +kernel, by decide +kernel⟩
theorem imX7_ordered : Cond.instanceMethod yX7_ordered ∈ gB := gB_mem (k := 997) (by decide +kernel) (by decide +kernel)
theorem seX7_ordered : Cond.selects RX7 yX7_ordered yX7_ordered ∈ gB := gB_mem (k := 998) (by decide +kernel) (by decide +kernel)
abbrev fX7_orders : gF := (yX7_orders, cX7_orders, 3, none, 1, 22)
theorem mX7_orders : gMi fX7_orders 0 := ⟨gB_mem (k := 902) (by decide +kernel) (by decide +kernel), gB_mem (k := 70) (by decide +kernel) (by decide +kernel), by decide +kernel, by decide +kernel, by decide +kernel⟩
theorem imX7_orders : Cond.instanceMethod yX7_orders ∈ gB := gB_mem (k := 901) (by decide +kernel) (by decide +kernel)
theorem seX7_orders : Cond.selects RX7 yX7_orders yX7_orders ∈ gB := gB_mem (k := 36) (by decide +kernel) (by decide +kernel)
abbrev fX7_outer : gF := (yX7_outer, cX7_outer, 4, some .int, 4, 85)
theorem mX7_outer : gMi fX7_outer 1 := ⟨gB_mem (k := 1011) (by decide +kernel) (by decide +kernel), gB_mem (k := 70) (by decide +kernel) (by decide +kernel), by decide +kernel, by decide +kernel, by decide +kernel⟩
theorem imX7_outer : Cond.instanceMethod yX7_outer ∈ gB := gB_mem (k := 1010) (by decide +kernel) (by decide +kernel)
theorem seX7_outer : Cond.selects RX7 yX7_outer yX7_outer ∈ gB := gB_mem (k := 54) (by decide +kernel) (by decide +kernel)
abbrev fX7_outerWish : gF := (yX7_outerWish, cX7_outerWish, 2, some .int, 3, 64)
theorem mX7_outerWish : gMi fX7_outerWish 1 := ⟨gB_mem (k := 910) (by decide +kernel) (by decide +kernel), gB_mem (k := 70) (by decide +kernel) (by decide +kernel), by decide +kernel, by decide +kernel, by decide +kernel⟩
theorem imX7_outerWish : Cond.instanceMethod yX7_outerWish ∈ gB := gB_mem (k := 909) (by decide +kernel) (by decide +kernel)
theorem seX7_outerWish : Cond.selects RX7 yX7_outerWish yX7_outerWish ∈ gB := gB_mem (k := 38) (by decide +kernel) (by decide +kernel)
abbrev fX7_pass : gF := (yX7_pass, cX7_pass, 10, none, 2, 45)
theorem mX7_pass : gMi fX7_pass 1 := ⟨gB_mem (k := 936) (by decide +kernel) (by decide +kernel), gB_mem (k := 70) (by decide +kernel) (by decide +kernel), by decide +kernel, by decide +kernel, by decide +kernel⟩
theorem imX7_pass : Cond.instanceMethod yX7_pass ∈ gB := gB_mem (k := 935) (by decide +kernel) (by decide +kernel)
theorem seX7_pass : Cond.selects RX7 yX7_pass yX7_pass ∈ gB := gB_mem (k := 43) (by decide +kernel) (by decide +kernel)
abbrev fX7_placeOf : gF := (yX7_placeOf, cX7_placeOf, 3, some .int, 0, 0)
theorem mX7_placeOf : gMi fX7_placeOf 1 := ⟨gB_mem (k := 971) (by decide +kernel) (by decide +kernel), gB_mem (k := 70) (by decide +kernel) (by decide +kernel), by decide +kernel, by decide +kernel, by decide +kernel⟩
theorem imX7_placeOf : Cond.instanceMethod yX7_placeOf ∈ gB := gB_mem (k := 970) (by decide +kernel) (by decide +kernel)
theorem seX7_placeOf : Cond.selects RX7 yX7_placeOf yX7_placeOf ∈ gB := gB_mem (k := 51) (by decide +kernel) (by decide +kernel)
abbrev fX7_readsItem : gF := (yX7_readsItem, cX7_readsItem, 4, none, 3, 67)
theorem mX7_readsItem : gMi fX7_readsItem 0 := ⟨gB_mem (k := 822) (by decide +kernel) (by decide +kernel), gB_mem (k := 70) (by decide +kernel) (by decide +kernel), by decide +kernel, by decide +kernel, by decide +kernel⟩
theorem imX7_readsItem : Cond.instanceMethod yX7_readsItem ∈ gB := gB_mem (k := 821) (by decide +kernel) (by decide +kernel)
theorem seX7_readsItem : Cond.selects RX7 yX7_readsItem yX7_readsItem ∈ gB := gB_mem (k := 22) (by decide +kernel) (by decide +kernel)
abbrev fX7_readsNumber : gF := (yX7_readsNumber, cX7_readsNumber, 6, none, 2, 42)
theorem mX7_readsNumber : gMi fX7_readsNumber 1 := ⟨gB_mem (k := 834) (by decide +kernel) (by decide +kernel), gB_mem (k := 70) (by decide +kernel) (by decide +kernel), by decide +kernel, by decide +kernel, by decide +kernel⟩
theorem imX7_readsNumber : Cond.instanceMethod yX7_readsNumber ∈ gB := gB_mem (k := 833) (by decide +kernel) (by decide +kernel)
theorem seX7_readsNumber : Cond.selects RX7 yX7_readsNumber yX7_readsNumber ∈ gB := gB_mem (k := 25) (by decide +kernel) (by decide +kernel)
abbrev fX7_remove : gF := (yX7_remove, cX7_remove, 3, some .int, 2, 43)
theorem mX7_remove : gMi fX7_remove 1 := ⟨gB_mem (k := 882) (by decide +kernel) (by decide +kernel), gB_mem (k := 70) (by decide +kernel) (by decide +kernel), by decide +kernel, by decide +kernel, by decide +kernel⟩
theorem imX7_remove : Cond.instanceMethod yX7_remove ∈ gB := gB_mem (k := 880) (by decide +kernel) (by decide +kernel)
theorem seX7_remove : Cond.selects RX7 yX7_remove yX7_remove ∈ gB := gB_mem (k := 881) (by decide +kernel) (by decide +kernel)
abbrev fX7_set : gF := (yX7_set, cX7_set, 5, some .int, 1, 22)
theorem mX7_set : gMi fX7_set 2 := ⟨gB_mem (k := 983) (by decide +kernel) (by decide +kernel), gB_mem (k := 70) (by decide +kernel) (by decide +kernel), by decide +kernel, by decide +kernel, by decide +kernel⟩
theorem imX7_set : Cond.instanceMethod yX7_set ∈ gB := gB_mem (k := 981) (by decide +kernel) (by decide +kernel)
theorem seX7_set : Cond.selects RX7 yX7_set yX7_set ∈ gB := gB_mem (k := 982) (by decide +kernel) (by decide +kernel)
abbrev fX7_share : gF := (yX7_share, cX7_share, 4, some .int, 1, 22)
theorem mX7_share : gMi fX7_share 1 := ⟨gB_mem (k := 940) (by decide +kernel) (by decide +kernel), gB_mem (k := 70) (by decide +kernel) (by decide +kernel), by decide +kernel, by decide +kernel, by decide +kernel⟩
theorem imX7_share : Cond.instanceMethod yX7_share ∈ gB := gB_mem (k := 939) (by decide +kernel) (by decide +kernel)
theorem seX7_share : Cond.selects RX7 yX7_share yX7_share ∈ gB := gB_mem (k := 44) (by decide +kernel) (by decide +kernel)
abbrev fX7_shift : gF := (yX7_shift, cX7_shift, 6, some .int, 1, 21)
theorem mX7_shift : gMi fX7_shift 2 := ⟨gB_mem (k := 952) (by decide +kernel) (by decide +kernel), gB_mem (k := 70) (by decide +kernel) (by decide +kernel), by decide +kernel, by decide +kernel, by decide +kernel⟩
theorem imX7_shift : Cond.instanceMethod yX7_shift ∈ gB := gB_mem (k := 951) (by decide +kernel) (by decide +kernel)
theorem seX7_shift : Cond.selects RX7 yX7_shift yX7_shift ∈ gB := gB_mem (k := 47) (by decide +kernel) (by decide +kernel)
abbrev fX7_sizes : gF := (yX7_sizes, cX7_sizes, 6, none, 3, 74)
theorem mX7_sizes : gMi fX7_sizes 2 := ⟨gB_mem (k := 928) (by decide +kernel) (by decide +kernel), gB_mem (k := 70) (by decide +kernel) (by decide +kernel), by decide +kernel, by decide +kernel, by decide +kernel⟩
theorem imX7_sizes : Cond.instanceMethod yX7_sizes ∈ gB := gB_mem (k := 927) (by decide +kernel) (by decide +kernel)
theorem seX7_sizes : Cond.selects RX7 yX7_sizes yX7_sizes ∈ gB := gB_mem (k := 41) (by decide +kernel) (by decide +kernel)
abbrev fX7_skips : gF := (yX7_skips, cX7_skips, 1, none, 1, 20)
theorem mX7_skips : gMi fX7_skips 0 := ⟨gB_mem (k := 826) (by decide +kernel) (by decide +kernel), gB_mem (k := 70) (by decide +kernel) (by decide +kernel), by decide +kernel, by decide +kernel, by decide +kernel⟩
theorem imX7_skips : Cond.instanceMethod yX7_skips ∈ gB := gB_mem (k := 825) (by decide +kernel) (by decide +kernel)
theorem seX7_skips : Cond.selects RX7 yX7_skips yX7_skips ∈ gB := gB_mem (k := 23) (by decide +kernel) (by decide +kernel)
abbrev fX7_type : gF := (yX7_type, cX7_type, 2, some .int, 1, 22)
theorem mX7_type : gMi fX7_type 1 := ⟨gB_mem (k := 807) (by decide +kernel) (by decide +kernel), gB_mem (k := 70) (by decide +kernel) (by decide +kernel), by decide +kernel, by decide +kernel, by decide +kernel⟩
theorem imX7_type : Cond.instanceMethod yX7_type ∈ gB := gB_mem (k := 805) (by decide +kernel) (by decide +kernel)
theorem seX7_type : Cond.selects RX7 yX7_type yX7_type ∈ gB := gB_mem (k := 806) (by decide +kernel) (by decide +kernel)
abbrev fX7_undo : gF := (yX7_undo, cX7_undo, 2, some .int, 0, 0)
theorem mX7_undo : gMi fX7_undo 0 := ⟨gB_mem (k := 803) (by decide +kernel) (by decide +kernel), gB_mem (k := 70) (by decide +kernel) (by decide +kernel), by decide +kernel, by decide +kernel, by decide +kernel⟩
theorem imX7_undo : Cond.instanceMethod yX7_undo ∈ gB := gB_mem (k := 801) (by decide +kernel) (by decide +kernel)
theorem seX7_undo : Cond.selects RX7 yX7_undo yX7_undo ∈ gB := gB_mem (k := 802) (by decide +kernel) (by decide +kernel)
abbrev fX7_wayOf : gF := (yX7_wayOf, cX7_wayOf, 3, some .int, 1, 22)
theorem mX7_wayOf : gMi fX7_wayOf 1 := ⟨gB_mem (k := 963) (by decide +kernel) (by decide +kernel), gB_mem (k := 70) (by decide +kernel) (by decide +kernel), by decide +kernel, by decide +kernel, by decide +kernel⟩
theorem imX7_wayOf : Cond.instanceMethod yX7_wayOf ∈ gB := gB_mem (k := 962) (by decide +kernel) (by decide +kernel)
theorem seX7_wayOf : Cond.selects RX7 yX7_wayOf yX7_wayOf ∈ gB := gB_mem (k := 49) (by decide +kernel) (by decide +kernel)
abbrev fX7_weight : gF := (yX7_weight, cX7_weight, 3, some .int, 1, 22)
theorem mX7_weight : gMi fX7_weight 2 := ⟨gB_mem (k := 944) (by decide +kernel) (by decide +kernel), gB_mem (k := 70) (by decide +kernel) (by decide +kernel), by decide +kernel, by decide +kernel, by decide +kernel⟩
theorem imX7_weight : Cond.instanceMethod yX7_weight ∈ gB := gB_mem (k := 943) (by decide +kernel) (by decide +kernel)
theorem seX7_weight : Cond.selects RX7 yX7_weight yX7_weight ∈ gB := gB_mem (k := 45) (by decide +kernel) (by decide +kernel)
abbrev fX7_wish : gF := (yX7_wish, cX7_wish, 2, some .int, 2, 43)
theorem mX7_wish : gMi fX7_wish 1 := ⟨gB_mem (k := 914) (by decide +kernel) (by decide +kernel), gB_mem (k := 70) (by decide +kernel) (by decide +kernel), by decide +kernel, by decide +kernel, by decide +kernel⟩
theorem imX7_wish : Cond.instanceMethod yX7_wish ∈ gB := gB_mem (k := 913) (by decide +kernel) (by decide +kernel)
theorem seX7_wish : Cond.selects RX7 yX7_wish yX7_wish ∈ gB := gB_mem (k := 39) (by decide +kernel) (by decide +kernel)
abbrev fX7_wordOf : gF := (yX7_wordOf, cX7_wordOf, 2, some .int, 1, 26)
theorem mX7_wordOf : gMi fX7_wordOf 1 := ⟨gB_mem (k := 852) (by decide +kernel) (by decide +kernel), gB_mem (k := 70) (by decide +kernel) (by decide +kernel), by decide +kernel, by decide +kernel, by decide +kernel⟩
theorem imX7_wordOf : Cond.instanceMethod yX7_wordOf ∈ gB := gB_mem (k := 851) (by decide +kernel) (by decide +kernel)
theorem seX7_wordOf : Cond.selects RX7 yX7_wordOf yX7_wordOf ∈ gB := gB_mem (k := 28) (by decide +kernel) (by decide +kernel)
abbrev fX7_wraps : gF := (yX7_wraps, cX7_wraps, 4, none, 4, 85)
theorem mX7_wraps : gMi fX7_wraps 1 := ⟨gB_mem (k := 906) (by decide +kernel) (by decide +kernel), gB_mem (k := 70) (by decide +kernel) (by decide +kernel), by decide +kernel, by decide +kernel, by decide +kernel⟩
theorem imX7_wraps : Cond.instanceMethod yX7_wraps ∈ gB := gB_mem (k := 905) (by decide +kernel) (by decide +kernel)
theorem seX7_wraps : Cond.selects RX7 yX7_wraps yX7_wraps ∈ gB := gB_mem (k := 37) (by decide +kernel) (by decide +kernel)
theorem k_X0_25 : Cond.methodLink RX0 25 yJ9_floorMod_7cf53 ∈ gB := gB_mem (k := 440) (by decide +kernel) (by decide +kernel)
theorem k_X0_3 : Cond.methodLink RX0 3 objectInit ∈ gB := gB_mem (k := 141) (by decide +kernel) (by decide +kernel)
theorem k_X0_38 : Cond.methodLink RX0 38 arraycopyName ∈ gB := gB_mem (k := 443) (by decide +kernel) (by decide +kernel)
theorem k_X0_48 : Cond.methodLink RX0 48 Lib.Math.min.name ∈ gB := gB_mem (k := 444) (by decide +kernel) (by decide +kernel)
theorem k_X1_101 : Cond.methodLink RX1 101 yX2_weight ∈ gB := gB_mem (k := 546) (by decide +kernel) (by decide +kernel)
theorem k_X1_105 : Cond.methodLink RX1 105 Lib.Math.max.name ∈ gB := gB_mem (k := 550) (by decide +kernel) (by decide +kernel)
theorem k_X1_111 : Cond.methodLink RX1 111 yX1_part ∈ gB := gB_mem (k := 551) (by decide +kernel) (by decide +kernel)
theorem k_X1_115 : Cond.methodLink RX1 115 yJ9_floorDiv_7cf53 ∈ gB := gB_mem (k := 554) (by decide +kernel) (by decide +kernel)
theorem k_X1_124 : Cond.methodLink RX1 124 Lib.Math.min.name ∈ gB := gB_mem (k := 561) (by decide +kernel) (by decide +kernel)
theorem k_X1_3 : Cond.methodLink RX1 3 objectInit ∈ gB := gB_mem (k := 207) (by decide +kernel) (by decide +kernel)
theorem k_X1_52 : Cond.methodLink RX1 52 yX4_number ∈ gB := gB_mem (k := 513) (by decide +kernel) (by decide +kernel)
theorem k_X1_62 : Cond.methodLink RX1 62 yX2_outerWish ∈ gB := gB_mem (k := 514) (by decide +kernel) (by decide +kernel)
theorem k_X1_65 : Cond.methodLink RX1 65 yX1_shareLine ∈ gB := gB_mem (k := 522) (by decide +kernel) (by decide +kernel)
theorem k_X1_69 : Cond.methodLink RX1 69 yX1_end ∈ gB := gB_mem (k := 526) (by decide +kernel) (by decide +kernel)
theorem k_X1_78 : Cond.methodLink RX1 78 yX1_freezeStiff ∈ gB := gB_mem (k := 530) (by decide +kernel) (by decide +kernel)
theorem k_X1_82 : Cond.methodLink RX1 82 yX1_hasOpen ∈ gB := gB_mem (k := 538) (by decide +kernel) (by decide +kernel)
theorem k_X1_86 : Cond.methodLink RX1 86 yX1_shareOut ∈ gB := gB_mem (k := 542) (by decide +kernel) (by decide +kernel)
theorem k_X1_90 : Cond.methodLink RX1 90 yX1_freezeCorrected ∈ gB := gB_mem (k := 557) (by decide +kernel) (by decide +kernel)
theorem k_X1_94 : Cond.methodLink RX1 94 yX2_isStiff ∈ gB := gB_mem (k := 534) (by decide +kernel) (by decide +kernel)
theorem k_X2_3 : Cond.methodLink RX2 3 objectInit ∈ gB := gB_mem (k := 164) (by decide +kernel) (by decide +kernel)
theorem k_X2_42 : Cond.methodLink RX2 42 yX4_property ∈ gB := gB_mem (k := 487) (by decide +kernel) (by decide +kernel)
theorem k_X2_46 : Cond.methodLink RX2 46 yX2_enter ∈ gB := gB_mem (k := 488) (by decide +kernel) (by decide +kernel)
theorem k_X2_50 : Cond.methodLink RX2 50 yX4_greatest ∈ gB := gB_mem (k := 492) (by decide +kernel) (by decide +kernel)
theorem k_X2_53 : Cond.methodLink RX2 53 yX4_wish ∈ gB := gB_mem (k := 499) (by decide +kernel) (by decide +kernel)
theorem k_X3_101 : Cond.methodLink RX3 101 yX4_above ∈ gB := gB_mem (k := 588) (by decide +kernel) (by decide +kernel)
theorem k_X3_104 : Cond.methodLink RX3 104 yX3_lowered ∈ gB := gB_mem (k := 592) (by decide +kernel) (by decide +kernel)
theorem k_X3_3 : Cond.methodLink RX3 3 objectInit ∈ gB := gB_mem (k := 263) (by decide +kernel) (by decide +kernel)
theorem k_X3_45 : Cond.methodLink RX3 45 yX3_setAlong ∈ gB := gB_mem (k := 566) (by decide +kernel) (by decide +kernel)
theorem k_X3_49 : Cond.methodLink RX3 49 yX4_number ∈ gB := gB_mem (k := 571) (by decide +kernel) (by decide +kernel)
theorem k_X3_54 : Cond.methodLink RX3 54 yX3_setAcross ∈ gB := gB_mem (k := 577) (by decide +kernel) (by decide +kernel)
theorem k_X3_69 : Cond.methodLink RX3 69 yX4_property ∈ gB := gB_mem (k := 581) (by decide +kernel) (by decide +kernel)
theorem k_X3_73 : Cond.methodLink RX3 73 yX3_end ∈ gB := gB_mem (k := 675) (by decide +kernel) (by decide +kernel)
theorem k_X3_79 : Cond.methodLink RX3 79 yX1_end ∈ gB := gB_mem (k := 570) (by decide +kernel) (by decide +kernel)
theorem k_X3_86 : Cond.methodLink RX3 86 yX3_shift ∈ gB := gB_mem (k := 572) (by decide +kernel) (by decide +kernel)
theorem k_X3_90 : Cond.methodLink RX3 90 yJ9_floorDiv_7cf53 ∈ gB := gB_mem (k := 576) (by decide +kernel) (by decide +kernel)
theorem k_X3_95 : Cond.methodLink RX3 95 Lib.Math.max.name ∈ gB := gB_mem (k := 582) (by decide +kernel) (by decide +kernel)
theorem k_X3_98 : Cond.methodLink RX3 98 yX4_wayAcross ∈ gB := gB_mem (k := 583) (by decide +kernel) (by decide +kernel)
theorem k_X4_21 : Cond.methodLink RX4 21 arraycopyName ∈ gB := gB_mem (k := 118) (by decide +kernel) (by decide +kernel)
theorem k_X4_3 : Cond.methodLink RX4 3 objectInit ∈ gB := gB_mem (k := 115) (by decide +kernel) (by decide +kernel)
theorem k_X4_31 : Cond.methodLink RX4 31 yX4_property ∈ gB := gB_mem (k := 463) (by decide +kernel) (by decide +kernel)
theorem k_X4_35 : Cond.methodLink RX4 35 Lib.Math.max.name ∈ gB := gB_mem (k := 496) (by decide +kernel) (by decide +kernel)
theorem k_X4_40 : Cond.methodLink RX4 40 yX4_greatest ∈ gB := gB_mem (k := 503) (by decide +kernel) (by decide +kernel)
theorem k_X4_44 : Cond.methodLink RX4 44 Lib.Math.min.name ∈ gB := gB_mem (k := 504) (by decide +kernel) (by decide +kernel)
theorem k_X4_47 : Cond.methodLink RX4 47 yX4_number ∈ gB := gB_mem (k := 587) (by decide +kernel) (by decide +kernel)
theorem k_X4_50 : Cond.methodLink RX4 50 yX4_put ∈ gB := gB_mem (k := 451) (by decide +kernel) (by decide +kernel)
theorem k_X4_54 : Cond.methodLink RX4 54 yX4_swap ∈ gB := gB_mem (k := 459) (by decide +kernel) (by decide +kernel)
theorem k_X5_26 : Cond.methodLink RX5 26 arraycopyName ∈ gB := gB_mem (k := 341) (by decide +kernel) (by decide +kernel)
theorem k_X5_3 : Cond.methodLink RX5 3 objectInit ∈ gB := gB_mem (k := 89) (by decide +kernel) (by decide +kernel)
theorem k_X5_38 : Cond.methodLink RX5 38 yX5_readNumber ∈ gB := gB_mem (k := 342) (by decide +kernel) (by decide +kernel)
theorem k_X5_42 : Cond.methodLink RX5 42 yX5_readWord ∈ gB := gB_mem (k := 361) (by decide +kernel) (by decide +kernel)
theorem k_X5_46 : Cond.methodLink RX5 46 yX5_skipBlanks ∈ gB := gB_mem (k := 346) (by decide +kernel) (by decide +kernel)
theorem k_X5_49 : Cond.methodLink RX5 49 yX5_byteAt ∈ gB := gB_mem (k := 350) (by decide +kernel) (by decide +kernel)
theorem k_X5_52 : Cond.methodLink RX5 52 yX5_isDigit ∈ gB := gB_mem (k := 354) (by decide +kernel) (by decide +kernel)
theorem k_X5_62 : Cond.methodLink RX5 62 yX5_isLetter ∈ gB := gB_mem (k := 365) (by decide +kernel) (by decide +kernel)
theorem k_X5_65 : Cond.methodLink RX5 65 yX5_word ∈ gB := gB_mem (k := 368) (by decide +kernel) (by decide +kernel)
theorem k_X5_69 : Cond.methodLink RX5 69 yX5_stands ∈ gB := gB_mem (k := 380) (by decide +kernel) (by decide +kernel)
theorem k_X5_73 : Cond.methodLink RX5 73 yJ0_length_8abf5 ∈ gB := gB_mem (k := 384) (by decide +kernel) (by decide +kernel)
theorem k_X5_77 : Cond.methodLink RX5 77 yJ0_charAt_5068e ∈ gB := gB_mem (k := 394) (by decide +kernel) (by decide +kernel)
theorem k_X6_1 : Cond.methodLink RX6 1 objectInit ∈ gB := gB_mem (k := 81) (by decide +kernel) (by decide +kernel)
theorem k_X6_109 : Cond.methodLink RX6 109 yX4_property ∈ gB := gB_mem (k := 606) (by decide +kernel) (by decide +kernel)
theorem k_X6_113 : Cond.methodLink RX6 113 yX4_put ∈ gB := gB_mem (k := 607) (by decide +kernel) (by decide +kernel)
theorem k_X6_123 : Cond.methodLink RX6 123 yX4_number ∈ gB := gB_mem (k := 505) (by decide +kernel) (by decide +kernel)
theorem k_X6_126 : Cond.methodLink RX6 126 yX4_setNumber ∈ gB := gB_mem (k := 620) (by decide +kernel) (by decide +kernel)
theorem k_X6_132 : Cond.methodLink RX6 132 yX0_restore ∈ gB := gB_mem (k := 628) (by decide +kernel) (by decide +kernel)
theorem k_X6_135 : Cond.methodLink RX6 135 yX4_wish ∈ gB := gB_mem (k := 636) (by decide +kernel) (by decide +kernel)
theorem k_X6_138 : Cond.methodLink RX6 138 yX6_lieAt ∈ gB := gB_mem (k := 641) (by decide +kernel) (by decide +kernel)
theorem k_X6_144 : Cond.methodLink RX6 144 yX2_itemAt ∈ gB := gB_mem (k := 654) (by decide +kernel) (by decide +kernel)
theorem k_X6_149 : Cond.methodLink RX6 149 yX6_lineTells ∈ gB := gB_mem (k := 662) (by decide +kernel) (by decide +kernel)
theorem k_X6_152 : Cond.methodLink RX6 152 yX3_covers ∈ gB := gB_mem (k := 671) (by decide +kernel) (by decide +kernel)
theorem k_X6_156 : Cond.methodLink RX6 156 yX2_sort ∈ gB := gB_mem (k := 483) (by decide +kernel) (by decide +kernel)
theorem k_X6_159 : Cond.methodLink RX6 159 yX1_breakUp ∈ gB := gB_mem (k := 509) (by decide +kernel) (by decide +kernel)
theorem k_X6_163 : Cond.methodLink RX6 163 yX1_allHaveRoom ∈ gB := gB_mem (k := 683) (by decide +kernel) (by decide +kernel)
theorem k_X6_167 : Cond.methodLink RX6 167 yX6_counted ∈ gB := gB_mem (k := 691) (by decide +kernel) (by decide +kernel)
theorem k_X6_174 : Cond.methodLink RX6 174 yX6_withItem ∈ gB := gB_mem (k := 707) (by decide +kernel) (by decide +kernel)
theorem k_X6_178 : Cond.methodLink RX6 178 yX5_byteAt ∈ gB := gB_mem (k := 711) (by decide +kernel) (by decide +kernel)
theorem k_X6_18 : Cond.methodLink RX6 18 yX4_init ∈ gB := gB_mem (k := 112) (by decide +kernel) (by decide +kernel)
theorem k_X6_181 : Cond.methodLink RX6 181 yX0_record ∈ gB := gB_mem (k := 436) (by decide +kernel) (by decide +kernel)
theorem k_X6_184 : Cond.methodLink RX6 184 yX1_share ∈ gB := gB_mem (k := 518) (by decide +kernel) (by decide +kernel)
theorem k_X6_187 : Cond.methodLink RX6 187 yX3_find ∈ gB := gB_mem (k := 562) (by decide +kernel) (by decide +kernel)
theorem k_X6_192 : Cond.methodLink RX6 192 yX1_lineOf ∈ gB := gB_mem (k := 645) (by decide +kernel) (by decide +kernel)
theorem k_X6_204 : Cond.methodLink RX6 204 yX4_above ∈ gB := gB_mem (k := 649) (by decide +kernel) (by decide +kernel)
theorem k_X6_212 : Cond.methodLink RX6 212 yX1_end ∈ gB := gB_mem (k := 666) (by decide +kernel) (by decide +kernel)
theorem k_X6_240 : Cond.methodLink RX6 240 yX6_greatestEnd ∈ gB := gB_mem (k := 695) (by decide +kernel) (by decide +kernel)
theorem k_X6_243 : Cond.methodLink RX6 243 yX3_end ∈ gB := gB_mem (k := 699) (by decide +kernel) (by decide +kernel)
theorem k_X6_244 : Cond.methodLink RX6 244 Lib.Math.max.name ∈ gB := gB_mem (k := 700) (by decide +kernel) (by decide +kernel)
theorem k_X6_32 : Cond.methodLink RX6 32 yX2_init ∈ gB := gB_mem (k := 161) (by decide +kernel) (by decide +kernel)
theorem k_X6_41 : Cond.methodLink RX6 41 yX1_init ∈ gB := gB_mem (k := 204) (by decide +kernel) (by decide +kernel)
theorem k_X6_50 : Cond.methodLink RX6 50 yX3_init ∈ gB := gB_mem (k := 260) (by decide +kernel) (by decide +kernel)
theorem k_X6_64 : Cond.methodLink RX6 64 yX5_append ∈ gB := gB_mem (k := 323) (by decide +kernel) (by decide +kernel)
theorem k_X6_75 : Cond.methodLink RX6 75 yX5_read ∈ gB := gB_mem (k := 335) (by decide +kernel) (by decide +kernel)
theorem k_X6_79 : Cond.methodLink RX6 79 yX6_beforeChange ∈ gB := gB_mem (k := 432) (by decide +kernel) (by decide +kernel)
theorem k_X6_86 : Cond.methodLink RX6 86 yX4_append ∈ gB := gB_mem (k := 447) (by decide +kernel) (by decide +kernel)
theorem k_X6_89 : Cond.methodLink RX6 89 yX4_carry ∈ gB := gB_mem (k := 455) (by decide +kernel) (by decide +kernel)
theorem k_X6_93 : Cond.methodLink RX6 93 yX4_has ∈ gB := gB_mem (k := 471) (by decide +kernel) (by decide +kernel)
theorem k_X6_96 : Cond.methodLink RX6 96 yX6_layOut ∈ gB := gB_mem (k := 479) (by decide +kernel) (by decide +kernel)
theorem k_X6_99 : Cond.methodLink RX6 99 yX2_placeOf ∈ gB := gB_mem (k := 596) (by decide +kernel) (by decide +kernel)
theorem k_L_12 : Cond.methodLink x.cls 12 yX7_init ∈ gB := gB_mem (k := 714) (by decide +kernel) (by decide +kernel)
theorem k_L_13 : Cond.methodLink x.cls 13 yX6_type ∈ gB := gB_mem (k := 319) (by decide +kernel) (by decide +kernel)
theorem k_L_17 : Cond.methodLink x.cls 17 yX7_type ∈ gB := gB_mem (k := 804) (by decide +kernel) (by decide +kernel)
theorem k_L_18 : Cond.methodLink x.cls 18 yX6_clear ∈ gB := gB_mem (k := 327) (by decide +kernel) (by decide +kernel)
theorem k_L_22 : Cond.methodLink x.cls 22 yX7_clear ∈ gB := gB_mem (k := 811) (by decide +kernel) (by decide +kernel)
theorem k_L_23 : Cond.methodLink x.cls 23 yX6_insert ∈ gB := gB_mem (k := 331) (by decide +kernel) (by decide +kernel)
theorem k_L_26 : Cond.methodLink x.cls 26 yX7_insert ∈ gB := gB_mem (k := 815) (by decide +kernel) (by decide +kernel)
theorem k_L_27 : Cond.methodLink x.cls 27 yX6_remove ∈ gB := gB_mem (k := 467) (by decide +kernel) (by decide +kernel)
theorem k_L_30 : Cond.methodLink x.cls 30 yX7_remove ∈ gB := gB_mem (k := 879) (by decide +kernel) (by decide +kernel)
theorem k_L_31 : Cond.methodLink x.cls 31 yX6_move ∈ gB := gB_mem (k := 475) (by decide +kernel) (by decide +kernel)
theorem k_L_35 : Cond.methodLink x.cls 35 yX7_move ∈ gB := gB_mem (k := 887) (by decide +kernel) (by decide +kernel)
theorem k_L_36 : Cond.methodLink x.cls 36 yX6_change ∈ gB := gB_mem (k := 600) (by decide +kernel) (by decide +kernel)
theorem k_L_40 : Cond.methodLink x.cls 40 yX7_change ∈ gB := gB_mem (k := 972) (by decide +kernel) (by decide +kernel)
theorem k_L_41 : Cond.methodLink x.cls 41 yX6_hide ∈ gB := gB_mem (k := 608) (by decide +kernel) (by decide +kernel)
theorem k_L_44 : Cond.methodLink x.cls 44 yX7_hide ∈ gB := gB_mem (k := 976) (by decide +kernel) (by decide +kernel)
theorem k_L_45 : Cond.methodLink x.cls 45 yX6_set ∈ gB := gB_mem (k := 612) (by decide +kernel) (by decide +kernel)
theorem k_L_48 : Cond.methodLink x.cls 48 yX7_set ∈ gB := gB_mem (k := 980) (by decide +kernel) (by decide +kernel)
theorem k_L_49 : Cond.methodLink x.cls 49 yX6_undo ∈ gB := gB_mem (k := 624) (by decide +kernel) (by decide +kernel)
theorem k_L_52 : Cond.methodLink x.cls 52 yX7_undo ∈ gB := gB_mem (k := 800) (by decide +kernel) (by decide +kernel)
theorem k_L_53 : Cond.methodLink x.cls 53 yX6_item ∈ gB := gB_mem (k := 632) (by decide +kernel) (by decide +kernel)
theorem k_L_56 : Cond.methodLink x.cls 56 yX7_item ∈ gB := gB_mem (k := 984) (by decide +kernel) (by decide +kernel)
theorem k_L_57 : Cond.methodLink x.cls 57 yX6_lies ∈ gB := gB_mem (k := 637) (by decide +kernel) (by decide +kernel)
theorem k_L_60 : Cond.methodLink x.cls 60 yX7_lies ∈ gB := gB_mem (k := 988) (by decide +kernel) (by decide +kernel)
theorem k_L_61 : Cond.methodLink x.cls 61 yX6_ordered ∈ gB := gB_mem (k := 650) (by decide +kernel) (by decide +kernel)
theorem k_L_64 : Cond.methodLink x.cls 64 yX7_ordered ∈ gB := gB_mem (k := 996) (by decide +kernel) (by decide +kernel)
theorem k_L_65 : Cond.methodLink x.cls 65 yX6_line ∈ gB := gB_mem (k := 658) (by decide +kernel) (by decide +kernel)
theorem k_L_68 : Cond.methodLink x.cls 68 yX7_line ∈ gB := gB_mem (k := 1000) (by decide +kernel) (by decide +kernel)
theorem k_L_69 : Cond.methodLink x.cls 69 yX6_at ∈ gB := gB_mem (k := 667) (by decide +kernel) (by decide +kernel)
theorem k_L_72 : Cond.methodLink x.cls 72 yX7_at ∈ gB := gB_mem (k := 1012) (by decide +kernel) (by decide +kernel)
theorem k_L_73 : Cond.methodLink x.cls 73 yX6_leastWidth ∈ gB := gB_mem (k := 679) (by decide +kernel) (by decide +kernel)
theorem k_L_76 : Cond.methodLink x.cls 76 yX7_leastWidth ∈ gB := gB_mem (k := 1016) (by decide +kernel) (by decide +kernel)
theorem k_L_77 : Cond.methodLink x.cls 77 yX6_count ∈ gB := gB_mem (k := 687) (by decide +kernel) (by decide +kernel)
theorem k_L_80 : Cond.methodLink x.cls 80 yX7_count ∈ gB := gB_mem (k := 1024) (by decide +kernel) (by decide +kernel)
theorem k_L_81 : Cond.methodLink x.cls 81 yX6_digest ∈ gB := gB_mem (k := 701) (by decide +kernel) (by decide +kernel)
theorem k_L_85 : Cond.methodLink x.cls 85 yX7_digest ∈ gB := gB_mem (k := 1040) (by decide +kernel) (by decide +kernel)
theorem k_L_9 : Cond.methodLink x.cls 9 yX6_init ∈ gB := gB_mem (k := 78) (by decide +kernel) (by decide +kernel)
theorem k_X7_1 : Cond.methodLink RX7 1 objectInit ∈ gB := gB_mem (k := 717) (by decide +kernel) (by decide +kernel)
theorem k_X7_100 : Cond.methodLink RX7 100 yX7_leastOf ∈ gB := gB_mem (k := 843) (by decide +kernel) (by decide +kernel)
theorem k_X7_104 : Cond.methodLink RX7 104 yX7_mostOf ∈ gB := gB_mem (k := 846) (by decide +kernel) (by decide +kernel)
theorem k_X7_107 : Cond.methodLink RX7 107 yX7_skips ∈ gB := gB_mem (k := 823) (by decide +kernel) (by decide +kernel)
theorem k_X7_114 : Cond.methodLink RX7 114 yX7_isWord ∈ gB := gB_mem (k := 854) (by decide +kernel) (by decide +kernel)
theorem k_X7_134 : Cond.methodLink RX7 134 yX7_readsNumber ∈ gB := gB_mem (k := 831) (by decide +kernel) (by decide +kernel)
theorem k_X7_137 : Cond.methodLink RX7 137 yX7_wordOf ∈ gB := gB_mem (k := 849) (by decide +kernel) (by decide +kernel)
theorem k_X7_140 : Cond.methodLink RX7 140 yX7_readsItem ∈ gB := gB_mem (k := 819) (by decide +kernel) (by decide +kernel)
theorem k_X7_143 : Cond.methodLink RX7 143 yX7_keeps ∈ gB := gB_mem (k := 867) (by decide +kernel) (by decide +kernel)
theorem k_X7_146 : Cond.methodLink RX7 146 yX7_copies ∈ gB := gB_mem (k := 871) (by decide +kernel) (by decide +kernel)
theorem k_X7_150 : Cond.methodLink RX7 150 yX7_lays ∈ gB := gB_mem (k := 875) (by decide +kernel) (by decide +kernel)
theorem k_X7_153 : Cond.methodLink RX7 153 yX7_isItem ∈ gB := gB_mem (k := 883) (by decide +kernel) (by decide +kernel)
theorem k_X7_157 : Cond.methodLink RX7 157 yX7_of ∈ gB := gB_mem (k := 891) (by decide +kernel) (by decide +kernel)
theorem k_X7_161 : Cond.methodLink RX7 161 yX7_draws ∈ gB := gB_mem (k := 895) (by decide +kernel) (by decide +kernel)
theorem k_X7_164 : Cond.methodLink RX7 164 yX7_placeOf ∈ gB := gB_mem (k := 968) (by decide +kernel) (by decide +kernel)
theorem k_X7_167 : Cond.methodLink RX7 167 yX7_greater ∈ gB := gB_mem (k := 915) (by decide +kernel) (by decide +kernel)
theorem k_X7_170 : Cond.methodLink RX7 170 yX7_greatest ∈ gB := gB_mem (k := 918) (by decide +kernel) (by decide +kernel)
theorem k_X7_173 : Cond.methodLink RX7 173 yX7_lesser ∈ gB := gB_mem (k := 922) (by decide +kernel) (by decide +kernel)
theorem k_X7_179 : Cond.methodLink RX7 179 yX7_wish ∈ gB := gB_mem (k := 911) (by decide +kernel) (by decide +kernel)
theorem k_X7_185 : Cond.methodLink RX7 185 yX7_outerWish ∈ gB := gB_mem (k := 907) (by decide +kernel) (by decide +kernel)
theorem k_X7_188 : Cond.methodLink RX7 188 yX7_share ∈ gB := gB_mem (k := 937) (by decide +kernel) (by decide +kernel)
theorem k_X7_191 : Cond.methodLink RX7 191 yX7_weight ∈ gB := gB_mem (k := 941) (by decide +kernel) (by decide +kernel)
theorem k_X7_195 : Cond.methodLink RX7 195 yX7_isLeft ∈ gB := gB_mem (k := 929) (by decide +kernel) (by decide +kernel)
theorem k_X7_198 : Cond.methodLink RX7 198 yX7_pass ∈ gB := gB_mem (k := 933) (by decide +kernel) (by decide +kernel)
theorem k_X7_201 : Cond.methodLink RX7 201 yX7_down ∈ gB := gB_mem (k := 953) (by decide +kernel) (by decide +kernel)
theorem k_X7_204 : Cond.methodLink RX7 204 yX7_shift ∈ gB := gB_mem (k := 949) (by decide +kernel) (by decide +kernel)
theorem k_X7_207 : Cond.methodLink RX7 207 yX7_wayOf ∈ gB := gB_mem (k := 960) (by decide +kernel) (by decide +kernel)
theorem k_X7_210 : Cond.methodLink RX7 210 yX7_above ∈ gB := gB_mem (k := 964) (by decide +kernel) (by decide +kernel)
theorem k_X7_213 : Cond.methodLink RX7 213 yX7_orders ∈ gB := gB_mem (k := 899) (by decide +kernel) (by decide +kernel)
theorem k_X7_216 : Cond.methodLink RX7 216 yX7_wraps ∈ gB := gB_mem (k := 903) (by decide +kernel) (by decide +kernel)
theorem k_X7_219 : Cond.methodLink RX7 219 yX7_sizes ∈ gB := gB_mem (k := 925) (by decide +kernel) (by decide +kernel)
theorem k_X7_222 : Cond.methodLink RX7 222 yX7_along ∈ gB := gB_mem (k := 945) (by decide +kernel) (by decide +kernel)
theorem k_X7_225 : Cond.methodLink RX7 225 yX7_across ∈ gB := gB_mem (k := 956) (by decide +kernel) (by decide +kernel)
theorem k_X7_228 : Cond.methodLink RX7 228 yX7_liesAt ∈ gB := gB_mem (k := 992) (by decide +kernel) (by decide +kernel)
theorem k_X7_231 : Cond.methodLink RX7 231 yX7_outer ∈ gB := gB_mem (k := 1008) (by decide +kernel) (by decide +kernel)
theorem k_X7_234 : Cond.methodLink RX7 234 yX7_linePart ∈ gB := gB_mem (k := 1004) (by decide +kernel) (by decide +kernel)
theorem k_X7_237 : Cond.methodLink RX7 237 yX7_fits ∈ gB := gB_mem (k := 1020) (by decide +kernel) (by decide +kernel)
theorem k_X7_241 : Cond.methodLink RX7 241 yX7_hidden ∈ gB := gB_mem (k := 1032) (by decide +kernel) (by decide +kernel)
theorem k_X7_244 : Cond.methodLink RX7 244 yX7_farthest ∈ gB := gB_mem (k := 1036) (by decide +kernel) (by decide +kernel)
theorem k_X7_247 : Cond.methodLink RX7 247 yX7_number ∈ gB := gB_mem (k := 1028) (by decide +kernel) (by decide +kernel)
theorem k_X7_256 : Cond.methodLink RX7 256 yX7_item ∈ gB := gB_mem (k := 1054) (by decide +kernel) (by decide +kernel)
theorem k_X7_259 : Cond.methodLink RX7 259 yX7_mixes ∈ gB := gB_mem (k := 1045) (by decide +kernel) (by decide +kernel)
theorem k_X7_265 : Cond.methodLink RX7 265 yX7_mixesItem ∈ gB := gB_mem (k := 1050) (by decide +kernel) (by decide +kernel)
theorem k_X7_75 : Cond.methodLink RX7 75 yX7_in ∈ gB := gB_mem (k := 808) (by decide +kernel) (by decide +kernel)
theorem k_X7_85 : Cond.methodLink RX7 85 yX7_next ∈ gB := gB_mem (k := 827) (by decide +kernel) (by decide +kernel)
theorem k_X7_92 : Cond.methodLink RX7 92 yX7_isDigit ∈ gB := gB_mem (k := 835) (by decide +kernel) (by decide +kernel)
theorem k_X7_96 : Cond.methodLink RX7 96 yX7_fails ∈ gB := gB_mem (k := 839) (by decide +kernel) (by decide +kernel)
theorem kl_X6_16 : Cond.classLink RX6 16 "FlexRows$State" ∈ gB := gB_mem (k := 110) (by decide +kernel) (by decide +kernel)
theorem kl_X6_23 : Cond.classLink RX6 23 "FlexRows$History" ∈ gB := gB_mem (k := 136) (by decide +kernel) (by decide +kernel)
theorem kl_X6_30 : Cond.classLink RX6 30 "FlexRows$Order" ∈ gB := gB_mem (k := 159) (by decide +kernel) (by decide +kernel)
theorem kl_X6_39 : Cond.classLink RX6 39 "FlexRows$Lines" ∈ gB := gB_mem (k := 202) (by decide +kernel) (by decide +kernel)
theorem kl_X6_48 : Cond.classLink RX6 48 "FlexRows$Places" ∈ gB := gB_mem (k := 258) (by decide +kernel) (by decide +kernel)
theorem kl_X6_7 : Cond.classLink RX6 7 "FlexRows$Text" ∈ gB := gB_mem (k := 84) (by decide +kernel) (by decide +kernel)
theorem kl_L_10 : Cond.classLink RL 10 "FlexRowsModel" ∈ gB := gB_mem (k := 712) (by decide +kernel) (by decide +kernel)
theorem kl_L_7 : Cond.classLink RL 7 "FlexRows" ∈ gB := gB_mem (k := 76) (by decide +kernel) (by decide +kernel)
theorem k_J0_1059 : Cond.methodLink RJ0 1059 yJ3_checkIndex_8e157 ∈ gB := gB_mem (k := 410) (by decide +kernel) (by decide +kernel)
theorem k_J0_335 : Cond.methodLink RJ0 335 yJ0_coder_7d493 ∈ gB := gB_mem (k := 388) (by decide +kernel) (by decide +kernel)
theorem k_J0_492 : Cond.methodLink RJ0 492 yJ0_isLatin1_aae02 ∈ gB := gB_mem (k := 398) (by decide +kernel) (by decide +kernel)
theorem k_J0_495 : Cond.methodLink RJ0 495 yJ1_charAt_3b067 ∈ gB := gB_mem (k := 402) (by decide +kernel) (by decide +kernel)
theorem k_J0_498 : Cond.methodLink RJ0 498 yJ2_charAt_3b067 ∈ gB := gB_mem (k := 413) (by decide +kernel) (by decide +kernel)
theorem k_J1_9 : Cond.methodLink RJ1 9 yJ0_checkIndex_df160 ∈ gB := gB_mem (k := 405) (by decide +kernel) (by decide +kernel)
theorem k_J2_414 : Cond.methodLink RJ2 414 yJ0_checkIndex_df160 ∈ gB := gB_mem (k := 422) (by decide +kernel) (by decide +kernel)
theorem k_J2_48 : Cond.methodLink RJ2 48 yJ2_length_9d52b ∈ gB := gB_mem (k := 419) (by decide +kernel) (by decide +kernel)
theorem k_J2_67 : Cond.methodLink RJ2 67 yJ2_checkIndex_2214a ∈ gB := gB_mem (k := 416) (by decide +kernel) (by decide +kernel)
theorem k_J2_71 : Cond.methodLink RJ2 71 yJ2_getChar_3b067 ∈ gB := gB_mem (k := 423) (by decide +kernel) (by decide +kernel)
theorem kc_X6_170 : Cond.constantLong RX6 170 148 ∈ gB := gB_mem (k := 705) (by decide +kernel) (by decide +kernel)
theorem kc_X6_172 : Cond.constantLong RX6 172 31 ∈ gB := gB_mem (k := 706) (by decide +kernel) (by decide +kernel)
theorem kc_X7_110 : Cond.constantLong RX7 110 127 ∈ gB := gB_mem (k := 858) (by decide +kernel) (by decide +kernel)
theorem kc_X7_112 : Cond.constantLong RX7 112 1735552887 ∈ gB := gB_mem (k := 853) (by decide +kernel) (by decide +kernel)
theorem kc_X7_118 : Cond.constantLong RX7 118 126892433305195 ∈ gB := gB_mem (k := 859) (by decide +kernel) (by decide +kernel)
theorem kc_X7_120 : Cond.constantLong RX7 120 7170414 ∈ gB := gB_mem (k := 860) (by decide +kernel) (by decide +kernel)
theorem kc_X7_122 : Cond.constantLong RX7 122 7168376 ∈ gB := gB_mem (k := 861) (by decide +kernel) (by decide +kernel)
theorem kc_X7_124 : Cond.constantLong RX7 124 120265298635118 ∈ gB := gB_mem (k := 862) (by decide +kernel) (by decide +kernel)
theorem kc_X7_126 : Cond.constantLong RX7 126 1918987883 ∈ gB := gB_mem (k := 863) (by decide +kernel) (by decide +kernel)
theorem kc_X7_128 : Cond.constantLong RX7 128 114784769370228 ∈ gB := gB_mem (k := 864) (by decide +kernel) (by decide +kernel)
theorem kc_X7_130 : Cond.constantLong RX7 130 431198598248 ∈ gB := gB_mem (k := 865) (by decide +kernel) (by decide +kernel)
theorem kc_X7_132 : Cond.constantLong RX7 132 107079749563251 ∈ gB := gB_mem (k := 866) (by decide +kernel) (by decide +kernel)
theorem kc_X7_250 : Cond.constantLong RX7 250 31 ∈ gB := gB_mem (k := 1049) (by decide +kernel) (by decide +kernel)
theorem kc_X7_263 : Cond.constantLong RX7 263 148 ∈ gB := gB_mem (k := 1044) (by decide +kernel) (by decide +kernel)
theorem ki_X0 : Cond.instantiable RX0 5 ∈ gB := gB_mem (k := 137) (by decide +kernel) (by decide +kernel)
theorem kn_X0 : Cond.initialized RX0 ∈ gB := gB_mem (k := 66) (by decide +kernel) (by decide +kernel)
theorem ki_X1 : Cond.instantiable RX1 12 ∈ gB := gB_mem (k := 203) (by decide +kernel) (by decide +kernel)
theorem kn_X1 : Cond.initialized RX1 ∈ gB := gB_mem (k := 68) (by decide +kernel) (by decide +kernel)
theorem ki_X2 : Cond.instantiable RX2 8 ∈ gB := gB_mem (k := 160) (by decide +kernel) (by decide +kernel)
theorem kn_X2 : Cond.initialized RX2 ∈ gB := gB_mem (k := 67) (by decide +kernel) (by decide +kernel)
theorem ki_X3 : Cond.instantiable RX3 8 ∈ gB := gB_mem (k := 259) (by decide +kernel) (by decide +kernel)
theorem kn_X3 : Cond.initialized RX3 ∈ gB := gB_mem (k := 69) (by decide +kernel) (by decide +kernel)
theorem ki_X4 : Cond.instantiable RX4 3 ∈ gB := gB_mem (k := 111) (by decide +kernel) (by decide +kernel)
theorem kn_X4 : Cond.initialized RX4 ∈ gB := gB_mem (k := 64) (by decide +kernel) (by decide +kernel)
theorem ki_X5 : Cond.instantiable RX5 5 ∈ gB := gB_mem (k := 85) (by decide +kernel) (by decide +kernel)
theorem kn_X5 : Cond.initialized RX5 ∈ gB := gB_mem (k := 63) (by decide +kernel) (by decide +kernel)
theorem ki_X6 : Cond.instantiable RX6 8 ∈ gB := gB_mem (k := 77) (by decide +kernel) (by decide +kernel)
theorem kn_X6 : Cond.initialized RX6 ∈ gB := gB_mem (k := 62) (by decide +kernel) (by decide +kernel)
theorem ki_X7 : Cond.instantiable RX7 27 ∈ gB := gB_mem (k := 713) (by decide +kernel) (by decide +kernel)
theorem kn_X7 : Cond.initialized RX7 ∈ gB := gB_mem (k := 70) (by decide +kernel) (by decide +kernel)
theorem ka_int : Cond.arrayClass .int ∈ gB := gB_mem (k := 109) (by decide +kernel) (by decide +kernel)
theorem ka_byte : Cond.arrayClass .byte ∈ gB := gB_mem (k := 108) (by decide +kernel) (by decide +kernel)
theorem ka_boolean : Cond.arrayClass .boolean ∈ gB := gB_mem (k := 257) (by decide +kernel) (by decide +kernel)
theorem k_oi1 : Cond.instanceMethod objectInit ∈ gB := gB_mem (k := 82) (by decide +kernel) (by decide +kernel)
theorem k_oi2 : Cond.code objectInit ⟨#[0xb1]⟩ 1 none ∈ gB := gB_mem (k := 83) (by decide +kernel) (by decide +kernel)
theorem k_ac1 : Cond.native arraycopyName ∈ gB := gB_mem (k := 120) (by decide +kernel) (by decide +kernel)
theorem k_ac2 : Cond.static arraycopyName ∈ gB := gB_mem (k := 119) (by decide +kernel) (by decide +kernel)
theorem k_ac3 : Cond.initialized "java/lang/System" ∈ gB := gB_mem (k := 65) (by decide +kernel) (by decide +kernel)
theorem k_ma3 : Cond.initialized "java/lang/Math" ∈ gB := gB_mem (k := 75) (by decide +kernel) (by decide +kernel)
theorem k_max2 : Cond.static Lib.Math.max.name ∈ gB := gB_mem (k := 497) (by decide +kernel) (by decide +kernel)
theorem k_max4 : Cond.code Lib.Math.max.name Lib.Math.max.code 2 (some .int) ∈ gB := gB_mem (k := 498) (by decide +kernel) (by decide +kernel)
theorem k_min2 : Cond.static Lib.Math.min.name ∈ gB := gB_mem (k := 445) (by decide +kernel) (by decide +kernel)
theorem k_min4 : Cond.code Lib.Math.min.name Lib.Math.min.code 2 (some .int) ∈ gB := gB_mem (k := 446) (by decide +kernel) (by decide +kernel)
theorem kf_X6_103 : Cond.fieldLink RX6 103 "FlexRows" "LOWEST" "[I" ∈ gB := gB_mem (k := 604) (by decide +kernel) (by decide +kernel)
theorem kf_X6_106 : Cond.fieldLink RX6 106 "FlexRows" "HIGHEST" "[I" ∈ gB := gB_mem (k := 605) (by decide +kernel) (by decide +kernel)
theorem kf_X6_117 : Cond.fieldLink RX6 117 "FlexRows" "LOWEST_NUMBER" "[I" ∈ gB := gB_mem (k := 616) (by decide +kernel) (by decide +kernel)
theorem kf_X6_120 : Cond.fieldLink RX6 120 "FlexRows" "HIGHEST_NUMBER" "[I" ∈ gB := gB_mem (k := 618) (by decide +kernel) (by decide +kernel)
theorem kf_J0_9 : Cond.fieldLink RJ0 9 "java/lang/String" "value" "[B" ∈ gB := gB_mem (k := 1055) (by decide +kernel) (by decide +kernel)
theorem kf_J0_15 : Cond.fieldLink RJ0 15 "java/lang/String" "coder" "B" ∈ gB := gB_mem (k := 1056) (by decide +kernel) (by decide +kernel)
theorem kf_J0_38 : Cond.fieldLink RJ0 38 "java/lang/String" "COMPACT_STRINGS" "Z" ∈ gB := gB_mem (k := 392) (by decide +kernel) (by decide +kernel)
theorem kf_J0_1053 : Cond.fieldLink RJ0 1053 "jdk/internal/util/Preconditions" "SIOOBE_FORMATTER" "Ljava/util/function/BiFunction;" ∈ gB := gB_mem (k := 408) (by decide +kernel) (by decide +kernel)
theorem kf_J2_44 : Cond.fieldLink RJ2 44 "java/lang/StringUTF16" "$assertionsDisabled" "Z" ∈ gB := gB_mem (k := 426) (by decide +kernel) (by decide +kernel)
theorem kf_J2_59 : Cond.fieldLink RJ2 59 "java/lang/StringUTF16" "HI_BYTE_SHIFT" "I" ∈ gB := gB_mem (k := 428) (by decide +kernel) (by decide +kernel)
theorem kf_J2_63 : Cond.fieldLink RJ2 63 "java/lang/StringUTF16" "LO_BYTE_SHIFT" "I" ∈ gB := gB_mem (k := 430) (by decide +kernel) (by decide +kernel)
end
section
/-- the references, once all is made -/
def gR0L : List (List (Option Nat)) := [[some 1, some 4, some 7, some 11, some 18, some 27, some 32], [some 2, some 3], [], [], [none, some 5, some 6], [], [], [none, none, some 8, some 9, some 10], [], [], [], [none, some 12, some 13, some 14, some 15, some 16, some 17, some 4], [], [], [], [], [], [], [none, some 19, some 20, some 21, some 22, some 23, some 24, some 25, some 26, some 4, some 11], [], [], [], [], [], [], [], [], [none, some 28, some 29, some 30, some 31, some 4, some 11, some 18], [], [], [], [], [none, some 33, some 34, some 35, some 36, some 37, some 38, some 39, some 40, some 4, some 11], [], [], [], [], [], [], [], [], [some 42, some 43, none, some 44, none, none, none, some 45, some 46, none, some 47, some 48, some 49, none, some 50, some 51, some 52, some 53, some 54, some 55, some 56, some 57, some 58, some 59, some 60, some 61], [], [], [], [], [], [], [], [], [], [], [], [], [], [], [], [], [], [], [], []]
def gR0 (o k : Nat) : Option Nat := (gR0L.getD o []).getD k none
abbrev gM (I : Nat → Nat → Int32) (h : Int64) : gS := (62, I, gR0, h)
theorem r_0_0 : gR0 0 0 = some 1 := rfl
theorem r_0_1 : gR0 0 1 = some 4 := rfl
theorem r_0_2 : gR0 0 2 = some 7 := rfl
theorem r_0_3 : gR0 0 3 = some 11 := rfl
theorem r_0_4 : gR0 0 4 = some 18 := rfl
theorem r_0_5 : gR0 0 5 = some 27 := rfl
theorem r_0_6 : gR0 0 6 = some 32 := rfl
theorem r_1_0 : gR0 1 0 = some 2 := rfl
theorem r_1_1 : gR0 1 1 = some 3 := rfl
theorem r_4_1 : gR0 4 1 = some 5 := rfl
theorem r_4_2 : gR0 4 2 = some 6 := rfl
theorem r_7_2 : gR0 7 2 = some 8 := rfl
theorem r_7_3 : gR0 7 3 = some 9 := rfl
theorem r_7_4 : gR0 7 4 = some 10 := rfl
theorem r_11_1 : gR0 11 1 = some 12 := rfl
theorem r_11_2 : gR0 11 2 = some 13 := rfl
theorem r_11_3 : gR0 11 3 = some 14 := rfl
theorem r_11_4 : gR0 11 4 = some 15 := rfl
theorem r_11_5 : gR0 11 5 = some 16 := rfl
theorem r_11_6 : gR0 11 6 = some 17 := rfl
theorem r_11_7 : gR0 11 7 = some 4 := rfl
theorem r_18_1 : gR0 18 1 = some 19 := rfl
theorem r_18_2 : gR0 18 2 = some 20 := rfl
theorem r_18_3 : gR0 18 3 = some 21 := rfl
theorem r_18_4 : gR0 18 4 = some 22 := rfl
theorem r_18_5 : gR0 18 5 = some 23 := rfl
theorem r_18_6 : gR0 18 6 = some 24 := rfl
theorem r_18_7 : gR0 18 7 = some 25 := rfl
theorem r_18_8 : gR0 18 8 = some 26 := rfl
theorem r_18_9 : gR0 18 9 = some 4 := rfl
theorem r_18_10 : gR0 18 10 = some 11 := rfl
theorem r_27_1 : gR0 27 1 = some 28 := rfl
theorem r_27_2 : gR0 27 2 = some 29 := rfl
theorem r_27_3 : gR0 27 3 = some 30 := rfl
theorem r_27_4 : gR0 27 4 = some 31 := rfl
theorem r_27_5 : gR0 27 5 = some 4 := rfl
theorem r_27_6 : gR0 27 6 = some 11 := rfl
theorem r_27_7 : gR0 27 7 = some 18 := rfl
theorem r_32_1 : gR0 32 1 = some 33 := rfl
theorem r_32_2 : gR0 32 2 = some 34 := rfl
theorem r_32_3 : gR0 32 3 = some 35 := rfl
theorem r_32_4 : gR0 32 4 = some 36 := rfl
theorem r_32_5 : gR0 32 5 = some 37 := rfl
theorem r_32_6 : gR0 32 6 = some 38 := rfl
theorem r_32_7 : gR0 32 7 = some 39 := rfl
theorem r_32_8 : gR0 32 8 = some 40 := rfl
theorem r_32_9 : gR0 32 9 = some 4 := rfl
theorem r_32_10 : gR0 32 10 = some 11 := rfl
theorem r_41_0 : gR0 41 0 = some 42 := rfl
theorem r_41_1 : gR0 41 1 = some 43 := rfl
theorem r_41_3 : gR0 41 3 = some 44 := rfl
theorem r_41_7 : gR0 41 7 = some 45 := rfl
theorem r_41_8 : gR0 41 8 = some 46 := rfl
theorem r_41_10 : gR0 41 10 = some 47 := rfl
theorem r_41_11 : gR0 41 11 = some 48 := rfl
theorem r_41_12 : gR0 41 12 = some 49 := rfl
theorem r_41_14 : gR0 41 14 = some 50 := rfl
theorem r_41_15 : gR0 41 15 = some 51 := rfl
theorem r_41_16 : gR0 41 16 = some 52 := rfl
theorem r_41_17 : gR0 41 17 = some 53 := rfl
theorem r_41_18 : gR0 41 18 = some 54 := rfl
theorem r_41_19 : gR0 41 19 = some 55 := rfl
theorem r_41_20 : gR0 41 20 = some 56 := rfl
theorem r_41_21 : gR0 41 21 = some 57 := rfl
theorem r_41_22 : gR0 41 22 = some 58 := rfl
theorem r_41_23 : gR0 41 23 = some 59 := rfl
theorem r_41_24 : gR0 41 24 = some 60 := rfl
theorem r_41_25 : gR0 41 25 = some 61 := rfl
theorem s_0 : gsh 0 = .inl 6 := rfl
theorem l6_0 : 0 < 62 := by decide
theorem l9_0 : 0 < 1000 := by decide
theorem s_1 : gsh 1 = .inl 5 := rfl
theorem l6_1 : 1 < 62 := by decide
theorem l9_1 : 1 < 1000 := by decide
theorem s_2 : gsh 2 = .inr (1, 80) := rfl
theorem l6_2 : 2 < 62 := by decide
theorem l9_2 : 2 < 1000 := by decide
theorem s_3 : gsh 3 = .inr (0, 10) := rfl
theorem l6_3 : 3 < 62 := by decide
theorem l9_3 : 3 < 1000 := by decide
theorem s_4 : gsh 4 = .inl 4 := rfl
theorem l6_4 : 4 < 62 := by decide
theorem l9_4 : 4 < 1000 := by decide
theorem s_5 : gsh 5 = .inr (0, 7) := rfl
theorem l6_5 : 5 < 62 := by decide
theorem l9_5 : 5 < 1000 := by decide
theorem s_6 : gsh 6 = .inr (0, 176) := rfl
theorem l6_6 : 6 < 62 := by decide
theorem l9_6 : 6 < 1000 := by decide
theorem s_7 : gsh 7 = .inl 0 := rfl
theorem l6_7 : 7 < 62 := by decide
theorem l9_7 : 7 < 1000 := by decide
theorem s_8 : gsh 8 = .inr (0, 8) := rfl
theorem l6_8 : 8 < 62 := by decide
theorem l9_8 : 8 < 1000 := by decide
theorem s_9 : gsh 9 = .inr (0, 56) := rfl
theorem l6_9 : 9 < 62 := by decide
theorem l9_9 : 9 < 1000 := by decide
theorem s_10 : gsh 10 = .inr (0, 1408) := rfl
theorem l6_10 : 10 < 62 := by decide
theorem l9_10 : 10 < 1000 := by decide
theorem s_11 : gsh 11 = .inl 2 := rfl
theorem l6_11 : 11 < 62 := by decide
theorem l9_11 : 11 < 1000 := by decide
theorem s_12 : gsh 12 = .inr (0, 16) := rfl
theorem l6_12 : 12 < 62 := by decide
theorem l9_12 : 12 < 1000 := by decide
theorem s_13 : gsh 13 = .inr (0, 16) := rfl
theorem l6_13 : 13 < 62 := by decide
theorem l9_13 : 13 < 1000 := by decide
theorem s_14 : gsh 14 = .inr (0, 16) := rfl
theorem l6_14 : 14 < 62 := by decide
theorem l9_14 : 14 < 1000 := by decide
theorem s_15 : gsh 15 = .inr (0, 16) := rfl
theorem l6_15 : 15 < 62 := by decide
theorem l9_15 : 15 < 1000 := by decide
theorem s_16 : gsh 16 = .inr (0, 16) := rfl
theorem l6_16 : 16 < 62 := by decide
theorem l9_16 : 16 < 1000 := by decide
theorem s_17 : gsh 17 = .inr (0, 16) := rfl
theorem l6_17 : 17 < 62 := by decide
theorem l9_17 : 17 < 1000 := by decide
theorem s_18 : gsh 18 = .inl 1 := rfl
theorem l6_18 : 18 < 62 := by decide
theorem l9_18 : 18 < 1000 := by decide
theorem s_19 : gsh 19 = .inr (0, 16) := rfl
theorem l6_19 : 19 < 62 := by decide
theorem l9_19 : 19 < 1000 := by decide
theorem s_20 : gsh 20 = .inr (0, 16) := rfl
theorem l6_20 : 20 < 62 := by decide
theorem l9_20 : 20 < 1000 := by decide
theorem s_21 : gsh 21 = .inr (0, 16) := rfl
theorem l6_21 : 21 < 62 := by decide
theorem l9_21 : 21 < 1000 := by decide
theorem s_22 : gsh 22 = .inr (0, 16) := rfl
theorem l6_22 : 22 < 62 := by decide
theorem l9_22 : 22 < 1000 := by decide
theorem s_23 : gsh 23 = .inr (2, 16) := rfl
theorem l6_23 : 23 < 62 := by decide
theorem l9_23 : 23 < 1000 := by decide
theorem s_24 : gsh 24 = .inr (0, 16) := rfl
theorem l6_24 : 24 < 62 := by decide
theorem l9_24 : 24 < 1000 := by decide
theorem s_25 : gsh 25 = .inr (0, 16) := rfl
theorem l6_25 : 25 < 62 := by decide
theorem l9_25 : 25 < 1000 := by decide
theorem s_26 : gsh 26 = .inr (0, 16) := rfl
theorem l6_26 : 26 < 62 := by decide
theorem l9_26 : 26 < 1000 := by decide
theorem s_27 : gsh 27 = .inl 3 := rfl
theorem l6_27 : 27 < 62 := by decide
theorem l9_27 : 27 < 1000 := by decide
theorem s_28 : gsh 28 = .inr (0, 16) := rfl
theorem l6_28 : 28 < 62 := by decide
theorem l9_28 : 28 < 1000 := by decide
theorem s_29 : gsh 29 = .inr (0, 16) := rfl
theorem l6_29 : 29 < 62 := by decide
theorem l9_29 : 29 < 1000 := by decide
theorem s_30 : gsh 30 = .inr (0, 16) := rfl
theorem l6_30 : 30 < 62 := by decide
theorem l9_30 : 30 < 1000 := by decide
theorem s_31 : gsh 31 = .inr (0, 16) := rfl
theorem l6_31 : 31 < 62 := by decide
theorem l9_31 : 31 < 1000 := by decide
theorem s_32 : gsh 32 = .inl 1 := rfl
theorem l6_32 : 32 < 62 := by decide
theorem l9_32 : 32 < 1000 := by decide
theorem s_33 : gsh 33 = .inr (0, 16) := rfl
theorem l6_33 : 33 < 62 := by decide
theorem l9_33 : 33 < 1000 := by decide
theorem s_34 : gsh 34 = .inr (0, 16) := rfl
theorem l6_34 : 34 < 62 := by decide
theorem l9_34 : 34 < 1000 := by decide
theorem s_35 : gsh 35 = .inr (0, 16) := rfl
theorem l6_35 : 35 < 62 := by decide
theorem l9_35 : 35 < 1000 := by decide
theorem s_36 : gsh 36 = .inr (0, 16) := rfl
theorem l6_36 : 36 < 62 := by decide
theorem l9_36 : 36 < 1000 := by decide
theorem s_37 : gsh 37 = .inr (2, 16) := rfl
theorem l6_37 : 37 < 62 := by decide
theorem l9_37 : 37 < 1000 := by decide
theorem s_38 : gsh 38 = .inr (0, 16) := rfl
theorem l6_38 : 38 < 62 := by decide
theorem l9_38 : 38 < 1000 := by decide
theorem s_39 : gsh 39 = .inr (0, 16) := rfl
theorem l6_39 : 39 < 62 := by decide
theorem l9_39 : 39 < 1000 := by decide
theorem s_40 : gsh 40 = .inr (0, 16) := rfl
theorem l6_40 : 40 < 62 := by decide
theorem l9_40 : 40 < 1000 := by decide
theorem s_41 : gsh 41 = .inl 7 := rfl
theorem l6_41 : 41 < 62 := by decide
theorem l9_41 : 41 < 1000 := by decide
theorem s_42 : gsh 42 = .inr (0, 184) := rfl
theorem l6_42 : 42 < 62 := by decide
theorem l9_42 : 42 < 1000 := by decide
theorem s_43 : gsh 43 = .inr (0, 1472) := rfl
theorem l6_43 : 43 < 62 := by decide
theorem l9_43 : 43 < 1000 := by decide
theorem s_44 : gsh 44 = .inr (0, 80) := rfl
theorem l6_44 : 44 < 62 := by decide
theorem l9_44 : 44 < 1000 := by decide
theorem s_45 : gsh 45 = .inr (0, 11) := rfl
theorem l6_45 : 45 < 62 := by decide
theorem l9_45 : 45 < 1000 := by decide
theorem s_46 : gsh 46 = .inr (0, 16) := rfl
theorem l6_46 : 46 < 62 := by decide
theorem l9_46 : 46 < 1000 := by decide
theorem s_47 : gsh 47 = .inr (0, 16) := rfl
theorem l6_47 : 47 < 62 := by decide
theorem l9_47 : 47 < 1000 := by decide
theorem s_48 : gsh 48 = .inr (0, 16) := rfl
theorem l6_48 : 48 < 62 := by decide
theorem l9_48 : 48 < 1000 := by decide
theorem s_49 : gsh 49 = .inr (0, 16) := rfl
theorem l6_49 : 49 < 62 := by decide
theorem l9_49 : 49 < 1000 := by decide
theorem s_50 : gsh 50 = .inr (0, 16) := rfl
theorem l6_50 : 50 < 62 := by decide
theorem l9_50 : 50 < 1000 := by decide
theorem s_51 : gsh 51 = .inr (0, 16) := rfl
theorem l6_51 : 51 < 62 := by decide
theorem l9_51 : 51 < 1000 := by decide
theorem s_52 : gsh 52 = .inr (0, 16) := rfl
theorem l6_52 : 52 < 62 := by decide
theorem l9_52 : 52 < 1000 := by decide
theorem s_53 : gsh 53 = .inr (2, 16) := rfl
theorem l6_53 : 53 < 62 := by decide
theorem l9_53 : 53 < 1000 := by decide
theorem s_54 : gsh 54 = .inr (0, 16) := rfl
theorem l6_54 : 54 < 62 := by decide
theorem l9_54 : 54 < 1000 := by decide
theorem s_55 : gsh 55 = .inr (0, 16) := rfl
theorem l6_55 : 55 < 62 := by decide
theorem l9_55 : 55 < 1000 := by decide
theorem s_56 : gsh 56 = .inr (0, 16) := rfl
theorem l6_56 : 56 < 62 := by decide
theorem l9_56 : 56 < 1000 := by decide
theorem s_57 : gsh 57 = .inr (2, 16) := rfl
theorem l6_57 : 57 < 62 := by decide
theorem l9_57 : 57 < 1000 := by decide
theorem s_58 : gsh 58 = .inr (0, 16) := rfl
theorem l6_58 : 58 < 62 := by decide
theorem l9_58 : 58 < 1000 := by decide
theorem s_59 : gsh 59 = .inr (0, 16) := rfl
theorem l6_59 : 59 < 62 := by decide
theorem l9_59 : 59 < 1000 := by decide
theorem s_60 : gsh 60 = .inr (0, 16) := rfl
theorem l6_60 : 60 < 62 := by decide
theorem l9_60 : 60 < 1000 := by decide
theorem s_61 : gsh 61 = .inr (0, 16) := rfl
theorem l6_61 : 61 < 62 := by decide
theorem l9_61 : 61 < 1000 := by decide
theorem c_bipush_m49 : (Int8.ofInt (-49)).toInt32 = (-49) := by decide +kernel
theorem c_bipush_m9 : (Int8.ofInt (-9)).toInt32 = (-9) := by decide +kernel
theorem c_bipush_6 : (Int8.ofInt (6)).toInt32 = nI 6 := by decide +kernel
theorem c_bipush_7 : (Int8.ofInt (7)).toInt32 = nI 7 := by decide +kernel
theorem c_bipush_8 : (Int8.ofInt (8)).toInt32 = nI 8 := by decide +kernel
theorem c_bipush_9 : (Int8.ofInt (9)).toInt32 = nI 9 := by decide +kernel
theorem c_bipush_10 : (Int8.ofInt (10)).toInt32 = nI 10 := by decide +kernel
theorem c_bipush_11 : (Int8.ofInt (11)).toInt32 = nI 11 := by decide +kernel
theorem c_bipush_12 : (Int8.ofInt (12)).toInt32 = nI 12 := by decide +kernel
theorem c_bipush_13 : (Int8.ofInt (13)).toInt32 = nI 13 := by decide +kernel
theorem c_bipush_14 : (Int8.ofInt (14)).toInt32 = nI 14 := by decide +kernel
theorem c_bipush_16 : (Int8.ofInt (16)).toInt32 = nI 16 := by decide +kernel
theorem c_bipush_20 : (Int8.ofInt (20)).toInt32 = nI 20 := by decide +kernel
theorem c_bipush_31 : (Int8.ofInt (31)).toInt32 = nI 31 := by decide +kernel
theorem c_bipush_32 : (Int8.ofInt (32)).toInt32 = nI 32 := by decide +kernel
theorem c_bipush_40 : (Int8.ofInt (40)).toInt32 = nI 40 := by decide +kernel
theorem c_bipush_45 : (Int8.ofInt (45)).toInt32 = nI 45 := by decide +kernel
theorem c_bipush_48 : (Int8.ofInt (48)).toInt32 = nI 48 := by decide +kernel
theorem c_bipush_50 : (Int8.ofInt (50)).toInt32 = nI 50 := by decide +kernel
theorem c_bipush_56 : (Int8.ofInt (56)).toInt32 = nI 56 := by decide +kernel
theorem c_bipush_57 : (Int8.ofInt (57)).toInt32 = nI 57 := by decide +kernel
theorem c_bipush_80 : (Int8.ofInt (80)).toInt32 = nI 80 := by decide +kernel
theorem c_bipush_97 : (Int8.ofInt (97)).toInt32 = nI 97 := by decide +kernel
theorem c_bipush_100 : (Int8.ofInt (100)).toInt32 = nI 100 := by decide +kernel
theorem c_bipush_122 : (Int8.ofInt (122)).toInt32 = nI 122 := by decide +kernel
theorem c_bipush_127 : (Int8.ofInt (127)).toInt32 = nI 127 := by decide +kernel
theorem c_iconst_m1 : Int32.ofInt (-1) = (-1) := by decide +kernel
theorem c_iconst_0 : Int32.ofInt (0) = nI 0 := by decide +kernel
theorem c_iconst_1 : Int32.ofInt (1) = nI 1 := by decide +kernel
theorem c_iconst_2 : Int32.ofInt (2) = nI 2 := by decide +kernel
theorem c_iconst_3 : Int32.ofInt (3) = nI 3 := by decide +kernel
theorem c_iconst_4 : Int32.ofInt (4) = nI 4 := by decide +kernel
theorem c_iconst_5 : Int32.ofInt (5) = nI 5 := by decide +kernel
theorem c_sipush_m2000 : (Int16.ofInt (-2000)).toInt32 = (-2000) := by decide +kernel
theorem c_sipush_m1004 : (Int16.ofInt (-1004)).toInt32 = (-1004) := by decide +kernel
theorem c_sipush_m1003 : (Int16.ofInt (-1003)).toInt32 = (-1003) := by decide +kernel
theorem c_sipush_m1002 : (Int16.ofInt (-1002)).toInt32 = (-1002) := by decide +kernel
theorem c_sipush_m1001 : (Int16.ofInt (-1001)).toInt32 = (-1001) := by decide +kernel
theorem c_sipush_176 : (Int16.ofInt (176)).toInt32 = nI 176 := by decide +kernel
theorem c_sipush_177 : (Int16.ofInt (177)).toInt32 = nI 177 := by decide +kernel
theorem c_sipush_178 : (Int16.ofInt (178)).toInt32 = nI 178 := by decide +kernel
theorem c_sipush_179 : (Int16.ofInt (179)).toInt32 = nI 179 := by decide +kernel
theorem c_sipush_180 : (Int16.ofInt (180)).toInt32 = nI 180 := by decide +kernel
theorem c_sipush_181 : (Int16.ofInt (181)).toInt32 = nI 181 := by decide +kernel
theorem c_sipush_182 : (Int16.ofInt (182)).toInt32 = nI 182 := by decide +kernel
theorem c_sipush_183 : (Int16.ofInt (183)).toInt32 = nI 183 := by decide +kernel
theorem c_sipush_184 : (Int16.ofInt (184)).toInt32 = nI 184 := by decide +kernel
theorem c_sipush_255 : (Int16.ofInt (255)).toInt32 = nI 255 := by decide +kernel
theorem c_sipush_300 : (Int16.ofInt (300)).toInt32 = nI 300 := by decide +kernel
theorem c_sipush_400 : (Int16.ofInt (400)).toInt32 = nI 400 := by decide +kernel
theorem c_sipush_999 : (Int16.ofInt (999)).toInt32 = nI 999 := by decide +kernel
theorem c_sipush_1288 : (Int16.ofInt (1288)).toInt32 = nI 1288 := by decide +kernel
theorem c_sipush_1408 : (Int16.ofInt (1408)).toInt32 = nI 1408 := by decide +kernel
theorem c_sipush_1472 : (Int16.ofInt (1472)).toInt32 = nI 1472 := by decide +kernel
theorem c_sipush_2000 : (Int16.ofInt (2000)).toInt32 = nI 2000 := by decide +kernel
theorem c_sipush_5000 : (Int16.ofInt (5000)).toInt32 = nI 5000 := by decide +kernel
theorem g0 : (0 : Int32) = nI 0 := nI_0.symm
/-- contracts: a number, nothing changed -/
abbrev gPI (E : gE) (F : gF) (as : List Value) (I : Nat → Nat → Int32) (h : Int64) (v : Int32) : Prop := gEv E F 62 as (gM I h) (fun r σ' => r = some (.int v) ∧ σ' = gM I h)
/-- a number, and what then is held -/
abbrev gQI (E : gE) (F : gF) (as : List Value) (I : Nat → Nat → Int32) (h : Int64) (P : Int32 → (Nat → Nat → Int32) → Prop) : Prop := gEv E F 62 as (gM I h) (fun r σ' => ∃ (v : Int32) (I' : Nat → Nat → Int32), r = some (.int v) ∧ σ' = gM I' h ∧ P v I')
/-- nothing, and what then is held -/
abbrev gQV (E : gE) (F : gF) (as : List Value) (I : Nat → Nat → Int32) (h : Int64) (P : (Nat → Nat → Int32) → Prop) : Prop := gEv E F 62 as (gM I h) (fun r σ' => ∃ I' : Nat → Nat → Int32, r = none ∧ σ' = gM I' h ∧ P I')
theorem gPI.post {E : gE} {F : gF} {as : List Value} {I : Nat → Nat → Int32} {h : Int64} {v : Int32} {P : Int32 → (Nat → Nat → Int32) → Prop} (he : gPI E F as I h v) (hp : P v I) : gQI E F as I h P := gEv.mono he fun r σ' q => ⟨v, I, q.1, q.2, hp⟩
theorem gQI.mono {E : gE} {F : gF} {as : List Value} {I : Nat → Nat → Int32} {h : Int64} {P P2 : Int32 → (Nat → Nat → Int32) → Prop} (he : gQI E F as I h P) (hp : ∀ v I', P v I' → P2 v I') : gQI E F as I h P2 := gEv.mono he fun r σ' ⟨v, I', a, b, c⟩ => ⟨v, I', a, b, hp v I' c⟩
theorem gQV.mono {E : gE} {F : gF} {as : List Value} {I : Nat → Nat → Int32} {h : Int64} {P P2 : (Nat → Nat → Int32) → Prop} (he : gQV E F as I h P) (hp : ∀ I', P I' → P2 I') : gQV E F as I h P2 := gEv.mono he fun r σ' ⟨I', a, b, c⟩ => ⟨I', a, b, hp I' c⟩
section GSTD
variable {E : gE} {F : gF} {pc : Nat} {L st : List Value} {I : Nat → Nat → Int32} {h : Int64} {K : gK}
theorem g_cVp {Fc : gF} {n index t o ci : Nat} {T : u_T} {N : Nat} {as S : List Value} {v : Int32} (hm : gMi Fc n) (hw1 : Cond.methodLink F.1.cls index Fc.1 ∈ gB) (hw2 : Cond.instanceMethod Fc.1 ∈ gB) (hw3 : Cond.selects Fc.1.cls Fc.1 Fc.1 ∈ gB) (ho : o < 62) (h9 : o < 1000) (hsh : gsh o = .inl ci) (hcl : vwCl[ci]? = some (Fc.1.cls, T, N)) (d : decode F.2.1 pc = .ok (.invokevirtual index, 3)) (he : gPI E Fc (.ref o :: as) I h v) (hn : as.length = n) (hS : S = as.reverse ++ .ref o :: st) (hfr : Fc.2.2.2.2.1 + 1 ≤ F.2.2.2.2.1) (hlo : 8 + (Fc.2.2.1 + 11) + Fc.2.2.2.2.2 ≤ F.2.2.2.2.2) (hst : (st.map fun v => v.category).sum ≤ 8) (e : pc + 3 = t) (kk : Wp E F 62 t L (.int v :: st) (gM I h) K) : Wp E F 62 pc L S (gM I h) K :=
  g_callV hm hw1 hw2 hw3 ho h9 hsh hcl he hn hS (Nat.le_refl _) hfr hlo hst d e fun r σ' q _ => by obtain ⟨rfl, rfl⟩ := q; exact kk
theorem g_cVi {Fc : gF} {n index t o ci : Nat} {T : u_T} {N : Nat} {as S : List Value} {P : Int32 → (Nat → Nat → Int32) → Prop} (hm : gMi Fc n) (hw1 : Cond.methodLink F.1.cls index Fc.1 ∈ gB) (hw2 : Cond.instanceMethod Fc.1 ∈ gB) (hw3 : Cond.selects Fc.1.cls Fc.1 Fc.1 ∈ gB) (ho : o < 62) (h9 : o < 1000) (hsh : gsh o = .inl ci) (hcl : vwCl[ci]? = some (Fc.1.cls, T, N)) (d : decode F.2.1 pc = .ok (.invokevirtual index, 3)) (he : gQI E Fc (.ref o :: as) I h P) (hn : as.length = n) (hS : S = as.reverse ++ .ref o :: st) (hfr : Fc.2.2.2.2.1 + 1 ≤ F.2.2.2.2.1) (hlo : 8 + (Fc.2.2.1 + 11) + Fc.2.2.2.2.2 ≤ F.2.2.2.2.2) (hst : (st.map fun v => v.category).sum ≤ 8) (e : pc + 3 = t) (kk : ∀ (v : Int32) (I' : Nat → Nat → Int32), P v I' → Wp E F 62 t L (.int v :: st) (gM I' h) K) : Wp E F 62 pc L S (gM I h) K :=
  g_callV hm hw1 hw2 hw3 ho h9 hsh hcl he hn hS (Nat.le_refl _) hfr hlo hst d e fun r σ' q _ => by obtain ⟨v, I', rfl, rfl, q⟩ := q; exact kk v I' q
theorem g_cVv {Fc : gF} {n index t o ci : Nat} {T : u_T} {N : Nat} {as S : List Value} {P : (Nat → Nat → Int32) → Prop} (hm : gMi Fc n) (hw1 : Cond.methodLink F.1.cls index Fc.1 ∈ gB) (hw2 : Cond.instanceMethod Fc.1 ∈ gB) (hw3 : Cond.selects Fc.1.cls Fc.1 Fc.1 ∈ gB) (ho : o < 62) (h9 : o < 1000) (hsh : gsh o = .inl ci) (hcl : vwCl[ci]? = some (Fc.1.cls, T, N)) (d : decode F.2.1 pc = .ok (.invokevirtual index, 3)) (he : gQV E Fc (.ref o :: as) I h P) (hn : as.length = n) (hS : S = as.reverse ++ .ref o :: st) (hfr : Fc.2.2.2.2.1 + 1 ≤ F.2.2.2.2.1) (hlo : 8 + (Fc.2.2.1 + 11) + Fc.2.2.2.2.2 ≤ F.2.2.2.2.2) (hst : (st.map fun v => v.category).sum ≤ 8) (e : pc + 3 = t) (kk : ∀ I' : Nat → Nat → Int32, P I' → Wp E F 62 t L st (gM I' h) K) : Wp E F 62 pc L S (gM I h) K :=
  g_callV hm hw1 hw2 hw3 ho h9 hsh hcl he hn hS (Nat.le_refl _) hfr hlo hst d e fun r σ' q _ => by obtain ⟨I', rfl, rfl, q⟩ := q; exact kk I' q
theorem g_cSp {Fc : gF} {n index t : Nat} {as S : List Value} {v : Int32} (hm : gMi Fc n) (hw1 : Cond.methodLink F.1.cls index Fc.1 ∈ gB) (hw2 : Cond.static Fc.1 ∈ gB) (d : decode F.2.1 pc = .ok (.invokestatic index, 3)) (he : gPI E Fc as I h v) (hn : as.length = n) (hS : S = as.reverse ++ st) (hfr : Fc.2.2.2.2.1 + 1 ≤ F.2.2.2.2.1) (hlo : 8 + (Fc.2.2.1 + 11) + Fc.2.2.2.2.2 ≤ F.2.2.2.2.2) (hst : (st.map fun v => v.category).sum ≤ 8) (e : pc + 3 = t) (kk : Wp E F 62 t L (.int v :: st) (gM I h) K) : Wp E F 62 pc L S (gM I h) K :=
  g_callS hm hw1 hw2 he hn hS (Nat.le_refl _) hfr hlo hst d e fun r σ' q _ => by obtain ⟨rfl, rfl⟩ := q; exact kk
theorem g_cTp {Fc : gF} {n index t r i : Nat} {q : Nat × String × List Int32} {as S : List Value} {v : Int32} (hm : gMi Fc n) (hw1 : Cond.methodLink F.1.cls index Fc.1 ∈ gB) (hw2 : Cond.instanceMethod Fc.1 ∈ gB) (hw3 : Cond.selects Fc.1.cls Fc.1 Fc.1 ∈ gB) (hi : gtx[i]? = some q) (hr : r = 1010 + i) (hcl : Fc.1.cls = "java/lang/String") (d : decode F.2.1 pc = .ok (.invokevirtual index, 3)) (he : gPI E Fc (.ref r :: as) I h v) (hn : as.length = n) (hS : S = as.reverse ++ .ref r :: st) (hfr : Fc.2.2.2.2.1 + 1 ≤ F.2.2.2.2.1) (hlo : 8 + (Fc.2.2.1 + 11) + Fc.2.2.2.2.2 ≤ F.2.2.2.2.2) (hst : (st.map fun v => v.category).sum ≤ 8) (e : pc + 3 = t) (kk : Wp E F 62 t L (.int v :: st) (gM I h) K) : Wp E F 62 pc L S (gM I h) K :=
  g_callVS hm hw1 hw2 hw3 hi hr hcl he hn hS (Nat.le_refl _) hfr hlo hst d e fun r σ' q _ => by obtain ⟨rfl, rfl⟩ := q; exact kk
theorem g_cSi {Fc : gF} {n index t : Nat} {as S : List Value} {P : Int32 → (Nat → Nat → Int32) → Prop} (hm : gMi Fc n) (hw1 : Cond.methodLink F.1.cls index Fc.1 ∈ gB) (hw2 : Cond.static Fc.1 ∈ gB) (d : decode F.2.1 pc = .ok (.invokestatic index, 3)) (he : gQI E Fc as I h P) (hn : as.length = n) (hS : S = as.reverse ++ st) (hfr : Fc.2.2.2.2.1 + 1 ≤ F.2.2.2.2.1) (hlo : 8 + (Fc.2.2.1 + 11) + Fc.2.2.2.2.2 ≤ F.2.2.2.2.2) (hst : (st.map fun v => v.category).sum ≤ 8) (e : pc + 3 = t) (kk : ∀ (v : Int32) (I' : Nat → Nat → Int32), P v I' → Wp E F 62 t L (.int v :: st) (gM I' h) K) : Wp E F 62 pc L S (gM I h) K :=
  g_callS hm hw1 hw2 he hn hS (Nat.le_refl _) hfr hlo hst d e fun r σ' q _ => by obtain ⟨v, I', rfl, rfl, q⟩ := q; exact kk v I' q
theorem g_retP {v v0 : Int32} {ty : FieldType} (d : decode F.2.1 pc = .ok (.ireturn, 1)) (hr : F.2.2.2.1 = some ty) (hn : narrow ty (.int v) = .int v) (hq : v = v0) : Wp E F 62 pc L [.int v] (gM I h) (gRet F 62 (fun r σ' => r = some (.int v0) ∧ σ' = gM I h)) :=
  Wp.here ⟨rfl, Or.inl ⟨d, v, ty, rfl, hr, hn, by rw [hq], rfl⟩⟩
theorem g_retI {v : Int32} {ty : FieldType} {h0 : Int64} {P : Int32 → (Nat → Nat → Int32) → Prop} (d : decode F.2.1 pc = .ok (.ireturn, 1)) (hr : F.2.2.2.1 = some ty) (hn : narrow ty (.int v) = .int v) (hq : P v I) : Wp E F 62 pc L [.int v] (gM I h0) (gRet F 62 (fun r σ' => ∃ (v : Int32) (I' : Nat → Nat → Int32), r = some (.int v) ∧ σ' = gM I' h0 ∧ P v I')) :=
  Wp.here ⟨rfl, Or.inl ⟨d, v, ty, rfl, hr, hn, v, I, rfl, rfl, hq⟩⟩
theorem g_retV {P : (Nat → Nat → Int32) → Prop} (d : decode F.2.1 pc = .ok (.return_, 1)) (hr : F.2.2.2.1 = none) (hq : P I) : Wp E F 62 pc L [] (gM I h) (gRet F 62 (fun r σ' => ∃ I' : Nat → Nat → Int32, r = none ∧ σ' = gM I' h ∧ P I')) :=
  Wp.here ⟨rfl, Or.inr (Or.inl ⟨d, rfl, hr, I, rfl, rfl, hq⟩)⟩
/-- the top of the stack, otherwise said -/
theorem g_top {nE : Nat} {σ : gS} {x y : Int32} (hxy : x = y) (k : Wp E F nE pc L (.int y :: st) σ K) : Wp E F nE pc L (.int x :: st) σ K := hxy ▸ k
theorem g_if {nE : Nat} {σ : gS} {c : Prop} [Decidable c] {x y : Int32} (k : Wp E F nE pc L (.int (if c then x else y) :: st) σ K) (hc : c) : Wp E F nE pc L (.int x :: st) σ K := by rw [if_pos hc] at k; exact k
/-- two numbers compared -/
theorem g_icmp_ge_n {t1 t2 a b nE : Nat} {σ : gS} {off : Int} (d : decode F.2.1 pc = .ok (.if_icmp .ge off, 3)) (ht : (pc : Int) + off = (t1 : Int)) (e : pc + 3 = t2) (ha : a < 2 ^ 31) (hb : b < 2 ^ 31) (kt : b ≤ a → Wp E F nE t1 L st σ K) (kf : a < b → Wp E F nE t2 L st σ K) : Wp E F nE pc L (.int (nI b) :: .int (nI a) :: st) σ K :=
  g_icmp_ge d ht e (fun q => kt ((nI_leI hb ha).mp q)) (fun q => kf (Nat.lt_of_not_le fun z => q ((nI_leI hb ha).mpr z)))
theorem g_icmp_gt_n {t1 t2 a b nE : Nat} {σ : gS} {off : Int} (d : decode F.2.1 pc = .ok (.if_icmp .gt off, 3)) (ht : (pc : Int) + off = (t1 : Int)) (e : pc + 3 = t2) (ha : a < 2 ^ 31) (hb : b < 2 ^ 31) (kt : b < a → Wp E F nE t1 L st σ K) (kf : a ≤ b → Wp E F nE t2 L st σ K) : Wp E F nE pc L (.int (nI b) :: .int (nI a) :: st) σ K :=
  g_icmp_gt d ht e (fun q => kt ((nI_ltI hb ha).mp q)) (fun q => kf (Nat.le_of_not_lt fun z => q ((nI_ltI hb ha).mpr z)))
theorem g_icmp_le_n {t1 t2 a b nE : Nat} {σ : gS} {off : Int} (d : decode F.2.1 pc = .ok (.if_icmp .le off, 3)) (ht : (pc : Int) + off = (t1 : Int)) (e : pc + 3 = t2) (ha : a < 2 ^ 31) (hb : b < 2 ^ 31) (kt : a ≤ b → Wp E F nE t1 L st σ K) (kf : b < a → Wp E F nE t2 L st σ K) : Wp E F nE pc L (.int (nI b) :: .int (nI a) :: st) σ K :=
  g_icmp_le d ht e (fun q => kt ((nI_leI ha hb).mp q)) (fun q => kf (Nat.lt_of_not_le fun z => q ((nI_leI ha hb).mpr z)))
theorem g_icmp_lt_n {t1 t2 a b nE : Nat} {σ : gS} {off : Int} (d : decode F.2.1 pc = .ok (.if_icmp .lt off, 3)) (ht : (pc : Int) + off = (t1 : Int)) (e : pc + 3 = t2) (ha : a < 2 ^ 31) (hb : b < 2 ^ 31) (kt : a < b → Wp E F nE t1 L st σ K) (kf : b ≤ a → Wp E F nE t2 L st σ K) : Wp E F nE pc L (.int (nI b) :: .int (nI a) :: st) σ K :=
  g_icmp_lt d ht e (fun q => kt ((nI_ltI ha hb).mp q)) (fun q => kf (Nat.le_of_not_lt fun z => q ((nI_ltI ha hb).mpr z)))
theorem g_icmp_eq_n {t1 t2 a b nE : Nat} {σ : gS} {off : Int} (d : decode F.2.1 pc = .ok (.if_icmp .eq off, 3)) (ht : (pc : Int) + off = (t1 : Int)) (e : pc + 3 = t2) (ha : a < 2 ^ 31) (hb : b < 2 ^ 31) (kt : a = b → Wp E F nE t1 L st σ K) (kf : a ≠ b → Wp E F nE t2 L st σ K) : Wp E F nE pc L (.int (nI b) :: .int (nI a) :: st) σ K :=
  g_icmp_eq d ht e (fun q => kt ((nI_eq ha hb).mp q)) (fun q => kf fun z => q ((nI_eq ha hb).mpr z))
theorem g_icmp_ne_n {t1 t2 a b nE : Nat} {σ : gS} {off : Int} (d : decode F.2.1 pc = .ok (.if_icmp .ne off, 3)) (ht : (pc : Int) + off = (t1 : Int)) (e : pc + 3 = t2) (ha : a < 2 ^ 31) (hb : b < 2 ^ 31) (kt : a ≠ b → Wp E F nE t1 L st σ K) (kf : a = b → Wp E F nE t2 L st σ K) : Wp E F nE pc L (.int (nI b) :: .int (nI a) :: st) σ K :=
  g_icmp_ne d ht e (fun q => kt fun z => q ((nI_eq ha hb).mpr z)) (fun q => kf ((nI_eq ha hb).mp q))
end GSTD
/-- cells that stay -/
def gSame (cs : List Nat) (I I' : Nat → Nat → Int32) : Prop := ∀ c, c ∉ cs → I' c = I c
theorem gSame.rf {cs : List Nat} {I : Nat → Nat → Int32} : gSame cs I I := fun _ _ => rfl
theorem gSame.trans {cs : List Nat} {I I1 I2 : Nat → Nat → Int32} (h1 : gSame cs I I1) (h2 : gSame cs I1 I2) : gSame cs I I2 := fun c hc => (h2 c hc).trans (h1 c hc)
theorem gSame.wk {cs cs2 : List Nat} {I I' : Nat → Nat → Int32} (h : gSame cs I I') (hs : cs.all (fun c => cs2.contains c) = true) : gSame cs2 I I' := fun c hc => h c fun q => hc (by have := List.all_eq_true.mp hs c q; simpa using this)
theorem gSame.up {cs : List Nat} {I I' : Nat → Nat → Int32} {o k : Nat} {v : Int32} (h : gSame cs I I') (ho : cs.contains o = true) : gSame cs I (gup I' o k v) := fun c hc => by
  have : c ≠ o := fun q => hc (by subst q; simpa using ho)
  rw [gup_rowo _ _ _ this]
  exact h c hc
theorem gSame.at {cs : List Nat} {I I' : Nat → Nat → Int32} (h : gSame cs I I') (c : Nat) (hc : cs.contains c = false) : I' c = I c := h c (by simpa using hc)

/-- the long field's place -/
def gfkLong : Nat := 26
section GMROWS
variable {E : gE} {F : gF} {pc : Nat} {L st : List Value} {I : Nat → Nat → Int32} {h : Int64} {K : gK}
theorem gm_getI {ci k o index t : Nat} (ho : o < 62) (h9 : o < 1000) (hsh : gsh o = .inl ci) (hf : gFL F.1.cls index ci k) (h0 : gfk ci k = 0) (d : decode F.2.1 pc = .ok (.getfield index, 3)) (e : pc + 3 = t) (kk : Wp E F 62 t L (.int (I o k) :: st) (gM I h) K) : Wp E F 62 pc L (.ref o :: st) (gM I h) K := g_getI ho h9 hsh hf h0 d e kk
theorem gm_getL {ci k o index t : Nat} (ho : o < 62) (h9 : o < 1000) (hsh : gsh o = .inl ci) (hf : gFL F.1.cls index ci k) (h0 : gfk ci k = 2) (d : decode F.2.1 pc = .ok (.getfield index, 3)) (e : pc + 3 = t) (kk : Wp E F 62 t L (.long h :: st) (gM I h) K) : Wp E F 62 pc L (.ref o :: st) (gM I h) K := g_getL ho h9 hsh hf h0 d e kk
theorem gm_getR {ci k o r index t : Nat} (ho : o < 62) (h9 : o < 1000) (hsh : gsh o = .inl ci) (hf : gFL F.1.cls index ci k) (h0 : gfk ci k = 1) (hr : gR0 o k = some r) (hr9 : r < 1000) (d : decode F.2.1 pc = .ok (.getfield index, 3)) (e : pc + 3 = t) (kk : Wp E F 62 t L (.ref r :: st) (gM I h) K) : Wp E F 62 pc L (.ref o :: st) (gM I h) K := g_getR ho h9 hsh hf h0 hr hr9 d e kk
theorem gm_putI {ci k o index t : Nat} {ty : FieldType} {v : Int32} (ho : o < 62) (h9 : o < 1000) (hsh : gsh o = .inl ci) (hf : gFP F.1.cls index ci k ty false) (h0 : gfk ci k = 0) (hn : narrow ty (.int v) = .int v) (hfit : fits ty (.int v) = true) (d : decode F.2.1 pc = .ok (.putfield index, 3)) (e : pc + 3 = t) (kk : Wp E F 62 t L st (gM (gup I o k v) h) K) : Wp E F 62 pc L (.int v :: .ref o :: st) (gM I h) K := g_putI ho h9 hsh hf h0 hn hfit d e kk
theorem gm_putL {ci k index t : Nat} {v : Int64} (hsh : gsh gLong = .inl ci) (hf : gFP F.1.cls index ci k .long false) (h0 : gfk ci k = 2) (hone : ∀ j, j ≠ k → gfk ci j ≠ 2) (d : decode F.2.1 pc = .ok (.putfield index, 3)) (e : pc + 3 = t) (kk : Wp E F 62 t L st (gM I v) K) : Wp E F 62 pc L (.long v :: .ref 41 :: st) (gM I h) K := g_putL l6_41 hsh hf h0 hone (g_fk3 _) d e kk
theorem gm_iald {a n t : Nat} {i : Int32} (ha : a < 62) (h9 : a < 1000) (hsh : gsh a = .inr (0, n)) (d : decode F.2.1 pc = .ok (.iaload, 1)) (hin : vp_in i n) (e : pc + 1 = t) (kk : Wp E F 62 t L (.int (I a i.toNatClampNeg) :: st) (gM I h) K) : Wp E F 62 pc L (.int i :: .ref a :: st) (gM I h) K := g_iald ha h9 hsh hin d e kk
theorem gm_iald_n {a n t i : Nat} (ha : a < 62) (h9 : a < 1000) (hsh : gsh a = .inr (0, n)) (d : decode F.2.1 pc = .ok (.iaload, 1)) (hin : i < n) (hn : n < 2 ^ 31) (e : pc + 1 = t) (kk : Wp E F 62 t L (.int (I a i) :: st) (gM I h) K) : Wp E F 62 pc L (.int (nI i) :: .ref a :: st) (gM I h) K := g_iald ha h9 hsh (vp_in_nI hin hn) d e (by rw [nI_clamp (Nat.lt_trans hin hn)]; exact kk)
theorem gm_bald {a n t : Nat} {i : Int32} (ha : a < 62) (h9 : a < 1000) (hsh : gsh a = .inr (1, n)) (d : decode F.2.1 pc = .ok (.baload, 1)) (hin : vp_in i n) (e : pc + 1 = t) (kk : Wp E F 62 t L (.int (I a i.toNatClampNeg) :: st) (gM I h) K) : Wp E F 62 pc L (.int i :: .ref a :: st) (gM I h) K := g_bald ha h9 hsh hin d e kk
theorem gm_bald_n {a n t i : Nat} (ha : a < 62) (h9 : a < 1000) (hsh : gsh a = .inr (1, n)) (d : decode F.2.1 pc = .ok (.baload, 1)) (hin : i < n) (hn : n < 2 ^ 31) (e : pc + 1 = t) (kk : Wp E F 62 t L (.int (I a i) :: st) (gM I h) K) : Wp E F 62 pc L (.int (nI i) :: .ref a :: st) (gM I h) K := g_bald ha h9 hsh (vp_in_nI hin hn) d e (by rw [nI_clamp (Nat.lt_trans hin hn)]; exact kk)
theorem gm_zald {a n t : Nat} {i : Int32} (ha : a < 62) (h9 : a < 1000) (hsh : gsh a = .inr (2, n)) (d : decode F.2.1 pc = .ok (.baload, 1)) (hin : vp_in i n) (e : pc + 1 = t) (kk : Wp E F 62 t L (.int (I a i.toNatClampNeg) :: st) (gM I h) K) : Wp E F 62 pc L (.int i :: .ref a :: st) (gM I h) K := g_zald ha h9 hsh hin d e kk
theorem gm_zald_n {a n t i : Nat} (ha : a < 62) (h9 : a < 1000) (hsh : gsh a = .inr (2, n)) (d : decode F.2.1 pc = .ok (.baload, 1)) (hin : i < n) (hn : n < 2 ^ 31) (e : pc + 1 = t) (kk : Wp E F 62 t L (.int (I a i) :: st) (gM I h) K) : Wp E F 62 pc L (.int (nI i) :: .ref a :: st) (gM I h) K := g_zald ha h9 hsh (vp_in_nI hin hn) d e (by rw [nI_clamp (Nat.lt_trans hin hn)]; exact kk)
theorem gm_iast {a n t : Nat} {i x : Int32} (ha : a < 62) (h9 : a < 1000) (hsh : gsh a = .inr (0, n)) (d : decode F.2.1 pc = .ok (.iastore, 1)) (hin : vp_in i n) (e : pc + 1 = t) (kk : Wp E F 62 t L st (gM (gup I a i.toNatClampNeg x) h) K) : Wp E F 62 pc L (.int x :: .int i :: .ref a :: st) (gM I h) K := g_iast ha h9 hsh hin d e kk
theorem gm_iast_n {a n t i : Nat} {x : Int32} (ha : a < 62) (h9 : a < 1000) (hsh : gsh a = .inr (0, n)) (d : decode F.2.1 pc = .ok (.iastore, 1)) (hin : i < n) (hn : n < 2 ^ 31) (e : pc + 1 = t) (kk : Wp E F 62 t L st (gM (gup I a i x) h) K) : Wp E F 62 pc L (.int x :: .int (nI i) :: .ref a :: st) (gM I h) K := g_iast ha h9 hsh (vp_in_nI hin hn) d e (by rw [nI_clamp (Nat.lt_trans hin hn)]; exact kk)
theorem gm_bast {a n t : Nat} {i x : Int32} (ha : a < 62) (h9 : a < 1000) (hsh : gsh a = .inr (1, n)) (hx : narrow .byte (.int x) = .int x) (d : decode F.2.1 pc = .ok (.bastore, 1)) (hin : vp_in i n) (e : pc + 1 = t) (kk : Wp E F 62 t L st (gM (gup I a i.toNatClampNeg x) h) K) : Wp E F 62 pc L (.int x :: .int i :: .ref a :: st) (gM I h) K := g_bast ha h9 hsh hin hx d e kk
theorem gm_bast_n {a n t i : Nat} {x : Int32} (ha : a < 62) (h9 : a < 1000) (hsh : gsh a = .inr (1, n)) (hx : narrow .byte (.int x) = .int x) (d : decode F.2.1 pc = .ok (.bastore, 1)) (hin : i < n) (hn : n < 2 ^ 31) (e : pc + 1 = t) (kk : Wp E F 62 t L st (gM (gup I a i x) h) K) : Wp E F 62 pc L (.int x :: .int (nI i) :: .ref a :: st) (gM I h) K := g_bast ha h9 hsh (vp_in_nI hin hn) hx d e (by rw [nI_clamp (Nat.lt_trans hin hn)]; exact kk)
theorem gm_zast {a n t : Nat} {i x : Int32} (ha : a < 62) (h9 : a < 1000) (hsh : gsh a = .inr (2, n)) (hx : narrow .boolean (.int x) = .int x) (d : decode F.2.1 pc = .ok (.bastore, 1)) (hin : vp_in i n) (e : pc + 1 = t) (kk : Wp E F 62 t L st (gM (gup I a i.toNatClampNeg x) h) K) : Wp E F 62 pc L (.int x :: .int i :: .ref a :: st) (gM I h) K := g_zast ha h9 hsh hin hx d e kk
theorem gm_zast_n {a n t i : Nat} {x : Int32} (ha : a < 62) (h9 : a < 1000) (hsh : gsh a = .inr (2, n)) (hx : narrow .boolean (.int x) = .int x) (d : decode F.2.1 pc = .ok (.bastore, 1)) (hin : i < n) (hn : n < 2 ^ 31) (e : pc + 1 = t) (kk : Wp E F 62 t L st (gM (gup I a i x) h) K) : Wp E F 62 pc L (.int x :: .int (nI i) :: .ref a :: st) (gM I h) K := g_zast ha h9 hsh (vp_in_nI hin hn) hx d e (by rw [nI_clamp (Nat.lt_trans hin hn)]; exact kk)
def gcpy (I : Nat → Nat → Int32) (b : Nat) (f : Nat → Int32) (sp dp n : Nat) : Nat → Nat → Int32 := fun o => if o = b then va_cpy f (I b) sp dp n else I o
theorem gm_copy {index a b n0 n1 t sp dp n : Nat} (hw1 : Cond.methodLink F.1.cls index arraycopyName ∈ gB) (ha : a < 62) (ha9 : a < 1000) (hsa : gsh a = .inr (0, n0)) (hb : b < 62) (h9 : b < 1000) (hsh : gsh b = .inr (0, n1)) (h4 : sp + n ≤ n0) (h5 : dp + n ≤ n1) (hn0 : n0 < 2 ^ 31) (hn1 : n1 < 2 ^ 31) (hfr : 1 ≤ F.2.2.2.2.1) (hlo : 26 ≤ F.2.2.2.2.2) (hst : (st.map fun v => v.category).sum ≤ 8) (d : decode F.2.1 pc = .ok (.invokestatic index, 3)) (e : pc + 3 = t)
    (kk : Wp E F 62 t L st (gM (gcpy I b (I a) sp dp n) h) K) : Wp E F 62 pc L (.int (nI n) :: .int (nI dp) :: .ref b :: .int (nI sp) :: .ref a :: st) (gM I h) K := by
  have k1 := nI_clamp (n := n) (by omega)
  have k2 := nI_clamp (n := dp) (by omega)
  have k3 := nI_clamp (n := sp) (by omega)
  exact g_copy hw1 k_ac1 k_ac2 k_ac3 ha ha9 hsa hb h9 hsh (nI_pos (by omega)) (nI_pos (by omega)) (nI_pos (by omega)) (by rw [k1, k3]; exact h4) (by rw [k1, k2]; exact h5) hfr hlo hst d e (by rw [k1, k2, k3]; exact kk)
theorem gm_copyT {index j r b n1 t sp dp n : Nat} {q : String × List Int32} (hw1 : Cond.methodLink F.1.cls index arraycopyName ∈ gB) (hj : gst[j]? = some q) (hr : r = 1001 + j) (hb : b < 62) (h9 : b < 1000) (hsh : gsh b = .inr (0, n1)) (h4 : sp + n ≤ q.2.length) (h5 : dp + n ≤ n1) (hn0 : q.2.length < 2 ^ 31) (hn1 : n1 < 2 ^ 31) (hfr : 1 ≤ F.2.2.2.2.1) (hlo : 26 ≤ F.2.2.2.2.2) (hst : (st.map fun v => v.category).sum ≤ 8) (d : decode F.2.1 pc = .ok (.invokestatic index, 3)) (e : pc + 3 = t)
    (kk : Wp E F 62 t L st (gM (gcpy I b (fun k => q.2.getD k 0) sp dp n) h) K) : Wp E F 62 pc L (.int (nI n) :: .int (nI dp) :: .ref b :: .int (nI sp) :: .ref r :: st) (gM I h) K := by
  have k1 := nI_clamp (n := n) (by omega)
  have k2 := nI_clamp (n := dp) (by omega)
  have k3 := nI_clamp (n := sp) (by omega)
  exact g_copyT hw1 k_ac1 k_ac2 k_ac3 hj hr hb h9 hsh (nI_pos (by omega)) (nI_pos (by omega)) (nI_pos (by omega)) (by rw [k1, k3]; exact h4) (by rw [k1, k2]; exact h5) hfr hlo hst d e (by rw [k1, k2, k3]; exact kk)
theorem gm_tld_n {t j r i : Nat} {q : String × List Int32} (hj : gst[j]? = some q) (hr : r = 1001 + j) (d : decode F.2.1 pc = .ok (.iaload, 1)) (hin : i < q.2.length) (hn : q.2.length < 2 ^ 31) (e : pc + 1 = t) (kk : Wp E F 62 t L (.int (q.2.getD i 0) :: st) (gM I h) K) : Wp E F 62 pc L (.int (nI i) :: .ref r :: st) (gM I h) K := g_tld hj hr (vp_in_nI hin hn) d e (by rw [nI_clamp (Nat.lt_trans hin hn)]; exact kk)
theorem gfk_one {j : Nat} (hj : j ≠ gfkLong) : gfk 7 j ≠ 2 := by
  by_cases q : j < 27
  · have key : ∀ j, j < 27 → j ≠ gfkLong → gfk 7 j ≠ 2 := by decide +kernel
    exact key j q hj
  · have : gfk 7 j = 0 := by
      show ((gfkL.getD 7 []).getD j 0) = 0
      rw [List.getD_eq_getElem?_getD (i := j), List.getElem?_eq_none (by show 27 ≤ j; omega)]
      rfl
    rw [this]
    decide
theorem gi_1 (a : Nat) : nI a + Int32.ofInt 1 = nI (a + 1) := nI_1 a
theorem gi_m1 (a : Nat) : nI (a + 1) + Int32.ofInt (-1) = nI a := by
  rw [show Int32.ofInt (-1) = -1 by decide +kernel]
  exact pk_m1 a
theorem g_maxE (x y : Int32) : (if x < y then y else x) = (if y ≤ x then x else y) := by
  by_cases q : x < y
  · rw [if_pos q, if_neg (Int32.not_le.mpr q)]
  · rw [if_neg q, if_pos (Int32.not_lt.mp q)]
end GMROWS
end
section
/-! more standard rows, and plain facts -/
/-- contracts: nothing answered, the heap's ints then -/
abbrev gDV (E : gE) (F : gF) (as : List Value) (I : Nat → Nat → Int32) (h : Int64) (I1 : Nat → Nat → Int32) : Prop := gEv E F 62 as (gM I h) (fun r σ' => r = none ∧ σ' = gM I1 h)
section GSTD2
variable {E : gE} {F : gF} {pc : Nat} {L st : List Value} {I : Nat → Nat → Int32} {h : Int64} {K : gK}
theorem g_cVd {Fc : gF} {n index t o ci : Nat} {T : u_T} {N : Nat} {as S : List Value} {I1 : Nat → Nat → Int32} (hm : gMi Fc n) (hw1 : Cond.methodLink F.1.cls index Fc.1 ∈ gB) (hw2 : Cond.instanceMethod Fc.1 ∈ gB) (hw3 : Cond.selects Fc.1.cls Fc.1 Fc.1 ∈ gB) (ho : o < 62) (h9 : o < 1000) (hsh : gsh o = .inl ci) (hcl : vwCl[ci]? = some (Fc.1.cls, T, N)) (d : decode F.2.1 pc = .ok (.invokevirtual index, 3)) (he : gDV E Fc (.ref o :: as) I h I1) (hn : as.length = n) (hS : S = as.reverse ++ .ref o :: st) (hfr : Fc.2.2.2.2.1 + 1 ≤ F.2.2.2.2.1) (hlo : 8 + (Fc.2.2.1 + 11) + Fc.2.2.2.2.2 ≤ F.2.2.2.2.2) (hst : (st.map fun v => v.category).sum ≤ 8) (e : pc + 3 = t) (kk : Wp E F 62 t L st (gM I1 h) K) : Wp E F 62 pc L S (gM I h) K :=
  g_callV hm hw1 hw2 hw3 ho h9 hsh hcl he hn hS (Nat.le_refl _) hfr hlo hst d e fun r σ' q _ => by obtain ⟨rfl, rfl⟩ := q; exact kk
theorem g_retD {I1 : Nat → Nat → Int32} (d : decode F.2.1 pc = .ok (.return_, 1)) (hr : F.2.2.2.1 = none) (hq : I = I1) : Wp E F 62 pc L [] (gM I h) (gRet F 62 (fun r σ' => r = none ∧ σ' = gM I1 h)) :=
  Wp.here ⟨rfl, Or.inr (Or.inl ⟨d, rfl, hr, rfl, by rw [hq]⟩)⟩
end GSTD2
theorem gDV.post {E : gE} {F : gF} {as : List Value} {I : Nat → Nat → Int32} {h : Int64} {I1 : Nat → Nat → Int32} {P : (Nat → Nat → Int32) → Prop} (he : gDV E F as I h I1) (hp : P I1) : gQV E F as I h P := gEv.mono he fun r σ' q => ⟨I1, q.1, q.2, hp⟩
theorem g_div11 {a b : Nat} (hb : b < 11) : (11 * a + b) / 11 = a := by omega
theorem g_mod11 {a b : Nat} (hb : b < 11) : (11 * a + b) % 11 = b := by omega
theorem g_eq11 {a b c d : Nat} (hb : b < 11) (hd : d < 11) : 11 * a + b = 11 * c + d ↔ a = c ∧ b = d := by omega
theorem gup_at (I : Nat → Nat → Int32) (o k k' : Nat) (v : Int32) : gup I o k v o k' = if k' = k then v else I o k' := by
  by_cases q : k' = k
  · subst q; simp [gup]
  · simp [gup, q]
/-! ===== what is computed: plain functions of the items' properties P, the box B, the number of items ===== -/
abbrev dP : Type := Nat → Nat → Int32
def mx (a b : Int32) : Int32 := if a < b then b else a
def mn (a b : Int32) : Int32 := if b < a then b else a
theorem mx_m (a b : Int32) : (if b < a then a else b) = mx a b := by
  unfold mx
  by_cases q : a < b
  · rw [if_pos q, if_neg (fun z => by rw [Int32.lt_iff_toInt_lt] at q z; omega)]
  · rw [if_neg q]
    by_cases z : b < a
    · rw [if_pos z]
    · rw [if_neg z]
      exact Int32.le_antisymm (Int32.not_lt.mp q) (Int32.not_lt.mp z)
theorem mn_m (a b : Int32) : (if a < b then a else b) = mn a b := by
  unfold mn
  by_cases q : b < a
  · rw [if_pos q, if_neg (fun z => by rw [Int32.lt_iff_toInt_lt] at q z; omega)]
  · rw [if_neg q]
    by_cases z : a < b
    · rw [if_pos z]
    · rw [if_neg z]
      exact Int32.le_antisymm (Int32.not_lt.mp z) (Int32.not_lt.mp q)
theorem mx_toInt (a b : Int32) : (mx a b).toInt = max a.toInt b.toInt := by
  unfold mx
  split
  · rename_i q; rw [Int32.lt_iff_toInt_lt] at q; omega
  · rename_i q; rw [Int32.lt_iff_toInt_lt] at q; omega
theorem mn_toInt (a b : Int32) : (mn a b).toInt = min a.toInt b.toInt := by
  unfold mn
  split
  · rename_i q; rw [Int32.lt_iff_toInt_lt] at q; omega
  · rename_i q; rw [Int32.lt_iff_toInt_lt] at q; omega
def grt (P : dP) (i : Nat) : Int32 := mx (P i 3) (P i 4)
def wsh (P : dP) (i : Nat) : Int32 := mn (mx (P i 0) (P i 3)) (grt P i)
def out (P : dP) (i : Nat) : Int32 := wsh P i + nI 2 * P i 5
def abv (P : dP) (i : Nat) : Int32 := P i 7 - P i 8
def way (P : dP) (B : Nat → Int32) (i : Nat) : Int32 := if P i 9 = nI 4 then B 5 else P i 9
/-- where the item that comes to i was, when one is carried from a to b -/
def mvI (a b i : Nat) : Nat := if a ≤ b then (if i < a then i else if i < b then i + 1 else if i = b then a else i) else (if i < b then i else if i = b then a else if i ≤ a then i - 1 else i)
theorem gEv.ofJ {E : gE} {F : gF} {nE : Nat} {as : List Value} {σ : gS} {Q : Option Value → gS → Prop} (hy : plainFor F.1 = true) (hle : σ.1 ≤ nE) (hlen : (gEnt as).length ≤ F.2.2.1) {L : List Value} (hL : gEnt as ++ List.replicate (F.2.2.1 - (gEnt as).length) .null = L) (h : Wp E F nE 0 L [] σ (gRet F nE Q)) : gEv E F nE as σ Q := by
  refine ⟨hle, fun l => ?_⟩
  refine va_MetF (cc := F.2.1) (maxL := F.2.2.1) (ret := F.2.2.2.1) hy rfl ?_
  intro p e s m args below meth c s₁ B hml hv
  obtain ⟨rfl, hI, hK, hRO, hb⟩ := hv
  have hts : ∀ w ∈ gB, w.before (gcs E as).toArray s = true := fun w hw => atoms_spec (ws := gWs F) B.pre w (List.mem_cons_of_mem _ hw)
  have hown : s.vm.findClass F.1.cls = some m.cls := findClass_of_methodNamed B.named
  have hnm : meth.name = F.1.name := (name_of_methodNamed B.named B.method).1
  have hlocks := B.notSynchronized
  have hl := lv_entry (gcs E as) (n := F.2.2.1) (by rw [gEnt_len]; exact hlen)
  rw [lg_entry_eq]
  generalize (lg_sl (gcs E as) ++ List.replicate (F.2.2.1 - (lg_sl (gcs E as)).length) Slot.unset).toArray = ls at hl ⊢
  have hLs : gLs E ls F.2.2.1 L := by
    refine ⟨hl.1, hl.2.1, fun i v hi hv => ?_⟩
    subst hL
    by_cases hlt : i < (gEnt as).length
    · rw [List.getElem?_append_left hlt] at hi
      have := gEnt_args E as 0 i v hi hv
      rw [Nat.zero_add] at this
      exact hl.2.2 _ this
    · rw [List.getElem?_append_right (by omega), List.getElem?_replicate] at hi
      split at hi
      · cases hi; exact absurd rfl hv
      · cases hi
  have hm := gsl_mono hle
  refine h p l e _ s m _ below meth c _ ⟨B.exec, B.bytes, hml, hown, hts, hK, hRO, hb, Nat.le_refl _, Nat.le_refl _, hnm⟩ σ.1 (by show nE ≤ nE - σ.1 + σ.1; omega) (by show gsl nE ≤ gsl nE - gsl σ.1 + gsl σ.1; omega) ?_ s.heap [] 0 0 ls ⟨hI, va_S.rf, hLs, by omega, by omega, hle⟩
  intro pc' L' st' σ' H' locs' cells' slots' ls' hk g
  obtain ⟨hn, hk⟩ := hk
  have g4 := g.2.2.2.1
  have g5 := g.2.2.2.2.1
  rw [hn] at g4 g5
  refine W.widen (k := nE - σ.1) (n := gsl nE - gsl σ.1) (by omega) (by omega) ?_
  rcases hk with ⟨hd, v, ty, rfl, hr, hnar, hq⟩ | ⟨hd, rfl, hr, hq⟩ | ⟨hd, v, rfl, hr, hq⟩ | ⟨hd, r, nm, rfl, hr, hq⟩
  · exact W.zret (ty := ty) B.exec B.bytes (B.returns.trans hr) hnar (fun t ht hW => ⟨some (.int v), σ', hq, hn, rfl, by rw [ht]; exact g.1, g.2.1.F ht⟩) g.2.1.2.2 hd
  · exact W.vret B.exec B.bytes (B.returns.trans hr) (fun t ht hW => ⟨none, σ', hq, hn, rfl, by rw [ht]; exact g.1, g.2.1.F ht⟩) g.2.1.2.2 hd
  · exact W.lret B.exec B.bytes (B.returns.trans hr) (fun t ht hW => ⟨some (.long v), σ', hq, hn, rfl, by rw [ht]; exact g.1, g.2.1.F ht⟩) g.2.1.2.2 hd
  · refine W.aret (v := gcv E (.ref r)) B.exec B.bytes (B.returns.trans hr) (Or.inl ⟨nm, rfl⟩) ?_ (fun t ht hW => ⟨some (.ref r), σ', hq, hn, rfl, by rw [ht]; exact g.1, g.2.1.F ht⟩) g.2.1.2.2 hd
    show (if r < 1000 then Value.ref (E.1 + r) else va_rf (E.2.2.2.1 (r - 1000))) = .null ∨ ∃ a, (if r < 1000 then Value.ref (E.1 + r) else va_rf (E.2.2.2.1 (r - 1000))) = .ref a
    split
    · exact Or.inr ⟨_, rfl⟩
    · cases E.2.2.2.1 (r - 1000)
      · exact Or.inl rfl
      · exact Or.inr ⟨_, rfl⟩
end
section
/-! FlexRows$State -/
section X4
variable {E : gE} {I : Nat → Nat → Int32} {h : Int64}
theorem x4_has_t {n k : Nat} (hn : I 4 0 = nI n) (hk : k < n) (hb : n < 1000) : gPI E fX4_has [.ref 4, .int (nI k)] I h (nI 1) := by
  refine gEv.of rfl (Nat.le_refl _) (Nat.le_of_ble_eq_true rfl) (L := [.ref 4, .int (nI k)]) rfl ?_
  refine g_iload_n (i := 1) (t := 1) dX4_has_0 rfl rfl rfl ?_
  refine g_if_lt (t1 := 16) (t2 := 4) dX4_has_1 (by decide) rfl (fun h1 => ?_) (fun h1 => ?_)
  · exact absurd h1 (by first | decide | exact nI_pos (by omega) | exact nI_ne0 (by omega) (by omega))
  · refine g_iload_n (i := 1) (t := 5) dX4_has_4 rfl rfl rfl ?_
    refine g_aload_n (i := 0) (r := 4) (t := 6) dX4_has_5 rfl rfl (Or.inl l9_4) rfl ?_
    refine gm_getI (o := 4) (ci := 4) (k := 0) (t := 9) l6_4 l9_4 s_4 gf_X4_27 rfl dX4_has_6 rfl ?_
    rw [hn]
    refine g_icmp_ge_n (t1 := 16) (t2 := 12) dX4_has_9 (by decide) rfl (by omega) (by omega) (fun h9 => ?_) (fun h9 => ?_)
    · exfalso; omega
    · refine g_iconst (t := 13) dX4_has_12 c_iconst_1 rfl ?_
      refine g_goto (t := 17) dX4_has_13 (by decide) ?_
      exact g_retP dX4_has_17 rfl (by decide +kernel) (rfl)
theorem x4_has_f {n : Nat} {x : Int32} (hn : I 4 0 = nI n) (hk : x < 0 ∨ nI n ≤ x) : gPI E fX4_has [.ref 4, .int x] I h (nI 0) := by
  refine gEv.of rfl (Nat.le_refl _) (Nat.le_of_ble_eq_true rfl) (L := [.ref 4, .int x]) rfl ?_
  refine g_iload_n (i := 1) (t := 1) dX4_has_0 rfl rfl rfl ?_
  refine g_if_lt (t1 := 16) (t2 := 4) dX4_has_1 (by decide) rfl (fun h1 => ?_) (fun h1 => ?_)
  · refine g_iconst (t := 17) dX4_has_16 c_iconst_0 rfl ?_
    exact g_retP dX4_has_17 rfl (by decide +kernel) (rfl)
  · refine g_iload_n (i := 1) (t := 5) dX4_has_4 rfl rfl rfl ?_
    refine g_aload_n (i := 0) (r := 4) (t := 6) dX4_has_5 rfl rfl (Or.inl l9_4) rfl ?_
    refine gm_getI (o := 4) (ci := 4) (k := 0) (t := 9) l6_4 l9_4 s_4 gf_X4_27 rfl dX4_has_6 rfl ?_
    rw [hn]
    refine g_icmp_ge (t1 := 16) (t2 := 12) dX4_has_9 (by decide) rfl (fun h9 => ?_) (fun h9 => ?_)
    · refine g_iconst (t := 17) dX4_has_16 c_iconst_0 rfl ?_
      exact g_retP dX4_has_17 rfl (by decide +kernel) (rfl)
    · exact absurd (hk.resolve_left h1) h9
theorem x4_number {k : Nat} (hk : k < 7) : gPI E fX4_number [.ref 4, .int (nI k)] I h (I 5 k) := by
  refine gEv.of rfl (Nat.le_refl _) (Nat.le_of_ble_eq_true rfl) (L := [.ref 4, .int (nI k)]) rfl ?_
  refine g_iload_n (i := 1) (t := 1) dX4_number_0 rfl rfl rfl ?_
  refine g_if_lt (t1 := 19) (t2 := 4) dX4_number_1 (by decide) rfl (fun h1 => ?_) (fun h1 => ?_)
  · exact absurd h1 (by first | decide | exact nI_pos (by omega) | exact nI_ne0 (by omega) (by omega))
  · refine g_iload_n (i := 1) (t := 5) dX4_number_4 rfl rfl rfl ?_
    refine g_bipush (t := 7) dX4_number_5 c_bipush_7 rfl ?_
    refine g_icmp_ge_n (t1 := 19) (t2 := 10) dX4_number_7 (by decide) rfl (by omega) (by omega) (fun h7 => ?_) (fun h7 => ?_)
    · exfalso; omega
    · refine g_aload_n (i := 0) (r := 4) (t := 11) dX4_number_10 rfl rfl (Or.inl l9_4) rfl ?_
      refine gm_getR (o := 4) (ci := 4) (k := 1) (r := 5) (t := 14) l6_4 l9_4 s_4 gf_X4_9 rfl r_4_1 l9_5 dX4_number_11 rfl ?_
      refine g_iload_n (i := 1) (t := 15) dX4_number_14 rfl rfl rfl ?_
      refine gm_iald_n (a := 5) (n := 7) (t := 16) l6_5 l9_5 s_5 dX4_number_15 (by omega) (by decide) rfl ?_
      refine g_goto (t := 20) dX4_number_16 (by decide) ?_
      exact g_retP dX4_number_20 rfl rfl (rfl)
theorem x4_setNumber {k : Nat} {v : Int32} (hk : k < 7) : gDV E fX4_setNumber [.ref 4, .int (nI k), .int v] I h (gup I 5 k v) := by
  refine gEv.of rfl (Nat.le_refl _) (Nat.le_of_ble_eq_true rfl) (L := [.ref 4, .int (nI k), .int v]) rfl ?_
  refine g_iload_n (i := 1) (t := 1) dX4_setNumber_0 rfl rfl rfl ?_
  refine g_if_lt (t1 := 17) (t2 := 4) dX4_setNumber_1 (by decide) rfl (fun h1 => ?_) (fun h1 => ?_)
  · exact absurd h1 (by first | decide | exact nI_pos (by omega) | exact nI_ne0 (by omega) (by omega))
  · refine g_iload_n (i := 1) (t := 5) dX4_setNumber_4 rfl rfl rfl ?_
    refine g_bipush (t := 7) dX4_setNumber_5 c_bipush_7 rfl ?_
    refine g_icmp_ge_n (t1 := 17) (t2 := 10) dX4_setNumber_7 (by decide) rfl (by omega) (by omega) (fun h7 => ?_) (fun h7 => ?_)
    · exfalso; omega
    · refine g_aload_n (i := 0) (r := 4) (t := 11) dX4_setNumber_10 rfl rfl (Or.inl l9_4) rfl ?_
      refine gm_getR (o := 4) (ci := 4) (k := 1) (r := 5) (t := 14) l6_4 l9_4 s_4 gf_X4_9 rfl r_4_1 l9_5 dX4_setNumber_11 rfl ?_
      refine g_iload_n (i := 1) (t := 15) dX4_setNumber_14 rfl rfl rfl ?_
      refine g_iload_n (i := 2) (t := 16) dX4_setNumber_15 rfl rfl rfl ?_
      refine gm_iast_n (a := 5) (n := 7) (t := 17) l6_5 l9_5 s_5 dX4_setNumber_16 (by omega) (by decide) rfl ?_
      exact g_retD dX4_setNumber_17 rfl (rfl)
theorem x4_property {a b : Nat} (ha : a < 16) (hb : b < 11) : gPI E fX4_property [.ref 4, .int (nI a), .int (nI b)] I h (I 6 (11 * a + b)) := by
  refine gEv.of rfl (Nat.le_refl _) (Nat.le_of_ble_eq_true rfl) (L := [.ref 4, .int (nI a), .int (nI b), .null]) rfl ?_
  refine g_iload_n (i := 1) (t := 1) dX4_property_0 rfl rfl rfl ?_
  refine g_if_lt (t1 := 24) (t2 := 4) dX4_property_1 (by decide) rfl (fun h1 => ?_) (fun h1 => ?_)
  · exact absurd h1 (by first | decide | exact nI_pos (by omega) | exact nI_ne0 (by omega) (by omega))
  · refine g_iload_n (i := 1) (t := 5) dX4_property_4 rfl rfl rfl ?_
    refine g_bipush (t := 7) dX4_property_5 c_bipush_16 rfl ?_
    refine g_icmp_ge_n (t1 := 24) (t2 := 10) dX4_property_7 (by decide) rfl (by omega) (by omega) (fun h7 => ?_) (fun h7 => ?_)
    · exfalso; omega
    · refine g_iload_n (i := 2) (t := 11) dX4_property_10 rfl rfl rfl ?_
      refine g_if_lt (t1 := 24) (t2 := 14) dX4_property_11 (by decide) rfl (fun h11 => ?_) (fun h11 => ?_)
      · exact absurd h11 (by first | decide | exact nI_pos (by omega) | exact nI_ne0 (by omega) (by omega))
      · refine g_iload_n (i := 2) (t := 15) dX4_property_14 rfl rfl rfl ?_
        refine g_bipush (t := 17) dX4_property_15 c_bipush_11 rfl ?_
        refine g_icmp_ge_n (t1 := 24) (t2 := 20) dX4_property_17 (by decide) rfl (by omega) (by omega) (fun h17 => ?_) (fun h17 => ?_)
        · exfalso; omega
        · refine g_iconst (t := 21) dX4_property_20 c_iconst_1 rfl ?_
          refine g_goto (t := 25) dX4_property_21 (by decide) ?_
          refine g_istore_n (i := 3) (t := 26) (L1 := [_, _, _, _]) dX4_property_25 rfl (by decide) rfl rfl rfl ?_
          refine g_iload_n (i := 3) (t := 27) dX4_property_26 rfl rfl rfl ?_
          refine g_if_eq (t1 := 44) (t2 := 30) dX4_property_27 (by decide) rfl (fun h27 => ?_) (fun h27 => ?_)
          · exact absurd h27 (by first | decide | exact nI_pos (by omega) | exact nI_ne0 (by omega) (by omega))
          · refine g_aload_n (i := 0) (r := 4) (t := 31) dX4_property_30 rfl rfl (Or.inl l9_4) rfl ?_
            refine gm_getR (o := 4) (ci := 4) (k := 2) (r := 6) (t := 34) l6_4 l9_4 s_4 gf_X4_15 rfl r_4_2 l9_6 dX4_property_31 rfl ?_
            refine g_iload_n (i := 1) (t := 35) dX4_property_34 rfl rfl rfl ?_
            refine g_bipush (t := 37) dX4_property_35 c_bipush_11 rfl ?_
            refine g_imul (t := 38) dX4_property_37 rfl ?_
            refine g_iload_n (i := 2) (t := 39) dX4_property_38 rfl rfl rfl ?_
            refine g_iadd (t := 40) dX4_property_39 rfl ?_
            refine g_top (y := nI (11 * a + b)) (by rw [pk_mul, nI_add, Nat.mul_comm]) ?_
            refine gm_iald_n (a := 6) (n := 176) (t := 41) l6_6 l9_6 s_6 dX4_property_40 (by omega) (by decide) rfl ?_
            refine g_goto (t := 45) dX4_property_41 (by decide) ?_
            exact g_retP dX4_property_45 rfl rfl (rfl)
theorem x4_put {a b : Nat} {v : Int32} (ha : a < 16) (hb : b < 11) : gDV E fX4_put [.ref 4, .int (nI a), .int (nI b), .int v] I h (gup I 6 (11 * a + b) v) := by
  refine gEv.of rfl (Nat.le_refl _) (Nat.le_of_ble_eq_true rfl) (L := [.ref 4, .int (nI a), .int (nI b), .int v]) rfl ?_
  refine g_iload_n (i := 1) (t := 1) dX4_put_0 rfl rfl rfl ?_
  refine g_if_lt (t1 := 32) (t2 := 4) dX4_put_1 (by decide) rfl (fun h1 => ?_) (fun h1 => ?_)
  · exact absurd h1 (by first | decide | exact nI_pos (by omega) | exact nI_ne0 (by omega) (by omega))
  · refine g_iload_n (i := 1) (t := 5) dX4_put_4 rfl rfl rfl ?_
    refine g_bipush (t := 7) dX4_put_5 c_bipush_16 rfl ?_
    refine g_icmp_ge_n (t1 := 32) (t2 := 10) dX4_put_7 (by decide) rfl (by omega) (by omega) (fun h7 => ?_) (fun h7 => ?_)
    · exfalso; omega
    · refine g_iload_n (i := 2) (t := 11) dX4_put_10 rfl rfl rfl ?_
      refine g_if_lt (t1 := 32) (t2 := 14) dX4_put_11 (by decide) rfl (fun h11 => ?_) (fun h11 => ?_)
      · exact absurd h11 (by first | decide | exact nI_pos (by omega) | exact nI_ne0 (by omega) (by omega))
      · refine g_iload_n (i := 2) (t := 15) dX4_put_14 rfl rfl rfl ?_
        refine g_bipush (t := 17) dX4_put_15 c_bipush_11 rfl ?_
        refine g_icmp_ge_n (t1 := 32) (t2 := 20) dX4_put_17 (by decide) rfl (by omega) (by omega) (fun h17 => ?_) (fun h17 => ?_)
        · exfalso; omega
        · refine g_aload_n (i := 0) (r := 4) (t := 21) dX4_put_20 rfl rfl (Or.inl l9_4) rfl ?_
          refine gm_getR (o := 4) (ci := 4) (k := 2) (r := 6) (t := 24) l6_4 l9_4 s_4 gf_X4_15 rfl r_4_2 l9_6 dX4_put_21 rfl ?_
          refine g_iload_n (i := 1) (t := 25) dX4_put_24 rfl rfl rfl ?_
          refine g_bipush (t := 27) dX4_put_25 c_bipush_11 rfl ?_
          refine g_imul (t := 28) dX4_put_27 rfl ?_
          refine g_iload_n (i := 2) (t := 29) dX4_put_28 rfl rfl rfl ?_
          refine g_iadd (t := 30) dX4_put_29 rfl ?_
          refine g_top (y := nI (11 * a + b)) (by rw [pk_mul, nI_add, Nat.mul_comm]) ?_
          refine g_iload_n (i := 3) (t := 31) dX4_put_30 rfl rfl rfl ?_
          refine gm_iast_n (a := 6) (n := 176) (t := 32) l6_6 l9_6 s_6 dX4_put_31 (by omega) (by decide) rfl ?_
          exact g_retD dX4_put_32 rfl (rfl)
theorem x4_greatest {a : Nat} (ha : a < 16) : gPI E fX4_greatest [.ref 4, .int (nI a)] I h (grt (fun i w => I 6 (11 * i + w)) a) := by
  refine gEv.of rfl (Nat.le_refl _) (Nat.le_of_ble_eq_true rfl) (L := [.ref 4, .int (nI a)]) rfl ?_
  refine g_aload_n (i := 0) (r := 4) (t := 1) dX4_greatest_0 rfl rfl (Or.inl l9_4) rfl ?_
  refine g_iload_n (i := 1) (t := 2) dX4_greatest_1 rfl rfl rfl ?_
  refine g_iconst (t := 3) dX4_greatest_2 c_iconst_3 rfl ?_
  refine g_cVp (o := 4) (t := 6) mX4_property k_X4_31 imX4_property seX4_property l6_4 l9_4 s_4 rfl dX4_greatest_3 (x4_property (by omega) (by omega)) rfl rfl (by decide) (by decide) (Nat.le_of_ble_eq_true rfl) rfl ?_
  refine g_aload_n (i := 0) (r := 4) (t := 7) dX4_greatest_6 rfl rfl (Or.inl l9_4) rfl ?_
  refine g_iload_n (i := 1) (t := 8) dX4_greatest_7 rfl rfl rfl ?_
  refine g_iconst (t := 9) dX4_greatest_8 c_iconst_4 rfl ?_
  refine g_cVp (o := 4) (t := 12) mX4_property k_X4_31 imX4_property seX4_property l6_4 l9_4 s_4 rfl dX4_greatest_9 (x4_property (by omega) (by omega)) rfl rfl (by decide) (by decide) (Nat.le_of_ble_eq_true rfl) rfl ?_
  refine g_max (t := 15) k_X4_35 k_max2 k_ma3 k_max4 (by decide) (by decide) (Nat.le_of_ble_eq_true rfl) dX4_greatest_12 rfl ?_
  exact g_retP dX4_greatest_15 rfl rfl (rfl)
theorem x4_wish {a : Nat} (ha : a < 16) : gPI E fX4_wish [.ref 4, .int (nI a)] I h (wsh (fun i w => I 6 (11 * i + w)) a) := by
  refine gEv.of rfl (Nat.le_refl _) (Nat.le_of_ble_eq_true rfl) (L := [.ref 4, .int (nI a)]) rfl ?_
  refine g_aload_n (i := 0) (r := 4) (t := 1) dX4_wish_0 rfl rfl (Or.inl l9_4) rfl ?_
  refine g_iload_n (i := 1) (t := 2) dX4_wish_1 rfl rfl rfl ?_
  refine g_iconst (t := 3) dX4_wish_2 c_iconst_0 rfl ?_
  refine g_cVp (o := 4) (t := 6) mX4_property k_X4_31 imX4_property seX4_property l6_4 l9_4 s_4 rfl dX4_wish_3 (x4_property (by omega) (by omega)) rfl rfl (by decide) (by decide) (Nat.le_of_ble_eq_true rfl) rfl ?_
  refine g_aload_n (i := 0) (r := 4) (t := 7) dX4_wish_6 rfl rfl (Or.inl l9_4) rfl ?_
  refine g_iload_n (i := 1) (t := 8) dX4_wish_7 rfl rfl rfl ?_
  refine g_iconst (t := 9) dX4_wish_8 c_iconst_3 rfl ?_
  refine g_cVp (o := 4) (t := 12) mX4_property k_X4_31 imX4_property seX4_property l6_4 l9_4 s_4 rfl dX4_wish_9 (x4_property (by omega) (by omega)) rfl rfl (by decide) (by decide) (Nat.le_of_ble_eq_true rfl) rfl ?_
  refine g_max (t := 15) k_X4_35 k_max2 k_ma3 k_max4 (by decide) (by decide) (Nat.le_of_ble_eq_true rfl) dX4_wish_12 rfl ?_
  refine g_aload_n (i := 0) (r := 4) (t := 16) dX4_wish_15 rfl rfl (Or.inl l9_4) rfl ?_
  refine g_iload_n (i := 1) (t := 17) dX4_wish_16 rfl rfl rfl ?_
  refine g_cVp (o := 4) (t := 20) mX4_greatest k_X4_40 imX4_greatest seX4_greatest l6_4 l9_4 s_4 rfl dX4_wish_17 (x4_greatest (by omega)) rfl rfl (by decide) (by decide) (Nat.le_of_ble_eq_true rfl) rfl ?_
  refine g_min (t := 23) k_X4_44 k_min2 k_ma3 k_min4 (by decide) (by decide) (Nat.le_of_ble_eq_true rfl) dX4_wish_20 rfl ?_
  exact g_retP dX4_wish_23 rfl rfl (rfl)
theorem x4_above {a : Nat} (ha : a < 16) : gPI E fX4_above [.ref 4, .int (nI a)] I h (abv (fun i w => I 6 (11 * i + w)) a) := by
  refine gEv.of rfl (Nat.le_refl _) (Nat.le_of_ble_eq_true rfl) (L := [.ref 4, .int (nI a)]) rfl ?_
  refine g_aload_n (i := 0) (r := 4) (t := 1) dX4_above_0 rfl rfl (Or.inl l9_4) rfl ?_
  refine g_iload_n (i := 1) (t := 2) dX4_above_1 rfl rfl rfl ?_
  refine g_bipush (t := 4) dX4_above_2 c_bipush_7 rfl ?_
  refine g_cVp (o := 4) (t := 7) mX4_property k_X4_31 imX4_property seX4_property l6_4 l9_4 s_4 rfl dX4_above_4 (x4_property (by omega) (by omega)) rfl rfl (by decide) (by decide) (Nat.le_of_ble_eq_true rfl) rfl ?_
  refine g_aload_n (i := 0) (r := 4) (t := 8) dX4_above_7 rfl rfl (Or.inl l9_4) rfl ?_
  refine g_iload_n (i := 1) (t := 9) dX4_above_8 rfl rfl rfl ?_
  refine g_bipush (t := 11) dX4_above_9 c_bipush_8 rfl ?_
  refine g_cVp (o := 4) (t := 14) mX4_property k_X4_31 imX4_property seX4_property l6_4 l9_4 s_4 rfl dX4_above_11 (x4_property (by omega) (by omega)) rfl rfl (by decide) (by decide) (Nat.le_of_ble_eq_true rfl) rfl ?_
  refine g_isub (t := 15) dX4_above_14 rfl ?_
  exact g_retP dX4_above_15 rfl rfl (rfl)
theorem x4_wayAcross {a : Nat} (ha : a < 16) : gPI E fX4_wayAcross [.ref 4, .int (nI a)] I h (way (fun i w => I 6 (11 * i + w)) (I 5) a) := by
  refine gEv.of rfl (Nat.le_refl _) (Nat.le_of_ble_eq_true rfl) (L := [.ref 4, .int (nI a), .null]) rfl ?_
  refine g_aload_n (i := 0) (r := 4) (t := 1) dX4_wayAcross_0 rfl rfl (Or.inl l9_4) rfl ?_
  refine g_iload_n (i := 1) (t := 2) dX4_wayAcross_1 rfl rfl rfl ?_
  refine g_bipush (t := 4) dX4_wayAcross_2 c_bipush_9 rfl ?_
  refine g_cVp (o := 4) (t := 7) mX4_property k_X4_31 imX4_property seX4_property l6_4 l9_4 s_4 rfl dX4_wayAcross_4 (x4_property (by omega) (by omega)) rfl rfl (by decide) (by decide) (Nat.le_of_ble_eq_true rfl) rfl ?_
  refine g_istore_n (i := 2) (t := 8) (L1 := [_, _, _]) dX4_wayAcross_7 rfl (by decide) rfl rfl rfl ?_
  refine g_iload_n (i := 2) (t := 9) dX4_wayAcross_8 rfl rfl rfl ?_
  refine g_iconst (t := 10) dX4_wayAcross_9 c_iconst_4 rfl ?_
  refine g_icmp_ne (t1 := 21) (t2 := 13) dX4_wayAcross_10 (by decide) rfl (fun h10 => ?_) (fun h10 => ?_)
  · refine g_iload_n (i := 2) (t := 22) dX4_wayAcross_21 rfl rfl rfl ?_
    exact g_retP dX4_wayAcross_22 rfl rfl (by simp only [way]; first | rw [if_pos h10] | rw [if_neg h10])
  · refine g_aload_n (i := 0) (r := 4) (t := 14) dX4_wayAcross_13 rfl rfl (Or.inl l9_4) rfl ?_
    refine g_iconst (t := 15) dX4_wayAcross_14 c_iconst_5 rfl ?_
    refine g_cVp (o := 4) (t := 18) mX4_number k_X4_47 imX4_number seX4_number l6_4 l9_4 s_4 rfl dX4_wayAcross_15 (x4_number (by omega)) rfl rfl (by decide) (by decide) (Nat.le_of_ble_eq_true rfl) rfl ?_
    refine g_goto (t := 22) dX4_wayAcross_18 (by decide) ?_
    exact g_retP dX4_wayAcross_22 rfl rfl (by simp only [way]; first | rw [if_pos h10] | rw [if_neg h10])
/-- two items change places: the first m properties -/
def swpI (a b m i w : Nat) : Nat := if w < m then (if i = a then b else if i = b then a else i) else i
theorem x4_swap_loop {a b : Nat} (ha : a < 16) (hb : b < 16) (hab : a ≠ b) {K : gK} {I0 : Nat → Nat → Int32} : ∀ (d k : Nat) (I : Nat → Nat → Int32) (v5 : Value), k + d = 11 → gSame [6] I0 I → (∀ i w, i < 16 → w < 11 → I 6 (11 * i + w) = I0 6 (11 * swpI a b k i w + w)) →
    (∀ I' v5, gSame [6] I0 I' → (∀ i w, i < 16 → w < 11 → I' 6 (11 * i + w) = I0 6 (11 * swpI a b 11 i w + w)) → Wp E fX4_swap 62 42 [.ref 4, .int (nI a), .int (nI b), .int (nI 11), v5] [] (gM I' h) K) →
    Wp E fX4_swap 62 2 [.ref 4, .int (nI a), .int (nI b), .int (nI k), v5] [] (gM I h) K := by
  intro d
  induction d with
  | zero =>
    intro k I v5 hk hs hv kk
    have hk : k = 11 := by omega
    subst hk
    refine g_iload_n (i := 3) (t := 3) dX4_swap_2 rfl rfl rfl ?_
    refine g_bipush (t := 5) dX4_swap_3 c_bipush_11 rfl ?_
    refine g_icmp_ge_n (t1 := 42) (t2 := 8) dX4_swap_5 (by decide) rfl (by omega) (by omega) (fun h5 => ?_) (fun h5 => ?_)
    · exact kk I v5 hs hv
    · exfalso; omega
  | succ d ih =>
    intro k I v5 hk hs hv kk
    refine g_iload_n (i := 3) (t := 3) dX4_swap_2 rfl rfl rfl ?_
    refine g_bipush (t := 5) dX4_swap_3 c_bipush_11 rfl ?_
    refine g_icmp_ge_n (t1 := 42) (t2 := 8) dX4_swap_5 (by decide) rfl (by omega) (by omega) (fun h5 => ?_) (fun h5 => ?_)
    · exfalso; omega
    · refine g_aload_n (i := 0) (r := 4) (t := 9) dX4_swap_8 rfl rfl (Or.inl l9_4) rfl ?_
      refine g_iload_n (i := 1) (t := 10) dX4_swap_9 rfl rfl rfl ?_
      refine g_iload_n (i := 3) (t := 11) dX4_swap_10 rfl rfl rfl ?_
      refine g_cVp (o := 4) (t := 14) mX4_property k_X4_31 imX4_property seX4_property l6_4 l9_4 s_4 rfl dX4_swap_11 (x4_property (by omega) (by omega)) rfl rfl (by decide) (by decide) (Nat.le_of_ble_eq_true rfl) rfl ?_
      refine g_istore (i := 4) (t := 16) (L1 := [_, _, _, _, _]) dX4_swap_14 (by decide) rfl rfl rfl ?_
      refine g_aload_n (i := 0) (r := 4) (t := 17) dX4_swap_16 rfl rfl (Or.inl l9_4) rfl ?_
      refine g_iload_n (i := 1) (t := 18) dX4_swap_17 rfl rfl rfl ?_
      refine g_iload_n (i := 3) (t := 19) dX4_swap_18 rfl rfl rfl ?_
      refine g_aload_n (i := 0) (r := 4) (t := 20) dX4_swap_19 rfl rfl (Or.inl l9_4) rfl ?_
      refine g_iload_n (i := 2) (t := 21) dX4_swap_20 rfl rfl rfl ?_
      refine g_iload_n (i := 3) (t := 22) dX4_swap_21 rfl rfl rfl ?_
      refine g_cVp (o := 4) (t := 25) mX4_property k_X4_31 imX4_property seX4_property l6_4 l9_4 s_4 rfl dX4_swap_22 (x4_property (by omega) (by omega)) rfl rfl (by decide) (by decide) (Nat.le_of_ble_eq_true rfl) rfl ?_
      refine g_cVd (o := 4) (t := 28) mX4_put k_X4_50 imX4_put seX4_put l6_4 l9_4 s_4 rfl dX4_swap_25 (x4_put (by omega) (by omega)) rfl rfl (by decide) (by decide) (Nat.le_of_ble_eq_true rfl) rfl ?_
      refine g_aload_n (i := 0) (r := 4) (t := 29) dX4_swap_28 rfl rfl (Or.inl l9_4) rfl ?_
      refine g_iload_n (i := 2) (t := 30) dX4_swap_29 rfl rfl rfl ?_
      refine g_iload_n (i := 3) (t := 31) dX4_swap_30 rfl rfl rfl ?_
      refine g_iload (i := 4) (t := 33) dX4_swap_31 rfl rfl ?_
      refine g_cVd (o := 4) (t := 36) mX4_put k_X4_50 imX4_put seX4_put l6_4 l9_4 s_4 rfl dX4_swap_33 (x4_put (by omega) (by omega)) rfl rfl (by decide) (by decide) (Nat.le_of_ble_eq_true rfl) rfl ?_
      refine g_iinc (i := 3) (t := 39) (L1 := [_, _, _, _, _]) dX4_swap_36 rfl (gi_1 _) (by decide) rfl rfl rfl ?_
      refine g_goto (t := 2) dX4_swap_39 (by decide) ?_
      refine ih (k + 1) _ _ (by omega) ((hs.up rfl).up rfl) (fun i w hi hw => ?_) kk
      rw [gup_at, gup_at]
      have e1 : (11 * i + w = 11 * b + k) ↔ (i = b ∧ w = k) := g_eq11 hw (by omega)
      have e2 : (11 * i + w = 11 * a + k) ↔ (i = a ∧ w = k) := g_eq11 hw (by omega)
      simp only [e1, e2]
      have va := hv a k ha (by omega)
      have vb := hv b k hb (by omega)
      have hsa : swpI a b k a k = a := by simp [swpI]
      have hsb : swpI a b k b k = b := by simp [swpI]
      rw [hsa] at va
      rw [hsb] at vb
      by_cases q1 : i = b ∧ w = k
      · obtain ⟨rfl, rfl⟩ := q1
        rw [if_pos ⟨rfl, rfl⟩, va]
        simp [swpI, Ne.symm hab]
      · rw [if_neg q1]
        by_cases q2 : i = a ∧ w = k
        · obtain ⟨rfl, rfl⟩ := q2
          rw [if_pos ⟨rfl, rfl⟩, vb]
          simp [swpI]
        · rw [if_neg q2, hv i w hi hw]
          have : swpI a b (k + 1) i w = swpI a b k i w := by
            unfold swpI
            by_cases z : w = k
            · subst z
              have n1 : i ≠ b := fun y => q1 ⟨y, rfl⟩
              have n2 : i ≠ a := fun y => q2 ⟨y, rfl⟩
              simp [n1, n2]
            · have : (w < k + 1) ↔ (w < k) := by omega
              simp only [this]
          rw [this]
theorem x4_swap {a b : Nat} (ha : a < 16) (hb : b < 16) (hab : a ≠ b) : gQV E fX4_swap [.ref 4, .int (nI a), .int (nI b)] I h (fun I' => gSame [6] I I' ∧ ∀ i w, i < 16 → w < 11 → I' 6 (11 * i + w) = I 6 (11 * (if i = a then b else if i = b then a else i) + w)) := by
  refine gEv.of rfl (Nat.le_refl _) (Nat.le_of_ble_eq_true rfl) (L := [.ref 4, .int (nI a), .int (nI b), .null, .null]) rfl ?_
  refine g_iconst (t := 1) dX4_swap_0 c_iconst_0 rfl ?_
  refine g_istore_n (i := 3) (t := 2) (L1 := [_, _, _, _, _]) dX4_swap_1 rfl (by decide) rfl rfl rfl ?_
  refine x4_swap_loop ha hb hab 11 0 I _ rfl gSame.rf (fun i w _ _ => by simp [swpI]) (fun I' v5 hs hv => ?_)
  exact g_retV dX4_swap_42 rfl ⟨hs, fun i w hi hw => by rw [hv i w hi hw]; simp only [swpI, hw, if_true]⟩
theorem mvI_up {a k i : Nat} (h : a ≤ k) : mvI a k (if i = k then k + 1 else if i = k + 1 then k else i) = mvI a (k + 1) i := by
  by_cases z1 : i = k
  · rw [if_pos z1]
    unfold mvI
    repeat' split
    all_goals omega
  · rw [if_neg z1]
    by_cases z2 : i = k + 1
    · rw [if_pos z2]
      unfold mvI
      repeat' split
      all_goals omega
    · rw [if_neg z2]
      unfold mvI
      repeat' split
      all_goals omega
theorem mvI_down {a k i : Nat} (h : k < a) : mvI a (k + 1) (if i = k + 1 then k else if i = k then k + 1 else i) = mvI a k i := by
  by_cases z1 : i = k + 1
  · rw [if_pos z1]
    unfold mvI
    repeat' split
    all_goals omega
  · rw [if_neg z1]
    by_cases z2 : i = k
    · rw [if_pos z2]
      unfold mvI
      repeat' split
      all_goals omega
    · rw [if_neg z2]
      unfold mvI
      repeat' split
      all_goals omega
theorem x4_carry_up {a b : Nat} (ha : a < 16) (hb : b < 16) {K : gK} {I0 : Nat → Nat → Int32} : ∀ (d k : Nat) (I : Nat → Nat → Int32), k + d = b → a ≤ k → gSame [6] I0 I → (∀ i w, i < 16 → w < 11 → I 6 (11 * i + w) = I0 6 (11 * mvI a k i + w)) →
    (∀ I', gSame [6] I0 I' → (∀ i w, i < 16 → w < 11 → I' 6 (11 * i + w) = I0 6 (11 * mvI a b i + w)) → Wp E fX4_carry 62 21 [.ref 4, .int (nI a), .int (nI b), .int (nI b)] [] (gM I' h) K) →
    Wp E fX4_carry 62 2 [.ref 4, .int (nI a), .int (nI b), .int (nI k)] [] (gM I h) K := by
  intro d
  induction d with
  | zero =>
    intro k I hk hak hs hv kk
    have hk : k = b := by omega
    subst hk
    refine g_iload_n (i := 3) (t := 3) dX4_carry_2 rfl rfl rfl ?_
    refine g_iload_n (i := 2) (t := 4) dX4_carry_3 rfl rfl rfl ?_
    refine g_icmp_ge_n (t1 := 21) (t2 := 7) dX4_carry_4 (by decide) rfl (by omega) (by omega) (fun h4 => ?_) (fun h4 => ?_)
    · exact kk I hs hv
    · exfalso; omega
  | succ d ih =>
    intro k I hk hak hs hv kk
    refine g_iload_n (i := 3) (t := 3) dX4_carry_2 rfl rfl rfl ?_
    refine g_iload_n (i := 2) (t := 4) dX4_carry_3 rfl rfl rfl ?_
    refine g_icmp_ge_n (t1 := 21) (t2 := 7) dX4_carry_4 (by decide) rfl (by omega) (by omega) (fun h4 => ?_) (fun h4 => ?_)
    · exfalso; omega
    · refine g_aload_n (i := 0) (r := 4) (t := 8) dX4_carry_7 rfl rfl (Or.inl l9_4) rfl ?_
      refine g_iload_n (i := 3) (t := 9) dX4_carry_8 rfl rfl rfl ?_
      refine g_iload_n (i := 3) (t := 10) dX4_carry_9 rfl rfl rfl ?_
      refine g_iconst (t := 11) dX4_carry_10 c_iconst_1 rfl ?_
      refine g_iadd (t := 12) dX4_carry_11 rfl ?_
      refine g_top (y := nI (k + 1)) (nI_add _ _) ?_
      refine g_cVv (o := 4) (t := 15) mX4_swap k_X4_54 imX4_swap seX4_swap l6_4 l9_4 s_4 rfl dX4_carry_12 (x4_swap (by omega) (by omega) (by omega)) rfl rfl (by decide) (by decide) (Nat.le_of_ble_eq_true rfl) rfl (fun I12 q12 => ?_)
      refine g_iinc (i := 3) (t := 18) (L1 := [_, _, _, _]) dX4_carry_15 rfl (gi_1 _) (by decide) rfl rfl rfl ?_
      obtain ⟨q1, q2⟩ := q12
      refine g_goto (t := 2) dX4_carry_18 (by decide) ?_
      refine ih (k + 1) _ (by omega) (by omega) (hs.trans q1) (fun i w hi hw => ?_) kk
      rw [q2 i w hi hw, hv _ w (by split <;> first | omega | (split <;> omega)) hw]
      rw [mvI_up hak]
theorem x4_carry_down {a b : Nat} (ha : a < 16) (hb : b < 16) {K : gK} {I0 : Nat → Nat → Int32} : ∀ (d k : Nat) (I : Nat → Nat → Int32), k = b + d → k ≤ a → gSame [6] I0 I → (∀ i w, i < 16 → w < 11 → I 6 (11 * i + w) = I0 6 (11 * mvI a k i + w)) →
    (∀ I', gSame [6] I0 I' → (∀ i w, i < 16 → w < 11 → I' 6 (11 * i + w) = I0 6 (11 * mvI a b i + w)) → Wp E fX4_carry 62 42 [.ref 4, .int (nI a), .int (nI b), .int (nI b)] [] (gM I' h) K) →
    Wp E fX4_carry 62 23 [.ref 4, .int (nI a), .int (nI b), .int (nI k)] [] (gM I h) K := by
  intro d
  induction d with
  | zero =>
    intro k I hk hak hs hv kk
    have hk : k = b := by omega
    subst hk
    refine g_iload_n (i := 3) (t := 24) dX4_carry_23 rfl rfl rfl ?_
    refine g_iload_n (i := 2) (t := 25) dX4_carry_24 rfl rfl rfl ?_
    refine g_icmp_le_n (t1 := 42) (t2 := 28) dX4_carry_25 (by decide) rfl (by omega) (by omega) (fun h25 => ?_) (fun h25 => ?_)
    · exact kk I hs hv
    · exfalso; omega
  | succ d ih =>
    intro k I hk hak hs hv kk
    obtain ⟨k, rfl⟩ : ∃ z, k = z + 1 := ⟨k - 1, by omega⟩
    refine g_iload_n (i := 3) (t := 24) dX4_carry_23 rfl rfl rfl ?_
    refine g_iload_n (i := 2) (t := 25) dX4_carry_24 rfl rfl rfl ?_
    refine g_icmp_le_n (t1 := 42) (t2 := 28) dX4_carry_25 (by decide) rfl (by omega) (by omega) (fun h25 => ?_) (fun h25 => ?_)
    · exfalso; omega
    · refine g_aload_n (i := 0) (r := 4) (t := 29) dX4_carry_28 rfl rfl (Or.inl l9_4) rfl ?_
      refine g_iload_n (i := 3) (t := 30) dX4_carry_29 rfl rfl rfl ?_
      refine g_iload_n (i := 3) (t := 31) dX4_carry_30 rfl rfl rfl ?_
      refine g_iconst (t := 32) dX4_carry_31 c_iconst_1 rfl ?_
      refine g_isub (t := 33) dX4_carry_32 rfl ?_
      refine g_top (y := nI k) (by rw [pk_sub (by omega)]; rfl) ?_
      refine g_cVv (o := 4) (t := 36) mX4_swap k_X4_54 imX4_swap seX4_swap l6_4 l9_4 s_4 rfl dX4_carry_33 (x4_swap (by omega) (by omega) (by omega)) rfl rfl (by decide) (by decide) (Nat.le_of_ble_eq_true rfl) rfl (fun I33 q33 => ?_)
      refine g_iinc (i := 3) (t := 39) (L1 := [_, _, _, _]) dX4_carry_36 rfl (gi_m1 _) (by decide) rfl rfl rfl ?_
      obtain ⟨q1, q2⟩ := q33
      refine g_goto (t := 23) dX4_carry_39 (by decide) ?_
      refine ih k _ (by omega) (by omega) (hs.trans q1) (fun i w hi hw => ?_) kk
      rw [q2 i w hi hw, hv _ w (by split <;> first | omega | (split <;> omega)) hw]
      rw [mvI_down (by omega)]
theorem mvI_self (a i : Nat) : mvI a a i = i := by
  unfold mvI
  rw [if_pos (Nat.le_refl _)]
  repeat' split
  all_goals omega
theorem x4_carry {a b : Nat} (ha : a < 16) (hb : b < 16) : gQV E fX4_carry [.ref 4, .int (nI a), .int (nI b)] I h (fun I' => gSame [6] I I' ∧ ∀ i w, i < 16 → w < 11 → I' 6 (11 * i + w) = I 6 (11 * mvI a b i + w)) := by
  refine gEv.of rfl (Nat.le_refl _) (Nat.le_of_ble_eq_true rfl) (L := [.ref 4, .int (nI a), .int (nI b), .null]) rfl ?_
  rcases Nat.lt_or_ge a b with hab | hab
  · refine g_iload_n (i := 1) (t := 1) dX4_carry_0 rfl rfl rfl ?_
    refine g_istore_n (i := 3) (t := 2) (L1 := [_, _, _, _]) dX4_carry_1 rfl (by decide) rfl rfl rfl ?_
    refine x4_carry_up ha hb (b - a) a I (by omega) (Nat.le_refl _) gSame.rf (fun i w _ _ => by rw [mvI_self]) (fun I' hs hv => ?_)
    refine g_iload_n (i := 1) (t := 22) dX4_carry_21 rfl rfl rfl ?_
    refine g_istore_n (i := 3) (t := 23) (L1 := [_, _, _, _]) dX4_carry_22 rfl (by decide) rfl rfl rfl ?_
    refine g_iload_n (i := 3) (t := 24) dX4_carry_23 rfl rfl rfl ?_
    refine g_iload_n (i := 2) (t := 25) dX4_carry_24 rfl rfl rfl ?_
    refine g_icmp_le_n (t1 := 42) (t2 := 28) dX4_carry_25 (by decide) rfl (by omega) (by omega) (fun h25 => ?_) (fun h25 => ?_)
    · exact g_retV dX4_carry_42 rfl ⟨hs, hv⟩
    · exfalso; omega
  · refine g_iload_n (i := 1) (t := 1) dX4_carry_0 rfl rfl rfl ?_
    refine g_istore_n (i := 3) (t := 2) (L1 := [_, _, _, _]) dX4_carry_1 rfl (by decide) rfl rfl rfl ?_
    refine g_iload_n (i := 3) (t := 3) dX4_carry_2 rfl rfl rfl ?_
    refine g_iload_n (i := 2) (t := 4) dX4_carry_3 rfl rfl rfl ?_
    refine g_icmp_ge_n (t1 := 21) (t2 := 7) dX4_carry_4 (by decide) rfl (by omega) (by omega) (fun h4 => ?_) (fun h4 => ?_)
    · refine g_iload_n (i := 1) (t := 22) dX4_carry_21 rfl rfl rfl ?_
      refine g_istore_n (i := 3) (t := 23) (L1 := [_, _, _, _]) dX4_carry_22 rfl (by decide) rfl rfl rfl ?_
      refine x4_carry_down ha hb (a - b) a I (by omega) (Nat.le_refl _) gSame.rf (fun i w _ _ => by rw [mvI_self]) (fun I' hs hv => ?_)
      exact g_retV dX4_carry_42 rfl ⟨hs, hv⟩
    · exfalso; omega
theorem x4_append_loop {n : Nat} (hn : n < 16) {K : gK} {I0 : Nat → Nat → Int32} (h4 : I0 4 0 = nI n) : ∀ (d k : Nat) (I : Nat → Nat → Int32), k + d = 10 → gSame [6] I0 I → (∀ i w, i < 16 → w < 11 → I 6 (11 * i + w) = if i = n ∧ w < k then I0 3 w else I0 6 (11 * i + w)) →
    (∀ I', gSame [6] I0 I' → (∀ i w, i < 16 → w < 11 → I' 6 (11 * i + w) = if i = n ∧ w < 10 then I0 3 w else I0 6 (11 * i + w)) → Wp E fX4_append 62 32 [.ref 4, .ref 3, .int (nI 10)] [] (gM I' h) K) →
    Wp E fX4_append 62 2 [.ref 4, .ref 3, .int (nI k)] [] (gM I h) K := by
  intro d
  induction d with
  | zero =>
    intro k I hk hs hv kk
    have hk : k = 10 := by omega
    subst hk
    refine g_iload_n (i := 2) (t := 3) dX4_append_2 rfl rfl rfl ?_
    refine g_bipush (t := 5) dX4_append_3 c_bipush_10 rfl ?_
    refine g_icmp_ge_n (t1 := 32) (t2 := 8) dX4_append_5 (by decide) rfl (by omega) (by omega) (fun h5 => ?_) (fun h5 => ?_)
    · exact kk I hs hv
    · exfalso; omega
  | succ d ih =>
    intro k I hk hs hv kk
    refine g_iload_n (i := 2) (t := 3) dX4_append_2 rfl rfl rfl ?_
    refine g_bipush (t := 5) dX4_append_3 c_bipush_10 rfl ?_
    refine g_icmp_ge_n (t1 := 32) (t2 := 8) dX4_append_5 (by decide) rfl (by omega) (by omega) (fun h5 => ?_) (fun h5 => ?_)
    · exfalso; omega
    · refine g_iload_n (i := 2) (t := 9) dX4_append_8 rfl rfl rfl ?_
      refine g_aload_n (i := 1) (r := 3) (t := 10) dX4_append_9 rfl rfl (Or.inl l9_3) rfl ?_
      refine g_alen (a := 3) (n := 10) (kd := 0) (v := nI 10) (t := 11) l6_3 l9_3 (by decide) s_3 rfl dX4_append_10 rfl ?_
      refine g_icmp_ge_n (t1 := 32) (t2 := 14) dX4_append_11 (by decide) rfl (by omega) (by omega) (fun h11 => ?_) (fun h11 => ?_)
      · exfalso; omega
      · refine g_aload_n (i := 0) (r := 4) (t := 15) dX4_append_14 rfl rfl (Or.inl l9_4) rfl ?_
        refine g_aload_n (i := 0) (r := 4) (t := 16) dX4_append_15 rfl rfl (Or.inl l9_4) rfl ?_
        refine gm_getI (o := 4) (ci := 4) (k := 0) (t := 19) l6_4 l9_4 s_4 gf_X4_27 rfl dX4_append_16 rfl ?_
        rw [hs.at 4 rfl, h4]
        refine g_iload_n (i := 2) (t := 20) dX4_append_19 rfl rfl rfl ?_
        refine g_aload_n (i := 1) (r := 3) (t := 21) dX4_append_20 rfl rfl (Or.inl l9_3) rfl ?_
        refine g_iload_n (i := 2) (t := 22) dX4_append_21 rfl rfl rfl ?_
        refine gm_iald_n (a := 3) (n := 10) (t := 23) l6_3 l9_3 s_3 dX4_append_22 (by omega) (by decide) rfl ?_
        refine g_cVd (o := 4) (t := 26) mX4_put k_X4_50 imX4_put seX4_put l6_4 l9_4 s_4 rfl dX4_append_23 (x4_put (by omega) (by omega)) rfl rfl (by decide) (by decide) (Nat.le_of_ble_eq_true rfl) rfl ?_
        refine g_iinc (i := 2) (t := 29) (L1 := [_, _, _]) dX4_append_26 rfl (gi_1 _) (by decide) rfl rfl rfl ?_
        refine g_goto (t := 2) dX4_append_29 (by decide) ?_
        refine ih (k + 1) _ (by omega) (hs.up rfl) (fun i w hi hw => ?_) kk
        rw [gup_at, hv i w hi hw, hs.at 3 rfl]
        have e1 : (11 * i + w = 11 * n + k) ↔ (i = n ∧ w = k) := g_eq11 hw (by omega)
        simp only [e1]
        by_cases q1 : i = n ∧ w = k
        · obtain ⟨rfl, rfl⟩ := q1
          simp
        · rw [if_neg q1]
          by_cases q2 : i = n
          · subst q2
            have : w ≠ k := fun y => q1 ⟨rfl, y⟩
            have : (w < k + 1) ↔ (w < k) := by omega
            simp only [this]
          · simp [q2]
theorem x4_append_end {n : Nat} (hn : n < 16) {I0 : Nat → Nat → Int32} (h4 : I 4 0 = nI n) (hs : gSame [6] I0 I) (hv : ∀ i w, i < 16 → w < 11 → I 6 (11 * i + w) = if i = n ∧ w < 10 then I0 3 w else I0 6 (11 * i + w)) : Wp E fX4_append 62 32 [.ref 4, .ref 3, .int (nI 10)] [] (gM I h) (gRet fX4_append 62 (fun r σ' => ∃ I' : Nat → Nat → Int32, r = none ∧ σ' = gM I' h ∧ gSame [4, 6] I0 I' ∧ I' 4 0 = nI (n + 1) ∧ ∀ i w, i < 16 → w < 11 → I' 6 (11 * i + w) = if i = n then (if w < 10 then I0 3 w else 0) else I0 6 (11 * i + w))) := by
  refine g_aload_n (i := 0) (r := 4) (t := 33) dX4_append_32 rfl rfl (Or.inl l9_4) rfl ?_
  refine g_aload_n (i := 0) (r := 4) (t := 34) dX4_append_33 rfl rfl (Or.inl l9_4) rfl ?_
  refine gm_getI (o := 4) (ci := 4) (k := 0) (t := 37) l6_4 l9_4 s_4 gf_X4_27 rfl dX4_append_34 rfl ?_
  rw [h4]
  refine g_bipush (t := 39) dX4_append_37 c_bipush_10 rfl ?_
  refine g_iconst (t := 40) dX4_append_39 c_iconst_0 rfl ?_
  refine g_cVd (o := 4) (t := 43) mX4_put k_X4_50 imX4_put seX4_put l6_4 l9_4 s_4 rfl dX4_append_40 (x4_put (by omega) (by omega)) rfl rfl (by decide) (by decide) (Nat.le_of_ble_eq_true rfl) rfl ?_
  refine g_aload_n (i := 0) (r := 4) (t := 44) dX4_append_43 rfl rfl (Or.inl l9_4) rfl ?_
  refine g_dup (t := 45) dX4_append_44 rfl rfl ?_
  refine gm_getI (o := 4) (ci := 4) (k := 0) (t := 48) l6_4 l9_4 s_4 gf_X4_27 rfl dX4_append_45 rfl ?_
  rw [gup_o _ _ _ _ (by decide), h4]
  refine g_iconst (t := 49) dX4_append_48 c_iconst_1 rfl ?_
  refine g_iadd (t := 50) dX4_append_49 rfl ?_
  refine g_top (y := nI (n + 1)) (nI_add _ _) ?_
  refine gm_putI (o := 4) (ci := 4) (k := 0) (t := 53) l6_4 l9_4 s_4 gp_X4_27 rfl rfl rfl dX4_append_50 rfl ?_
  exact g_retV dX4_append_53 rfl (by
    refine ⟨((hs.wk rfl).up rfl).up rfl, gup_self _ _ _ _, fun i w hi hw => ?_⟩
    rw [gup_o _ _ _ _ (by decide), gup_at]
    have e1 : (11 * i + w = 11 * n + 10) ↔ (i = n ∧ w = 10) := g_eq11 hw (by omega)
    simp only [e1]
    by_cases q1 : i = n ∧ w = 10
    · obtain ⟨rfl, rfl⟩ := q1
      simp [nI_0]
    · rw [if_neg q1, hv i w hi hw]
      by_cases q2 : i = n
      · subst q2
        have : w ≠ 10 := fun y => q1 ⟨rfl, y⟩
        have : w < 10 := by omega
        simp [this]
      · simp [q2])
theorem x4_append {n : Nat} (hn : n < 16) (h4 : I 4 0 = nI n) : gQV E fX4_append [.ref 4, .ref 3] I h (fun I' => gSame [4, 6] I I' ∧ I' 4 0 = nI (n + 1) ∧ ∀ i w, i < 16 → w < 11 → I' 6 (11 * i + w) = if i = n then (if w < 10 then I 3 w else 0) else I 6 (11 * i + w)) := by
  refine gEv.of rfl (Nat.le_refl _) (Nat.le_of_ble_eq_true rfl) (L := [.ref 4, .ref 3, .null]) rfl ?_
  refine g_iconst (t := 1) dX4_append_0 c_iconst_0 rfl ?_
  refine g_istore_n (i := 2) (t := 2) (L1 := [_, _, _]) dX4_append_1 rfl (by decide) rfl rfl rfl ?_
  refine x4_append_loop hn h4 10 0 I rfl gSame.rf (fun i w _ _ => by simp) (fun I' hs hv => ?_)
  exact x4_append_end hn (by rw [hs.at 4 rfl]; exact h4) hs hv
end X4
end
section
/-! java.lang.Math and FlexRows$History -/
def fdv (x y : Int32) : Int32 := if x ^^^ y < 0 ∧ ¬ x / y * y = x then x / y - nI 1 else x / y
def fmd (x y : Int32) : Int32 := if x ^^^ y < 0 ∧ ¬ x - x / y * y = 0 then x - x / y * y + y else x - x / y * y
theorem fmd_8 : ∀ a, a < 16 → fmd (nI a) (nI 8) = nI (a % 8) := by decide +kernel
theorem fmd_m1 : fmd (-1) (nI 8) = nI 7 := by decide +kernel
section X0
variable {E : gE} {I : Nat → Nat → Int32} {h : Int64}
theorem j9_floorDiv {x y : Int32} (hy : ¬ y = 0) : gPI E fJ9_floorDiv_7cf53 [.int x, .int y] I h (fdv x y) := by
  refine gEv.ofJ (by decide +kernel) (Nat.le_refl _) (Nat.le_of_ble_eq_true rfl) (L := [.int x, .int y, .null]) rfl ?_
  refine g_iload_n (i := 0) (t := 1) dJ9_floorDiv_7cf53_0 rfl rfl rfl ?_
  refine g_iload_n (i := 1) (t := 2) dJ9_floorDiv_7cf53_1 rfl rfl rfl ?_
  refine g_idiv (t := 3) dJ9_floorDiv_7cf53_2 hy rfl ?_
  refine g_istore_n (i := 2) (t := 4) (L1 := [_, _, _]) dJ9_floorDiv_7cf53_3 rfl (by decide) rfl rfl rfl ?_
  refine g_iload_n (i := 0) (t := 5) dJ9_floorDiv_7cf53_4 rfl rfl rfl ?_
  refine g_iload_n (i := 1) (t := 6) dJ9_floorDiv_7cf53_5 rfl rfl rfl ?_
  refine g_ixor (t := 7) dJ9_floorDiv_7cf53_6 rfl ?_
  refine g_if_ge (t1 := 21) (t2 := 10) dJ9_floorDiv_7cf53_7 (by decide) rfl (fun h7 => ?_) (fun h7 => ?_)
  · refine g_iload_n (i := 2) (t := 22) dJ9_floorDiv_7cf53_21 rfl rfl rfl ?_
    exact g_retP dJ9_floorDiv_7cf53_22 rfl rfl (by unfold fdv; rw [if_neg (fun z => by first | exact z.2 h14 | exact absurd z.1 (Int32.not_lt.mpr h7))])
  · refine g_iload_n (i := 2) (t := 11) dJ9_floorDiv_7cf53_10 rfl rfl rfl ?_
    refine g_iload_n (i := 1) (t := 12) dJ9_floorDiv_7cf53_11 rfl rfl rfl ?_
    refine g_imul (t := 13) dJ9_floorDiv_7cf53_12 rfl ?_
    refine g_iload_n (i := 0) (t := 14) dJ9_floorDiv_7cf53_13 rfl rfl rfl ?_
    refine g_icmp_eq (t1 := 21) (t2 := 17) dJ9_floorDiv_7cf53_14 (by decide) rfl (fun h14 => ?_) (fun h14 => ?_)
    · refine g_iload_n (i := 2) (t := 22) dJ9_floorDiv_7cf53_21 rfl rfl rfl ?_
      exact g_retP dJ9_floorDiv_7cf53_22 rfl rfl (by unfold fdv; rw [if_neg (fun z => by first | exact z.2 h14 | exact absurd z.1 (Int32.not_lt.mpr h7))])
    · refine g_iload_n (i := 2) (t := 18) dJ9_floorDiv_7cf53_17 rfl rfl rfl ?_
      refine g_iconst (t := 19) dJ9_floorDiv_7cf53_18 c_iconst_1 rfl ?_
      refine g_isub (t := 20) dJ9_floorDiv_7cf53_19 rfl ?_
      exact g_retP dJ9_floorDiv_7cf53_20 rfl rfl (by unfold fdv; rw [if_pos ⟨Int32.not_le.mp h7, h14⟩])
theorem j9_floorMod {x y : Int32} (hy : ¬ y = 0) : gPI E fJ9_floorMod_7cf53 [.int x, .int y] I h (fmd x y) := by
  refine gEv.ofJ (by decide +kernel) (Nat.le_refl _) (Nat.le_of_ble_eq_true rfl) (L := [.int x, .int y, .null]) rfl ?_
  refine g_iload_n (i := 0) (t := 1) dJ9_floorMod_7cf53_0 rfl rfl rfl ?_
  refine g_iload_n (i := 1) (t := 2) dJ9_floorMod_7cf53_1 rfl rfl rfl ?_
  refine g_irem (t := 3) dJ9_floorMod_7cf53_2 hy rfl ?_
  refine g_istore_n (i := 2) (t := 4) (L1 := [_, _, _]) dJ9_floorMod_7cf53_3 rfl (by decide) rfl rfl rfl ?_
  refine g_iload_n (i := 0) (t := 5) dJ9_floorMod_7cf53_4 rfl rfl rfl ?_
  refine g_iload_n (i := 1) (t := 6) dJ9_floorMod_7cf53_5 rfl rfl rfl ?_
  refine g_ixor (t := 7) dJ9_floorMod_7cf53_6 rfl ?_
  refine g_if_ge (t1 := 18) (t2 := 10) dJ9_floorMod_7cf53_7 (by decide) rfl (fun h7 => ?_) (fun h7 => ?_)
  · refine g_iload_n (i := 2) (t := 19) dJ9_floorMod_7cf53_18 rfl rfl rfl ?_
    exact g_retP dJ9_floorMod_7cf53_19 rfl rfl (by unfold fmd; rw [if_neg (fun z => by first | exact z.2 h11 | exact absurd z.1 (Int32.not_lt.mpr h7))])
  · refine g_iload_n (i := 2) (t := 11) dJ9_floorMod_7cf53_10 rfl rfl rfl ?_
    refine g_if_eq (t1 := 18) (t2 := 14) dJ9_floorMod_7cf53_11 (by decide) rfl (fun h11 => ?_) (fun h11 => ?_)
    · refine g_iload_n (i := 2) (t := 19) dJ9_floorMod_7cf53_18 rfl rfl rfl ?_
      exact g_retP dJ9_floorMod_7cf53_19 rfl rfl (by unfold fmd; rw [if_neg (fun z => by first | exact z.2 h11 | exact absurd z.1 (Int32.not_lt.mpr h7))])
    · refine g_iload_n (i := 2) (t := 15) dJ9_floorMod_7cf53_14 rfl rfl rfl ?_
      refine g_iload_n (i := 1) (t := 16) dJ9_floorMod_7cf53_15 rfl rfl rfl ?_
      refine g_iadd (t := 17) dJ9_floorMod_7cf53_16 rfl ?_
      exact g_retP dJ9_floorMod_7cf53_17 rfl rfl (by unfold fmd; rw [if_pos ⟨Int32.not_le.mp h7, h11⟩])
theorem x0_record {k c : Nat} (hk : k < 8) (hc : c ≤ 8) (h1 : I 7 1 = nI k) (h0 : I 7 0 = nI c) : gQV E fX0_record [.ref 7, .ref 4] I h (fun I' => gSame [7, 8, 9, 10] I I' ∧ I' 7 0 = nI (min (c + 1) 8) ∧ I' 7 1 = nI ((k + 1) % 8) ∧ (∀ j, I' 8 j = if j = k then I 4 0 else I 8 j) ∧ (∀ j w, w < 7 → I' 9 (7 * j + w) = if j = k then I 5 w else I 9 (7 * j + w)) ∧ (∀ j w, w < 176 → I' 10 (176 * j + w) = if j = k then I 6 w else I 10 (176 * j + w))) := by
  refine gEv.of rfl (Nat.le_refl _) (Nat.le_of_ble_eq_true rfl) (L := [.ref 7, .ref 4, .null]) rfl ?_
  have e7 : min (c + 1) 8 = if 8 < c + 1 then 8 else c + 1 := by split <;> omega
  refine g_aload_n (i := 0) (r := 7) (t := 1) dX0_record_0 rfl rfl (Or.inl l9_7) rfl ?_
  refine gm_getI (o := 7) (ci := 0) (k := 1) (t := 4) l6_7 l9_7 s_7 gf_X0_21 rfl dX0_record_1 rfl ?_
  rw [h1]
  refine g_bipush (t := 6) dX0_record_4 c_bipush_8 rfl ?_
  refine g_cSp (t := 9) mJ9_floorMod_7cf53 k_X0_25 smJ9_floorMod_7cf53 dX0_record_6 (j9_floorMod (by decide)) rfl rfl (by decide) (by decide) (Nat.le_of_ble_eq_true rfl) rfl ?_
  refine g_top (y := nI k) (by rw [fmd_8 k (by omega), Nat.mod_eq_of_lt hk]) ?_
  refine g_istore_n (i := 2) (t := 10) (L1 := [_, _, _]) dX0_record_9 rfl (by decide) rfl rfl rfl ?_
  refine g_aload_n (i := 0) (r := 7) (t := 11) dX0_record_10 rfl rfl (Or.inl l9_7) rfl ?_
  refine gm_getR (o := 7) (ci := 0) (k := 2) (r := 8) (t := 14) l6_7 l9_7 s_7 gf_X0_9 rfl r_7_2 l9_8 dX0_record_11 rfl ?_
  refine g_iload_n (i := 2) (t := 15) dX0_record_14 rfl rfl rfl ?_
  refine g_aload_n (i := 1) (r := 4) (t := 16) dX0_record_15 rfl rfl (Or.inl l9_4) rfl ?_
  refine gm_getI (o := 4) (ci := 4) (k := 0) (t := 19) l6_4 l9_4 s_4 gf_X0_31 rfl dX0_record_16 rfl ?_
  refine gm_iast_n (a := 8) (n := 8) (t := 20) l6_8 l9_8 s_8 dX0_record_19 (by omega) (by decide) rfl ?_
  refine g_aload_n (i := 1) (r := 4) (t := 21) dX0_record_20 rfl rfl (Or.inl l9_4) rfl ?_
  refine gm_getR (o := 4) (ci := 4) (k := 1) (r := 5) (t := 24) l6_4 l9_4 s_4 gf_X0_35 rfl r_4_1 l9_5 dX0_record_21 rfl ?_
  refine g_iconst (t := 25) dX0_record_24 c_iconst_0 rfl ?_
  refine g_aload_n (i := 0) (r := 7) (t := 26) dX0_record_25 rfl rfl (Or.inl l9_7) rfl ?_
  refine gm_getR (o := 7) (ci := 0) (k := 3) (r := 9) (t := 29) l6_7 l9_7 s_7 gf_X0_15 rfl r_7_3 l9_9 dX0_record_26 rfl ?_
  refine g_iload_n (i := 2) (t := 30) dX0_record_29 rfl rfl rfl ?_
  refine g_bipush (t := 32) dX0_record_30 c_bipush_7 rfl ?_
  refine g_imul (t := 33) dX0_record_32 rfl ?_
  refine g_top (y := nI (7 * k)) (by rw [pk_mul, Nat.mul_comm]) ?_
  refine g_bipush (t := 35) dX0_record_33 c_bipush_7 rfl ?_
  refine gm_copy (a := 5) (b := 9) (n0 := 7) (n1 := 56) (t := 38) k_X0_38 l6_5 l9_5 s_5 l6_9 l9_9 s_9 (by omega) (by omega) (by decide) (by decide) (by decide) (by decide) (Nat.le_of_ble_eq_true rfl) dX0_record_35 rfl ?_
  refine g_aload_n (i := 1) (r := 4) (t := 39) dX0_record_38 rfl rfl (Or.inl l9_4) rfl ?_
  refine gm_getR (o := 4) (ci := 4) (k := 2) (r := 6) (t := 42) l6_4 l9_4 s_4 gf_X0_44 rfl r_4_2 l9_6 dX0_record_39 rfl ?_
  refine g_iconst (t := 43) dX0_record_42 c_iconst_0 rfl ?_
  refine g_aload_n (i := 0) (r := 7) (t := 44) dX0_record_43 rfl rfl (Or.inl l9_7) rfl ?_
  refine gm_getR (o := 7) (ci := 0) (k := 4) (r := 10) (t := 47) l6_7 l9_7 s_7 gf_X0_18 rfl r_7_4 l9_10 dX0_record_44 rfl ?_
  refine g_iload_n (i := 2) (t := 48) dX0_record_47 rfl rfl rfl ?_
  refine g_bipush (t := 50) dX0_record_48 c_bipush_16 rfl ?_
  refine g_imul (t := 51) dX0_record_50 rfl ?_
  refine g_bipush (t := 53) dX0_record_51 c_bipush_11 rfl ?_
  refine g_imul (t := 54) dX0_record_53 rfl ?_
  refine g_top (y := nI (176 * k)) (by rw [pk_mul, pk_mul]; exact congrArg nI (by omega)) ?_
  refine g_sipush (t := 57) dX0_record_54 c_sipush_176 rfl ?_
  refine gm_copy (a := 6) (b := 10) (n0 := 176) (n1 := 1408) (t := 60) k_X0_38 l6_6 l9_6 s_6 l6_10 l9_10 s_10 (by omega) (by omega) (by decide) (by decide) (by decide) (by decide) (Nat.le_of_ble_eq_true rfl) dX0_record_57 rfl ?_
  refine g_aload_n (i := 0) (r := 7) (t := 61) dX0_record_60 rfl rfl (Or.inl l9_7) rfl ?_
  refine g_iload_n (i := 2) (t := 62) dX0_record_61 rfl rfl rfl ?_
  refine g_iconst (t := 63) dX0_record_62 c_iconst_1 rfl ?_
  refine g_iadd (t := 64) dX0_record_63 rfl ?_
  refine g_top (y := nI (k + 1)) (nI_add _ _) ?_
  refine g_bipush (t := 66) dX0_record_64 c_bipush_8 rfl ?_
  refine g_cSp (t := 69) mJ9_floorMod_7cf53 k_X0_25 smJ9_floorMod_7cf53 dX0_record_66 (j9_floorMod (by decide)) rfl rfl (by decide) (by decide) (Nat.le_of_ble_eq_true rfl) rfl ?_
  refine g_top (y := nI ((k + 1) % 8)) (fmd_8 _ (by omega)) ?_
  refine gm_putI (o := 7) (ci := 0) (k := 1) (t := 72) l6_7 l9_7 s_7 gp_X0_21 rfl rfl rfl dX0_record_69 rfl ?_
  refine g_aload_n (i := 0) (r := 7) (t := 73) dX0_record_72 rfl rfl (Or.inl l9_7) rfl ?_
  refine g_aload_n (i := 0) (r := 7) (t := 74) dX0_record_73 rfl rfl (Or.inl l9_7) rfl ?_
  refine gm_getI (o := 7) (ci := 0) (k := 0) (t := 77) l6_7 l9_7 s_7 gf_X0_45 rfl dX0_record_74 rfl ?_
  refine g_top (y := nI c) (by
      rw [gup_k _ _ _ (by decide)]
      exact h0) ?_
  refine g_iconst (t := 78) dX0_record_77 c_iconst_1 rfl ?_
  refine g_iadd (t := 79) dX0_record_78 rfl ?_
  refine g_top (y := nI (c + 1)) (nI_add _ _) ?_
  refine g_bipush (t := 81) dX0_record_79 c_bipush_8 rfl ?_
  refine g_min (t := 84) k_X0_48 k_min2 k_ma3 k_min4 (by decide) (by decide) (Nat.le_of_ble_eq_true rfl) dX0_record_81 rfl ?_
  refine g_top (y := nI (min (c + 1) 8)) (by
      rw [e7]
      by_cases z : 8 < c + 1
      · rw [if_pos z, if_pos ((nI_ltI (by omega) (by omega)).mpr z)]
      · rw [if_neg z, if_neg (fun q => z ((nI_ltI (by omega) (by omega)).mp q))]) ?_
  refine gm_putI (o := 7) (ci := 0) (k := 0) (t := 87) l6_7 l9_7 s_7 gp_X0_45 rfl rfl rfl dX0_record_84 rfl ?_
  exact g_retV dX0_record_87 rfl (by
    refine ⟨fun q hq => ?_, gup_self _ _ _ _, ?_, fun j => ?_, fun j w hw => ?_, fun j w hw => ?_⟩
    · have n7 : q ≠ 7 := fun z => hq (by subst z; decide)
      have n8 : q ≠ 8 := fun z => hq (by subst z; decide)
      have n9 : q ≠ 9 := fun z => hq (by subst z; decide)
      have n10 : q ≠ 10 := fun z => hq (by subst z; decide)
      rw [gup_rowo _ _ _ n7, gup_rowo _ _ _ n7]
      show gcpy _ _ _ _ _ _ q = _
      simp only [gcpy, if_neg n9, if_neg n10]
      rw [gup_rowo _ _ _ n8]
    · rw [gup_k _ _ _ (by decide), gup_self]
    · rw [gup_o _ _ _ _ (by decide), gup_o _ _ _ _ (by decide)]
      show gcpy _ _ _ _ _ _ 8 j = _
      rw [gcpy, if_neg (by decide), gcpy, if_neg (by decide), gup_at]
    · rw [gup_o _ _ _ _ (by decide), gup_o _ _ _ _ (by decide)]
      show gcpy _ _ _ _ _ _ 9 _ = _
      rw [gcpy, if_neg (by decide), gcpy, if_pos rfl]
      by_cases z : j = k
      · subst z
        rw [if_pos rfl, pk_cpy_in (by omega) (by omega), show 0 + (7 * j + w - 7 * j) = w by omega, gup_o _ _ _ _ (by decide)]
      · rw [if_neg z, pk_cpy_out (by omega), gup_o _ _ _ _ (by decide)]
    · rw [gup_o _ _ _ _ (by decide), gup_o _ _ _ _ (by decide)]
      show gcpy _ _ _ _ _ _ 10 _ = _
      rw [gcpy, if_pos rfl]
      by_cases z : j = k
      · subst z
        rw [if_pos rfl, pk_cpy_in (by omega) (by omega), show 0 + (176 * j + w - 176 * j) = w by omega, gcpy, if_neg (by decide), gup_o _ _ _ _ (by decide)]
      · rw [if_neg z, pk_cpy_out (by omega), gcpy, if_neg (by decide), gup_o _ _ _ _ (by decide)])
theorem x0_restore {k c : Nat} (hk : k < 8) (hc : c < 8) (h1 : I 7 1 = nI k) (h0 : I 7 0 = nI (c + 1)) : gQV E fX0_restore [.ref 7, .ref 4] I h (fun I' => gSame [4, 5, 6, 7] I I' ∧ I' 7 0 = nI c ∧ I' 7 1 = nI ((k + 7) % 8) ∧ I' 4 0 = I 8 ((k + 7) % 8) ∧ (∀ w, w < 7 → I' 5 w = I 9 (7 * ((k + 7) % 8) + w)) ∧ (∀ w, w < 176 → I' 6 w = I 10 (176 * ((k + 7) % 8) + w))) := by
  refine gEv.of rfl (Nat.le_refl _) (Nat.le_of_ble_eq_true rfl) (L := [.ref 7, .ref 4, .null]) rfl ?_
  obtain ⟨s, hs⟩ : ∃ s, s = (k + 7) % 8 := ⟨_, rfl⟩
  have hs8 : s < 8 := by omega
  rw [← hs]
  refine g_aload_n (i := 0) (r := 7) (t := 1) dX0_restore_0 rfl rfl (Or.inl l9_7) rfl ?_
  refine gm_getI (o := 7) (ci := 0) (k := 0) (t := 4) l6_7 l9_7 s_7 gf_X0_45 rfl dX0_restore_1 rfl ?_
  rw [h0]
  refine g_if_ne (t1 := 8) (t2 := 7) dX0_restore_4 (by decide) rfl (fun h4 => ?_) (fun h4 => ?_)
  · refine g_aload_n (i := 0) (r := 7) (t := 9) dX0_restore_8 rfl rfl (Or.inl l9_7) rfl ?_
    refine gm_getI (o := 7) (ci := 0) (k := 1) (t := 12) l6_7 l9_7 s_7 gf_X0_21 rfl dX0_restore_9 rfl ?_
    rw [h1]
    refine g_iconst (t := 13) dX0_restore_12 c_iconst_1 rfl ?_
    refine g_isub (t := 14) dX0_restore_13 rfl ?_
    refine g_bipush (t := 16) dX0_restore_14 c_bipush_8 rfl ?_
    refine g_cSp (t := 19) mJ9_floorMod_7cf53 k_X0_25 smJ9_floorMod_7cf53 dX0_restore_16 (j9_floorMod (by decide)) rfl rfl (by decide) (by decide) (Nat.le_of_ble_eq_true rfl) rfl ?_
    refine g_top (y := nI s) (by
        rcases Nat.eq_zero_or_pos k with z | z
        · subst z
          rw [show nI 0 - nI 1 = -1 by decide +kernel, fmd_m1, hs]
        · rw [pk_sub (by omega), fmd_8 _ (by omega), hs]
          exact congrArg nI (by omega)) ?_
    refine g_istore_n (i := 2) (t := 20) (L1 := [_, _, _]) dX0_restore_19 rfl (by decide) rfl rfl rfl ?_
    refine g_aload_n (i := 1) (r := 4) (t := 21) dX0_restore_20 rfl rfl (Or.inl l9_4) rfl ?_
    refine g_aload_n (i := 0) (r := 7) (t := 22) dX0_restore_21 rfl rfl (Or.inl l9_7) rfl ?_
    refine gm_getR (o := 7) (ci := 0) (k := 2) (r := 8) (t := 25) l6_7 l9_7 s_7 gf_X0_9 rfl r_7_2 l9_8 dX0_restore_22 rfl ?_
    refine g_iload_n (i := 2) (t := 26) dX0_restore_25 rfl rfl rfl ?_
    refine gm_iald_n (a := 8) (n := 8) (t := 27) l6_8 l9_8 s_8 dX0_restore_26 (by omega) (by decide) rfl ?_
    refine gm_putI (o := 4) (ci := 4) (k := 0) (t := 30) l6_4 l9_4 s_4 gp_X0_31 rfl rfl rfl dX0_restore_27 rfl ?_
    refine g_aload_n (i := 0) (r := 7) (t := 31) dX0_restore_30 rfl rfl (Or.inl l9_7) rfl ?_
    refine gm_getR (o := 7) (ci := 0) (k := 3) (r := 9) (t := 34) l6_7 l9_7 s_7 gf_X0_15 rfl r_7_3 l9_9 dX0_restore_31 rfl ?_
    refine g_iload_n (i := 2) (t := 35) dX0_restore_34 rfl rfl rfl ?_
    refine g_bipush (t := 37) dX0_restore_35 c_bipush_7 rfl ?_
    refine g_imul (t := 38) dX0_restore_37 rfl ?_
    refine g_top (y := nI (7 * s)) (by rw [pk_mul, Nat.mul_comm]) ?_
    refine g_aload_n (i := 1) (r := 4) (t := 39) dX0_restore_38 rfl rfl (Or.inl l9_4) rfl ?_
    refine gm_getR (o := 4) (ci := 4) (k := 1) (r := 5) (t := 42) l6_4 l9_4 s_4 gf_X0_35 rfl r_4_1 l9_5 dX0_restore_39 rfl ?_
    refine g_iconst (t := 43) dX0_restore_42 c_iconst_0 rfl ?_
    refine g_bipush (t := 45) dX0_restore_43 c_bipush_7 rfl ?_
    refine gm_copy (a := 9) (b := 5) (n0 := 56) (n1 := 7) (t := 48) k_X0_38 l6_9 l9_9 s_9 l6_5 l9_5 s_5 (by omega) (by omega) (by decide) (by decide) (by decide) (by decide) (Nat.le_of_ble_eq_true rfl) dX0_restore_45 rfl ?_
    refine g_aload_n (i := 0) (r := 7) (t := 49) dX0_restore_48 rfl rfl (Or.inl l9_7) rfl ?_
    refine gm_getR (o := 7) (ci := 0) (k := 4) (r := 10) (t := 52) l6_7 l9_7 s_7 gf_X0_18 rfl r_7_4 l9_10 dX0_restore_49 rfl ?_
    refine g_iload_n (i := 2) (t := 53) dX0_restore_52 rfl rfl rfl ?_
    refine g_bipush (t := 55) dX0_restore_53 c_bipush_16 rfl ?_
    refine g_imul (t := 56) dX0_restore_55 rfl ?_
    refine g_bipush (t := 58) dX0_restore_56 c_bipush_11 rfl ?_
    refine g_imul (t := 59) dX0_restore_58 rfl ?_
    refine g_top (y := nI (176 * s)) (by rw [pk_mul, pk_mul]; exact congrArg nI (by omega)) ?_
    refine g_aload_n (i := 1) (r := 4) (t := 60) dX0_restore_59 rfl rfl (Or.inl l9_4) rfl ?_
    refine gm_getR (o := 4) (ci := 4) (k := 2) (r := 6) (t := 63) l6_4 l9_4 s_4 gf_X0_44 rfl r_4_2 l9_6 dX0_restore_60 rfl ?_
    refine g_iconst (t := 64) dX0_restore_63 c_iconst_0 rfl ?_
    refine g_sipush (t := 67) dX0_restore_64 c_sipush_176 rfl ?_
    refine gm_copy (a := 10) (b := 6) (n0 := 1408) (n1 := 176) (t := 70) k_X0_38 l6_10 l9_10 s_10 l6_6 l9_6 s_6 (by omega) (by omega) (by decide) (by decide) (by decide) (by decide) (Nat.le_of_ble_eq_true rfl) dX0_restore_67 rfl ?_
    refine g_aload_n (i := 0) (r := 7) (t := 71) dX0_restore_70 rfl rfl (Or.inl l9_7) rfl ?_
    refine g_iload_n (i := 2) (t := 72) dX0_restore_71 rfl rfl rfl ?_
    refine gm_putI (o := 7) (ci := 0) (k := 1) (t := 75) l6_7 l9_7 s_7 gp_X0_21 rfl rfl rfl dX0_restore_72 rfl ?_
    refine g_aload_n (i := 0) (r := 7) (t := 76) dX0_restore_75 rfl rfl (Or.inl l9_7) rfl ?_
    refine g_dup (t := 77) dX0_restore_76 rfl rfl ?_
    refine gm_getI (o := 7) (ci := 0) (k := 0) (t := 80) l6_7 l9_7 s_7 gf_X0_45 rfl dX0_restore_77 rfl ?_
    refine g_top (y := nI (c + 1)) (by
        rw [gup_k _ _ _ (by decide)]
        exact h0) ?_
    refine g_iconst (t := 81) dX0_restore_80 c_iconst_1 rfl ?_
    refine g_isub (t := 82) dX0_restore_81 rfl ?_
    refine g_top (y := nI c) (by rw [pk_sub (by omega)]; rfl) ?_
    refine gm_putI (o := 7) (ci := 0) (k := 0) (t := 85) l6_7 l9_7 s_7 gp_X0_45 rfl rfl rfl dX0_restore_82 rfl ?_
    exact g_retV dX0_restore_85 rfl (by
    refine ⟨fun q hq => ?_, gup_self _ _ _ _, ?_, ?_, fun w hw => ?_, fun w hw => ?_⟩
    · have n7 : q ≠ 7 := fun z => hq (by subst z; decide)
      have n4 : q ≠ 4 := fun z => hq (by subst z; decide)
      have n5 : q ≠ 5 := fun z => hq (by subst z; decide)
      have n6 : q ≠ 6 := fun z => hq (by subst z; decide)
      rw [gup_rowo _ _ _ n7, gup_rowo _ _ _ n7]
      show gcpy _ _ _ _ _ _ q = _
      simp only [gcpy, if_neg n5, if_neg n6]
      rw [gup_rowo _ _ _ n4]
    · rw [gup_k _ _ _ (by decide), gup_self]
    · rw [gup_o _ _ _ _ (by decide), gup_o _ _ _ _ (by decide)]
      show gcpy _ _ _ _ _ _ 4 0 = _
      rw [gcpy, if_neg (by decide), gcpy, if_neg (by decide), gup_self]
    · rw [gup_o _ _ _ _ (by decide), gup_o _ _ _ _ (by decide)]
      show gcpy _ _ _ _ _ _ 5 _ = _
      rw [gcpy, if_neg (by decide), gcpy, if_pos rfl, pk_cpy_in (by omega) (by omega), gup_o _ _ _ _ (by decide)]
      rfl
    · rw [gup_o _ _ _ _ (by decide), gup_o _ _ _ _ (by decide)]
      show gcpy _ _ _ _ _ _ 6 _ = _
      rw [gcpy, if_pos rfl, pk_cpy_in (by omega) (by omega), gcpy, if_neg (by decide), gup_o _ _ _ _ (by decide)]
      rfl)
  · exact absurd h4 (nI_ne0 (by omega) (by omega))
end X0
end
