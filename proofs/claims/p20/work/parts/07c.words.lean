abbrev fX0_init : gF := (yX0_init, cX0_init, 1, none, 1, 20)
theorem mX0_init : gMi fX0_init 0 := ⟨gB_mem (k := 99) (by decide +kernel) (by decide +kernel), gB_mem (k := 26) (by decide +kernel) (by decide +kernel), by decide +kernel, by decide +kernel, by decide +kernel⟩
theorem imX0_init : Cond.instanceMethod yX0_init ∈ gB := gB_mem (k := 98) (by decide +kernel) (by decide +kernel)
abbrev fX0_record : gF := (yX0_record, cX0_record, 3, none, 1, 26)
theorem mX0_record : gMi fX0_record 1 := ⟨gB_mem (k := 385) (by decide +kernel) (by decide +kernel), gB_mem (k := 26) (by decide +kernel) (by decide +kernel), by decide +kernel, by decide +kernel, by decide +kernel⟩
theorem imX0_record : Cond.instanceMethod yX0_record ∈ gB := gB_mem (k := 383) (by decide +kernel) (by decide +kernel)
theorem seX0_record : Cond.selects RX0 yX0_record yX0_record ∈ gB := gB_mem (k := 384) (by decide +kernel) (by decide +kernel)
abbrev fX0_restore : gF := (yX0_restore, cX0_restore, 3, none, 1, 26)
theorem mX0_restore : gMi fX0_restore 1 := ⟨gB_mem (k := 434) (by decide +kernel) (by decide +kernel), gB_mem (k := 26) (by decide +kernel) (by decide +kernel), by decide +kernel, by decide +kernel, by decide +kernel⟩
theorem imX0_restore : Cond.instanceMethod yX0_restore ∈ gB := gB_mem (k := 432) (by decide +kernel) (by decide +kernel)
theorem seX0_restore : Cond.selects RX0 yX0_restore yX0_restore ∈ gB := gB_mem (k := 433) (by decide +kernel) (by decide +kernel)
abbrev fX1_breakUp : gF := (yX1_breakUp, cX1_breakUp, 7, none, 1, 21)
theorem mX1_breakUp : gMi fX1_breakUp 1 := ⟨gB_mem (k := 472) (by decide +kernel) (by decide +kernel), gB_mem (k := 28) (by decide +kernel) (by decide +kernel), by decide +kernel, by decide +kernel, by decide +kernel⟩
theorem imX1_breakUp : Cond.instanceMethod yX1_breakUp ∈ gB := gB_mem (k := 470) (by decide +kernel) (by decide +kernel)
theorem seX1_breakUp : Cond.selects RX1 yX1_breakUp yX1_breakUp ∈ gB := gB_mem (k := 471) (by decide +kernel) (by decide +kernel)
abbrev fX1_end : gF := (yX1_end, cX1_end, 2, some .int, 0, 0)
theorem mX1_end : gMi fX1_end 1 := ⟨gB_mem (k := 489) (by decide +kernel) (by decide +kernel), gB_mem (k := 28) (by decide +kernel) (by decide +kernel), by decide +kernel, by decide +kernel, by decide +kernel⟩
theorem imX1_end : Cond.instanceMethod yX1_end ∈ gB := gB_mem (k := 487) (by decide +kernel) (by decide +kernel)
theorem seX1_end : Cond.selects RX1 yX1_end yX1_end ∈ gB := gB_mem (k := 488) (by decide +kernel) (by decide +kernel)
abbrev fX1_freezeCorrected : gF := (yX1_freezeCorrected, cX1_freezeCorrected, 7, none, 1, 21)
theorem mX1_freezeCorrected : gMi fX1_freezeCorrected 3 := ⟨gB_mem (k := 520) (by decide +kernel) (by decide +kernel), gB_mem (k := 28) (by decide +kernel) (by decide +kernel), by decide +kernel, by decide +kernel, by decide +kernel⟩
theorem imX1_freezeCorrected : Cond.instanceMethod yX1_freezeCorrected ∈ gB := gB_mem (k := 519) (by decide +kernel) (by decide +kernel)
theorem seX1_freezeCorrected : Cond.selects RX1 yX1_freezeCorrected yX1_freezeCorrected ∈ gB := gB_mem (k := 12) (by decide +kernel) (by decide +kernel)
abbrev fX1_freezeStiff : gF := (yX1_freezeStiff, cX1_freezeStiff, 5, none, 2, 46)
theorem mX1_freezeStiff : gMi fX1_freezeStiff 3 := ⟨gB_mem (k := 493) (by decide +kernel) (by decide +kernel), gB_mem (k := 28) (by decide +kernel) (by decide +kernel), by decide +kernel, by decide +kernel, by decide +kernel⟩
theorem imX1_freezeStiff : Cond.instanceMethod yX1_freezeStiff ∈ gB := gB_mem (k := 492) (by decide +kernel) (by decide +kernel)
theorem seX1_freezeStiff : Cond.selects RX1 yX1_freezeStiff yX1_freezeStiff ∈ gB := gB_mem (k := 9) (by decide +kernel) (by decide +kernel)
abbrev fX1_hasOpen : gF := (yX1_hasOpen, cX1_hasOpen, 4, some .boolean, 0, 0)
theorem mX1_hasOpen : gMi fX1_hasOpen 2 := ⟨gB_mem (k := 501) (by decide +kernel) (by decide +kernel), gB_mem (k := 28) (by decide +kernel) (by decide +kernel), by decide +kernel, by decide +kernel, by decide +kernel⟩
theorem imX1_hasOpen : Cond.instanceMethod yX1_hasOpen ∈ gB := gB_mem (k := 500) (by decide +kernel) (by decide +kernel)
theorem seX1_hasOpen : Cond.selects RX1 yX1_hasOpen yX1_hasOpen ∈ gB := gB_mem (k := 10) (by decide +kernel) (by decide +kernel)
abbrev fX1_init : gF := (yX1_init, cX1_init, 3, none, 1, 20)
theorem mX1_init : gMi fX1_init 2 := ⟨gB_mem (k := 164) (by decide +kernel) (by decide +kernel), gB_mem (k := 28) (by decide +kernel) (by decide +kernel), by decide +kernel, by decide +kernel, by decide +kernel⟩
theorem imX1_init : Cond.instanceMethod yX1_init ∈ gB := gB_mem (k := 163) (by decide +kernel) (by decide +kernel)
abbrev fX1_lineOf : gF := (yX1_lineOf, cX1_lineOf, 3, some .int, 0, 0)
theorem mX1_lineOf : gMi fX1_lineOf 1 := ⟨gB_mem (k := 567) (by decide +kernel) (by decide +kernel), gB_mem (k := 28) (by decide +kernel) (by decide +kernel), by decide +kernel, by decide +kernel, by decide +kernel⟩
theorem imX1_lineOf : Cond.instanceMethod yX1_lineOf ∈ gB := gB_mem (k := 565) (by decide +kernel) (by decide +kernel)
theorem seX1_lineOf : Cond.selects RX1 yX1_lineOf yX1_lineOf ∈ gB := gB_mem (k := 566) (by decide +kernel) (by decide +kernel)
abbrev fX1_part : gF := (yX1_part, cX1_part, 3, some .int, 1, 22)
theorem mX1_part : gMi fX1_part 3 := ⟨gB_mem (k := 513) (by decide +kernel) (by decide +kernel), gB_mem (k := 28) (by decide +kernel) (by decide +kernel), by decide +kernel, by decide +kernel, by decide +kernel⟩
theorem smX1_part : Cond.static yX1_part ∈ gB := gB_mem (k := 512) (by decide +kernel) (by decide +kernel)
abbrev fX1_share : gF := (yX1_share, cX1_share, 2, none, 4, 104)
theorem mX1_share : gMi fX1_share 0 := ⟨gB_mem (k := 481) (by decide +kernel) (by decide +kernel), gB_mem (k := 28) (by decide +kernel) (by decide +kernel), by decide +kernel, by decide +kernel, by decide +kernel⟩
theorem imX1_share : Cond.instanceMethod yX1_share ∈ gB := gB_mem (k := 479) (by decide +kernel) (by decide +kernel)
theorem seX1_share : Cond.selects RX1 yX1_share yX1_share ∈ gB := gB_mem (k := 480) (by decide +kernel) (by decide +kernel)
abbrev fX1_shareLine : gF := (yX1_shareLine, cX1_shareLine, 8, none, 3, 77)
theorem mX1_shareLine : gMi fX1_shareLine 1 := ⟨gB_mem (k := 485) (by decide +kernel) (by decide +kernel), gB_mem (k := 28) (by decide +kernel) (by decide +kernel), by decide +kernel, by decide +kernel, by decide +kernel⟩
theorem imX1_shareLine : Cond.instanceMethod yX1_shareLine ∈ gB := gB_mem (k := 484) (by decide +kernel) (by decide +kernel)
theorem seX1_shareLine : Cond.selects RX1 yX1_shareLine yX1_shareLine ∈ gB := gB_mem (k := 8) (by decide +kernel) (by decide +kernel)
abbrev fX1_shareOut : gF := (yX1_shareOut, cX1_shareOut, 12, none, 2, 46)
theorem mX1_shareOut : gMi fX1_shareOut 4 := ⟨gB_mem (k := 505) (by decide +kernel) (by decide +kernel), gB_mem (k := 28) (by decide +kernel) (by decide +kernel), by decide +kernel, by decide +kernel, by decide +kernel⟩
theorem imX1_shareOut : Cond.instanceMethod yX1_shareOut ∈ gB := gB_mem (k := 504) (by decide +kernel) (by decide +kernel)
theorem seX1_shareOut : Cond.selects RX1 yX1_shareOut yX1_shareOut ∈ gB := gB_mem (k := 11) (by decide +kernel) (by decide +kernel)
abbrev fX2_enter : gF := (yX2_enter, cX2_enter, 4, none, 1, 23)
theorem mX2_enter : gMi fX2_enter 1 := ⟨gB_mem (k := 451) (by decide +kernel) (by decide +kernel), gB_mem (k := 27) (by decide +kernel) (by decide +kernel), by decide +kernel, by decide +kernel, by decide +kernel⟩
theorem imX2_enter : Cond.instanceMethod yX2_enter ∈ gB := gB_mem (k := 450) (by decide +kernel) (by decide +kernel)
theorem seX2_enter : Cond.selects RX2 yX2_enter yX2_enter ∈ gB := gB_mem (k := 7) (by decide +kernel) (by decide +kernel)
abbrev fX2_init : gF := (yX2_init, cX2_init, 2, none, 1, 20)
theorem mX2_init : gMi fX2_init 1 := ⟨gB_mem (k := 122) (by decide +kernel) (by decide +kernel), gB_mem (k := 27) (by decide +kernel) (by decide +kernel), by decide +kernel, by decide +kernel, by decide +kernel⟩
theorem imX2_init : Cond.instanceMethod yX2_init ∈ gB := gB_mem (k := 121) (by decide +kernel) (by decide +kernel)
abbrev fX2_isStiff : gF := (yX2_isStiff, cX2_isStiff, 4, some .boolean, 1, 23)
theorem mX2_isStiff : gMi fX2_isStiff 2 := ⟨gB_mem (k := 497) (by decide +kernel) (by decide +kernel), gB_mem (k := 27) (by decide +kernel) (by decide +kernel), by decide +kernel, by decide +kernel, by decide +kernel⟩
theorem imX2_isStiff : Cond.instanceMethod yX2_isStiff ∈ gB := gB_mem (k := 495) (by decide +kernel) (by decide +kernel)
theorem seX2_isStiff : Cond.selects RX2 yX2_isStiff yX2_isStiff ∈ gB := gB_mem (k := 496) (by decide +kernel) (by decide +kernel)
abbrev fX2_itemAt : gF := (yX2_itemAt, cX2_itemAt, 2, some .int, 0, 0)
theorem mX2_itemAt : gMi fX2_itemAt 1 := ⟨gB_mem (k := 688) (by decide +kernel) (by decide +kernel), gB_mem (k := 27) (by decide +kernel) (by decide +kernel), by decide +kernel, by decide +kernel, by decide +kernel⟩
theorem imX2_itemAt : Cond.instanceMethod yX2_itemAt ∈ gB := gB_mem (k := 686) (by decide +kernel) (by decide +kernel)
theorem seX2_itemAt : Cond.selects RX2 yX2_itemAt yX2_itemAt ∈ gB := gB_mem (k := 687) (by decide +kernel) (by decide +kernel)
abbrev fX2_outerWish : gF := (yX2_outerWish, cX2_outerWish, 2, some .int, 0, 0)
theorem mX2_outerWish : gMi fX2_outerWish 1 := ⟨gB_mem (k := 477) (by decide +kernel) (by decide +kernel), gB_mem (k := 27) (by decide +kernel) (by decide +kernel), by decide +kernel, by decide +kernel, by decide +kernel⟩
theorem imX2_outerWish : Cond.instanceMethod yX2_outerWish ∈ gB := gB_mem (k := 475) (by decide +kernel) (by decide +kernel)
theorem seX2_outerWish : Cond.selects RX2 yX2_outerWish yX2_outerWish ∈ gB := gB_mem (k := 476) (by decide +kernel) (by decide +kernel)
abbrev fX2_placeOf : gF := (yX2_placeOf, cX2_placeOf, 3, some .int, 0, 0)
theorem mX2_placeOf : gMi fX2_placeOf 1 := ⟨gB_mem (k := 559) (by decide +kernel) (by decide +kernel), gB_mem (k := 27) (by decide +kernel) (by decide +kernel), by decide +kernel, by decide +kernel, by decide +kernel⟩
theorem imX2_placeOf : Cond.instanceMethod yX2_placeOf ∈ gB := gB_mem (k := 557) (by decide +kernel) (by decide +kernel)
theorem seX2_placeOf : Cond.selects RX2 yX2_placeOf yX2_placeOf ∈ gB := gB_mem (k := 558) (by decide +kernel) (by decide +kernel)
abbrev fX2_sort : gF := (yX2_sort, cX2_sort, 3, none, 3, 65)
theorem mX2_sort : gMi fX2_sort 0 := ⟨gB_mem (k := 446) (by decide +kernel) (by decide +kernel), gB_mem (k := 27) (by decide +kernel) (by decide +kernel), by decide +kernel, by decide +kernel, by decide +kernel⟩
theorem imX2_sort : Cond.instanceMethod yX2_sort ∈ gB := gB_mem (k := 444) (by decide +kernel) (by decide +kernel)
theorem seX2_sort : Cond.selects RX2 yX2_sort yX2_sort ∈ gB := gB_mem (k := 445) (by decide +kernel) (by decide +kernel)
abbrev fX2_weight : gF := (yX2_weight, cX2_weight, 4, some .int, 1, 23)
theorem mX2_weight : gMi fX2_weight 2 := ⟨gB_mem (k := 509) (by decide +kernel) (by decide +kernel), gB_mem (k := 27) (by decide +kernel) (by decide +kernel), by decide +kernel, by decide +kernel, by decide +kernel⟩
theorem imX2_weight : Cond.instanceMethod yX2_weight ∈ gB := gB_mem (k := 507) (by decide +kernel) (by decide +kernel)
theorem seX2_weight : Cond.selects RX2 yX2_weight yX2_weight ∈ gB := gB_mem (k := 508) (by decide +kernel) (by decide +kernel)
abbrev fX3_end : gF := (yX3_end, cX3_end, 2, some .int, 0, 0)
theorem mX3_end : gMi fX3_end 1 := ⟨gB_mem (k := 584) (by decide +kernel) (by decide +kernel), gB_mem (k := 29) (by decide +kernel) (by decide +kernel), by decide +kernel, by decide +kernel, by decide +kernel⟩
theorem imX3_end : Cond.instanceMethod yX3_end ∈ gB := gB_mem (k := 582) (by decide +kernel) (by decide +kernel)
theorem seX3_end : Cond.selects RX3 yX3_end yX3_end ∈ gB := gB_mem (k := 583) (by decide +kernel) (by decide +kernel)
abbrev fX3_find : gF := (yX3_find, cX3_find, 3, none, 4, 98)
theorem mX3_find : gMi fX3_find 0 := ⟨gB_mem (k := 525) (by decide +kernel) (by decide +kernel), gB_mem (k := 29) (by decide +kernel) (by decide +kernel), by decide +kernel, by decide +kernel, by decide +kernel⟩
theorem imX3_find : Cond.instanceMethod yX3_find ∈ gB := gB_mem (k := 523) (by decide +kernel) (by decide +kernel)
theorem seX3_find : Cond.selects RX3 yX3_find yX3_find ∈ gB := gB_mem (k := 524) (by decide +kernel) (by decide +kernel)
abbrev fX3_init : gF := (yX3_init, cX3_init, 4, none, 1, 20)
theorem mX3_init : gMi fX3_init 3 := ⟨gB_mem (k := 220) (by decide +kernel) (by decide +kernel), gB_mem (k := 29) (by decide +kernel) (by decide +kernel), by decide +kernel, by decide +kernel, by decide +kernel⟩
theorem imX3_init : Cond.instanceMethod yX3_init ∈ gB := gB_mem (k := 219) (by decide +kernel) (by decide +kernel)
abbrev fX3_lowered : gF := (yX3_lowered, cX3_lowered, 5, some .int, 2, 45)
theorem mX3_lowered : gMi fX3_lowered 3 := ⟨gB_mem (k := 555) (by decide +kernel) (by decide +kernel), gB_mem (k := 29) (by decide +kernel) (by decide +kernel), by decide +kernel, by decide +kernel, by decide +kernel⟩
theorem imX3_lowered : Cond.instanceMethod yX3_lowered ∈ gB := gB_mem (k := 554) (by decide +kernel) (by decide +kernel)
theorem seX3_lowered : Cond.selects RX3 yX3_lowered yX3_lowered ∈ gB := gB_mem (k := 16) (by decide +kernel) (by decide +kernel)
abbrev fX3_setAcross : gF := (yX3_setAcross, cX3_setAcross, 10, none, 3, 69)
theorem mX3_setAcross : gMi fX3_setAcross 2 := ⟨gB_mem (k := 540) (by decide +kernel) (by decide +kernel), gB_mem (k := 29) (by decide +kernel) (by decide +kernel), by decide +kernel, by decide +kernel, by decide +kernel⟩
theorem imX3_setAcross : Cond.instanceMethod yX3_setAcross ∈ gB := gB_mem (k := 539) (by decide +kernel) (by decide +kernel)
theorem seX3_setAcross : Cond.selects RX3 yX3_setAcross yX3_setAcross ∈ gB := gB_mem (k := 15) (by decide +kernel) (by decide +kernel)
abbrev fX3_setAlong : gF := (yX3_setAlong, cX3_setAlong, 10, none, 2, 46)
theorem mX3_setAlong : gMi fX3_setAlong 1 := ⟨gB_mem (k := 529) (by decide +kernel) (by decide +kernel), gB_mem (k := 29) (by decide +kernel) (by decide +kernel), by decide +kernel, by decide +kernel, by decide +kernel⟩
theorem imX3_setAlong : Cond.instanceMethod yX3_setAlong ∈ gB := gB_mem (k := 528) (by decide +kernel) (by decide +kernel)
theorem seX3_setAlong : Cond.selects RX3 yX3_setAlong yX3_setAlong ∈ gB := gB_mem (k := 13) (by decide +kernel) (by decide +kernel)
abbrev fX3_shift : gF := (yX3_shift, cX3_shift, 5, some .int, 1, 22)
theorem mX3_shift : gMi fX3_shift 3 := ⟨gB_mem (k := 535) (by decide +kernel) (by decide +kernel), gB_mem (k := 29) (by decide +kernel) (by decide +kernel), by decide +kernel, by decide +kernel, by decide +kernel⟩
theorem imX3_shift : Cond.instanceMethod yX3_shift ∈ gB := gB_mem (k := 534) (by decide +kernel) (by decide +kernel)
theorem seX3_shift : Cond.selects RX3 yX3_shift yX3_shift ∈ gB := gB_mem (k := 14) (by decide +kernel) (by decide +kernel)
abbrev fX4_above : gF := (yX4_above, cX4_above, 2, some .int, 1, 23)
theorem mX4_above : gMi fX4_above 1 := ⟨gB_mem (k := 551) (by decide +kernel) (by decide +kernel), gB_mem (k := 24) (by decide +kernel) (by decide +kernel), by decide +kernel, by decide +kernel, by decide +kernel⟩
theorem imX4_above : Cond.instanceMethod yX4_above ∈ gB := gB_mem (k := 549) (by decide +kernel) (by decide +kernel)
theorem seX4_above : Cond.selects RX4 yX4_above yX4_above ∈ gB := gB_mem (k := 550) (by decide +kernel) (by decide +kernel)
abbrev fX4_append : gF := (yX4_append, cX4_append, 3, none, 1, 23)
theorem mX4_append : gMi fX4_append 1 := ⟨gB_mem (k := 396) (by decide +kernel) (by decide +kernel), gB_mem (k := 24) (by decide +kernel) (by decide +kernel), by decide +kernel, by decide +kernel, by decide +kernel⟩
theorem imX4_append : Cond.instanceMethod yX4_append ∈ gB := gB_mem (k := 394) (by decide +kernel) (by decide +kernel)
theorem seX4_append : Cond.selects RX4 yX4_append yX4_append ∈ gB := gB_mem (k := 395) (by decide +kernel) (by decide +kernel)
abbrev fX4_carry : gF := (yX4_carry, cX4_carry, 4, none, 2, 47)
theorem mX4_carry : gMi fX4_carry 2 := ⟨gB_mem (k := 404) (by decide +kernel) (by decide +kernel), gB_mem (k := 24) (by decide +kernel) (by decide +kernel), by decide +kernel, by decide +kernel, by decide +kernel⟩
theorem imX4_carry : Cond.instanceMethod yX4_carry ∈ gB := gB_mem (k := 402) (by decide +kernel) (by decide +kernel)
theorem seX4_carry : Cond.selects RX4 yX4_carry yX4_carry ∈ gB := gB_mem (k := 403) (by decide +kernel) (by decide +kernel)
abbrev fX4_greatest : gF := (yX4_greatest, cX4_greatest, 2, some .int, 1, 23)
theorem mX4_greatest : gMi fX4_greatest 1 := ⟨gB_mem (k := 455) (by decide +kernel) (by decide +kernel), gB_mem (k := 24) (by decide +kernel) (by decide +kernel), by decide +kernel, by decide +kernel, by decide +kernel⟩
theorem imX4_greatest : Cond.instanceMethod yX4_greatest ∈ gB := gB_mem (k := 453) (by decide +kernel) (by decide +kernel)
theorem seX4_greatest : Cond.selects RX4 yX4_greatest yX4_greatest ∈ gB := gB_mem (k := 454) (by decide +kernel) (by decide +kernel)
abbrev fX4_has : gF := (yX4_has, cX4_has, 2, some .boolean, 0, 0)
theorem mX4_has : gMi fX4_has 1 := ⟨gB_mem (k := 420) (by decide +kernel) (by decide +kernel), gB_mem (k := 24) (by decide +kernel) (by decide +kernel), by decide +kernel, by decide +kernel, by decide +kernel⟩
theorem imX4_has : Cond.instanceMethod yX4_has ∈ gB := gB_mem (k := 418) (by decide +kernel) (by decide +kernel)
theorem seX4_has : Cond.selects RX4 yX4_has yX4_has ∈ gB := gB_mem (k := 419) (by decide +kernel) (by decide +kernel)
abbrev fX4_init : gF := (yX4_init, cX4_init, 1, none, 1, 26)
theorem mX4_init : gMi fX4_init 0 := ⟨gB_mem (k := 73) (by decide +kernel) (by decide +kernel), gB_mem (k := 24) (by decide +kernel) (by decide +kernel), by decide +kernel, by decide +kernel, by decide +kernel⟩
theorem imX4_init : Cond.instanceMethod yX4_init ∈ gB := gB_mem (k := 72) (by decide +kernel) (by decide +kernel)
abbrev fX4_number : gF := (yX4_number, cX4_number, 2, some .int, 0, 0)
theorem mX4_number : gMi fX4_number 1 := ⟨gB_mem (k := 468) (by decide +kernel) (by decide +kernel), gB_mem (k := 24) (by decide +kernel) (by decide +kernel), by decide +kernel, by decide +kernel, by decide +kernel⟩
theorem imX4_number : Cond.instanceMethod yX4_number ∈ gB := gB_mem (k := 466) (by decide +kernel) (by decide +kernel)
theorem seX4_number : Cond.selects RX4 yX4_number yX4_number ∈ gB := gB_mem (k := 467) (by decide +kernel) (by decide +kernel)
abbrev fX4_property : gF := (yX4_property, cX4_property, 4, some .int, 0, 0)
theorem mX4_property : gMi fX4_property 2 := ⟨gB_mem (k := 412) (by decide +kernel) (by decide +kernel), gB_mem (k := 24) (by decide +kernel) (by decide +kernel), by decide +kernel, by decide +kernel, by decide +kernel⟩
theorem imX4_property : Cond.instanceMethod yX4_property ∈ gB := gB_mem (k := 410) (by decide +kernel) (by decide +kernel)
theorem seX4_property : Cond.selects RX4 yX4_property yX4_property ∈ gB := gB_mem (k := 411) (by decide +kernel) (by decide +kernel)
abbrev fX4_put : gF := (yX4_put, cX4_put, 4, none, 0, 0)
theorem mX4_put : gMi fX4_put 3 := ⟨gB_mem (k := 400) (by decide +kernel) (by decide +kernel), gB_mem (k := 24) (by decide +kernel) (by decide +kernel), by decide +kernel, by decide +kernel, by decide +kernel⟩
theorem imX4_put : Cond.instanceMethod yX4_put ∈ gB := gB_mem (k := 398) (by decide +kernel) (by decide +kernel)
theorem seX4_put : Cond.selects RX4 yX4_put yX4_put ∈ gB := gB_mem (k := 399) (by decide +kernel) (by decide +kernel)
abbrev fX4_setNumber : gF := (yX4_setNumber, cX4_setNumber, 3, none, 0, 0)
theorem mX4_setNumber : gMi fX4_setNumber 2 := ⟨gB_mem (k := 666) (by decide +kernel) (by decide +kernel), gB_mem (k := 24) (by decide +kernel) (by decide +kernel), by decide +kernel, by decide +kernel, by decide +kernel⟩
theorem imX4_setNumber : Cond.instanceMethod yX4_setNumber ∈ gB := gB_mem (k := 664) (by decide +kernel) (by decide +kernel)
theorem seX4_setNumber : Cond.selects RX4 yX4_setNumber yX4_setNumber ∈ gB := gB_mem (k := 665) (by decide +kernel) (by decide +kernel)
abbrev fX4_swap : gF := (yX4_swap, cX4_swap, 5, none, 1, 23)
theorem mX4_swap : gMi fX4_swap 2 := ⟨gB_mem (k := 408) (by decide +kernel) (by decide +kernel), gB_mem (k := 24) (by decide +kernel) (by decide +kernel), by decide +kernel, by decide +kernel, by decide +kernel⟩
theorem imX4_swap : Cond.instanceMethod yX4_swap ∈ gB := gB_mem (k := 407) (by decide +kernel) (by decide +kernel)
theorem seX4_swap : Cond.selects RX4 yX4_swap yX4_swap ∈ gB := gB_mem (k := 5) (by decide +kernel) (by decide +kernel)
abbrev fX4_wayAcross : gF := (yX4_wayAcross, cX4_wayAcross, 3, some .int, 1, 23)
theorem mX4_wayAcross : gMi fX4_wayAcross 1 := ⟨gB_mem (k := 546) (by decide +kernel) (by decide +kernel), gB_mem (k := 24) (by decide +kernel) (by decide +kernel), by decide +kernel, by decide +kernel, by decide +kernel⟩
theorem imX4_wayAcross : Cond.instanceMethod yX4_wayAcross ∈ gB := gB_mem (k := 544) (by decide +kernel) (by decide +kernel)
theorem seX4_wayAcross : Cond.selects RX4 yX4_wayAcross yX4_wayAcross ∈ gB := gB_mem (k := 545) (by decide +kernel) (by decide +kernel)
abbrev fX4_wish : gF := (yX4_wish, cX4_wish, 2, some .int, 2, 44)
theorem mX4_wish : gMi fX4_wish 1 := ⟨gB_mem (k := 462) (by decide +kernel) (by decide +kernel), gB_mem (k := 24) (by decide +kernel) (by decide +kernel), by decide +kernel, by decide +kernel, by decide +kernel⟩
theorem imX4_wish : Cond.instanceMethod yX4_wish ∈ gB := gB_mem (k := 460) (by decide +kernel) (by decide +kernel)
theorem seX4_wish : Cond.selects RX4 yX4_wish yX4_wish ∈ gB := gB_mem (k := 461) (by decide +kernel) (by decide +kernel)
abbrev fX5_append : gF := (yX5_append, cX5_append, 2, some .boolean, 0, 0)
theorem mX5_append : gMi fX5_append 1 := ⟨gB_mem (k := 623) (by decide +kernel) (by decide +kernel), gB_mem (k := 23) (by decide +kernel) (by decide +kernel), by decide +kernel, by decide +kernel, by decide +kernel⟩
theorem imX5_append : Cond.instanceMethod yX5_append ∈ gB := gB_mem (k := 621) (by decide +kernel) (by decide +kernel)
theorem seX5_append : Cond.selects RX5 yX5_append yX5_append ∈ gB := gB_mem (k := 622) (by decide +kernel) (by decide +kernel)
abbrev fX5_byteAt : gF := (yX5_byteAt, cX5_byteAt, 2, some .int, 0, 0)
theorem mX5_byteAt : gMi fX5_byteAt 1 := ⟨gB_mem (k := 299) (by decide +kernel) (by decide +kernel), gB_mem (k := 23) (by decide +kernel) (by decide +kernel), by decide +kernel, by decide +kernel, by decide +kernel⟩
theorem imX5_byteAt : Cond.instanceMethod yX5_byteAt ∈ gB := gB_mem (k := 297) (by decide +kernel) (by decide +kernel)
theorem seX5_byteAt : Cond.selects RX5 yX5_byteAt yX5_byteAt ∈ gB := gB_mem (k := 298) (by decide +kernel) (by decide +kernel)
