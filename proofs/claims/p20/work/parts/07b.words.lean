theorem gf_X1_45 : gFL RX1 45 1 11 := ⟨RX1, TX1, 12, gcl1, by decide, gB_mem (k := 189) (by decide +kernel) (by decide +kernel)⟩
theorem gp_X1_45 : gFP RX1 45 1 11 .int false := ⟨RX1, TX1, 12, gcl1, by decide, gB_mem (k := 189) (by decide +kernel) (by decide +kernel), rfl, by decide +kernel, fun h => by cases h⟩
theorem gf_X1_49 : gFL RX1 49 1 0 := ⟨RX1, TX1, 12, gcl1, by decide, gB_mem (k := 166) (by decide +kernel) (by decide +kernel)⟩
theorem gp_X1_49 : gFP RX1 49 1 0 .int false := ⟨RX1, TX1, 12, gcl1, by decide, gB_mem (k := 166) (by decide +kernel) (by decide +kernel), rfl, by decide +kernel, fun h => by cases h⟩
theorem gf_X1_57 : gFL RX1 57 2 0 := ⟨RX2, TX2, 8, gcl2, by decide, gB_mem (k := 125) (by decide +kernel) (by decide +kernel)⟩
theorem gf_X1_72 : gFL RX1 72 2 5 := ⟨RX2, TX2, 8, gcl2, by decide, gB_mem (k := 138) (by decide +kernel) (by decide +kernel)⟩
theorem gf_X1_75 : gFL RX1 75 2 6 := ⟨RX2, TX2, 8, gcl2, by decide, gB_mem (k := 140) (by decide +kernel) (by decide +kernel)⟩
theorem gf_X1_98 : gFL RX1 98 2 2 := ⟨RX2, TX2, 8, gcl2, by decide, gB_mem (k := 131) (by decide +kernel) (by decide +kernel)⟩
theorem gf_X1_118 : gFL RX1 118 2 3 := ⟨RX2, TX2, 8, gcl2, by decide, gB_mem (k := 133) (by decide +kernel) (by decide +kernel)⟩
theorem gf_X1_121 : gFL RX1 121 2 4 := ⟨RX2, TX2, 8, gcl2, by decide, gB_mem (k := 135) (by decide +kernel) (by decide +kernel)⟩
theorem gf_X2_9 : gFL RX2 9 2 1 := ⟨RX2, TX2, 8, gcl2, by decide, gB_mem (k := 127) (by decide +kernel) (by decide +kernel)⟩
theorem gp_X2_9 : gFP RX2 9 2 1 (.array .int) true := ⟨RX2, TX2, 8, gcl2, by decide, gB_mem (k := 127) (by decide +kernel) (by decide +kernel), rfl, by decide +kernel, fun _ => rfl⟩
theorem gf_X2_15 : gFL RX2 15 2 2 := ⟨RX2, TX2, 8, gcl2, by decide, gB_mem (k := 130) (by decide +kernel) (by decide +kernel)⟩
theorem gp_X2_15 : gFP RX2 15 2 2 (.array .int) true := ⟨RX2, TX2, 8, gcl2, by decide, gB_mem (k := 130) (by decide +kernel) (by decide +kernel), rfl, by decide +kernel, fun _ => rfl⟩
theorem gf_X2_18 : gFL RX2 18 2 3 := ⟨RX2, TX2, 8, gcl2, by decide, gB_mem (k := 132) (by decide +kernel) (by decide +kernel)⟩
theorem gp_X2_18 : gFP RX2 18 2 3 (.array .int) true := ⟨RX2, TX2, 8, gcl2, by decide, gB_mem (k := 132) (by decide +kernel) (by decide +kernel), rfl, by decide +kernel, fun _ => rfl⟩
theorem gf_X2_21 : gFL RX2 21 2 4 := ⟨RX2, TX2, 8, gcl2, by decide, gB_mem (k := 134) (by decide +kernel) (by decide +kernel)⟩
theorem gp_X2_21 : gFP RX2 21 2 4 (.array .int) true := ⟨RX2, TX2, 8, gcl2, by decide, gB_mem (k := 134) (by decide +kernel) (by decide +kernel), rfl, by decide +kernel, fun _ => rfl⟩
theorem gf_X2_24 : gFL RX2 24 2 5 := ⟨RX2, TX2, 8, gcl2, by decide, gB_mem (k := 136) (by decide +kernel) (by decide +kernel)⟩
theorem gp_X2_24 : gFP RX2 24 2 5 (.array .int) true := ⟨RX2, TX2, 8, gcl2, by decide, gB_mem (k := 136) (by decide +kernel) (by decide +kernel), rfl, by decide +kernel, fun _ => rfl⟩
theorem gf_X2_27 : gFL RX2 27 2 6 := ⟨RX2, TX2, 8, gcl2, by decide, gB_mem (k := 139) (by decide +kernel) (by decide +kernel)⟩
theorem gp_X2_27 : gFP RX2 27 2 6 (.array .int) true := ⟨RX2, TX2, 8, gcl2, by decide, gB_mem (k := 139) (by decide +kernel) (by decide +kernel), rfl, by decide +kernel, fun _ => rfl⟩
theorem gf_X2_30 : gFL RX2 30 2 7 := ⟨RX2, TX2, 8, gcl2, by decide, gB_mem (k := 142) (by decide +kernel) (by decide +kernel)⟩
theorem gp_X2_30 : gFP RX2 30 2 7 (.object "FlexRows$State") true := ⟨RX2, TX2, 8, gcl2, by decide, gB_mem (k := 142) (by decide +kernel) (by decide +kernel), rfl, by decide +kernel, fun _ => rfl⟩
theorem gf_X2_34 : gFL RX2 34 2 0 := ⟨RX2, TX2, 8, gcl2, by decide, gB_mem (k := 124) (by decide +kernel) (by decide +kernel)⟩
theorem gp_X2_34 : gFP RX2 34 2 0 .int false := ⟨RX2, TX2, 8, gcl2, by decide, gB_mem (k := 124) (by decide +kernel) (by decide +kernel), rfl, by decide +kernel, fun h => by cases h⟩
theorem gf_X2_38 : gFL RX2 38 4 0 := ⟨RX4, TX4, 3, gcl4, by decide, gB_mem (k := 81) (by decide +kernel) (by decide +kernel)⟩
theorem gf_X3_9 : gFL RX3 9 3 1 := ⟨RX3, TX3, 8, gcl3, by decide, gB_mem (k := 224) (by decide +kernel) (by decide +kernel)⟩
theorem gp_X3_9 : gFP RX3 9 3 1 (.array .int) true := ⟨RX3, TX3, 8, gcl3, by decide, gB_mem (k := 224) (by decide +kernel) (by decide +kernel), rfl, by decide +kernel, fun _ => rfl⟩
theorem gf_X3_15 : gFL RX3 15 3 2 := ⟨RX3, TX3, 8, gcl3, by decide, gB_mem (k := 226) (by decide +kernel) (by decide +kernel)⟩
theorem gp_X3_15 : gFP RX3 15 3 2 (.array .int) true := ⟨RX3, TX3, 8, gcl3, by decide, gB_mem (k := 226) (by decide +kernel) (by decide +kernel), rfl, by decide +kernel, fun _ => rfl⟩
theorem gf_X3_18 : gFL RX3 18 3 3 := ⟨RX3, TX3, 8, gcl3, by decide, gB_mem (k := 228) (by decide +kernel) (by decide +kernel)⟩
theorem gp_X3_18 : gFP RX3 18 3 3 (.array .int) true := ⟨RX3, TX3, 8, gcl3, by decide, gB_mem (k := 228) (by decide +kernel) (by decide +kernel), rfl, by decide +kernel, fun _ => rfl⟩
theorem gf_X3_21 : gFL RX3 21 3 4 := ⟨RX3, TX3, 8, gcl3, by decide, gB_mem (k := 230) (by decide +kernel) (by decide +kernel)⟩
theorem gp_X3_21 : gFP RX3 21 3 4 (.array .int) true := ⟨RX3, TX3, 8, gcl3, by decide, gB_mem (k := 230) (by decide +kernel) (by decide +kernel), rfl, by decide +kernel, fun _ => rfl⟩
theorem gf_X3_24 : gFL RX3 24 3 5 := ⟨RX3, TX3, 8, gcl3, by decide, gB_mem (k := 232) (by decide +kernel) (by decide +kernel)⟩
theorem gp_X3_24 : gFP RX3 24 3 5 (.object "FlexRows$State") true := ⟨RX3, TX3, 8, gcl3, by decide, gB_mem (k := 232) (by decide +kernel) (by decide +kernel), rfl, by decide +kernel, fun _ => rfl⟩
theorem gf_X3_28 : gFL RX3 28 3 6 := ⟨RX3, TX3, 8, gcl3, by decide, gB_mem (k := 233) (by decide +kernel) (by decide +kernel)⟩
theorem gp_X3_28 : gFP RX3 28 3 6 (.object "FlexRows$Order") true := ⟨RX3, TX3, 8, gcl3, by decide, gB_mem (k := 233) (by decide +kernel) (by decide +kernel), rfl, by decide +kernel, fun _ => rfl⟩
theorem gf_X3_32 : gFL RX3 32 3 7 := ⟨RX3, TX3, 8, gcl3, by decide, gB_mem (k := 234) (by decide +kernel) (by decide +kernel)⟩
theorem gp_X3_32 : gFP RX3 32 3 7 (.object "FlexRows$Lines") true := ⟨RX3, TX3, 8, gcl3, by decide, gB_mem (k := 234) (by decide +kernel) (by decide +kernel), rfl, by decide +kernel, fun _ => rfl⟩
theorem gf_X3_36 : gFL RX3 36 3 0 := ⟨RX3, TX3, 8, gcl3, by decide, gB_mem (k := 222) (by decide +kernel) (by decide +kernel)⟩
theorem gp_X3_36 : gFP RX3 36 3 0 .int false := ⟨RX3, TX3, 8, gcl3, by decide, gB_mem (k := 222) (by decide +kernel) (by decide +kernel), rfl, by decide +kernel, fun h => by cases h⟩
theorem gf_X3_40 : gFL RX3 40 1 0 := ⟨RX1, TX1, 12, gcl1, by decide, gB_mem (k := 167) (by decide +kernel) (by decide +kernel)⟩
theorem gf_X3_58 : gFL RX3 58 1 6 := ⟨RX1, TX1, 12, gcl1, by decide, gB_mem (k := 182) (by decide +kernel) (by decide +kernel)⟩
theorem gf_X3_66 : gFL RX3 66 2 1 := ⟨RX2, TX2, 8, gcl2, by decide, gB_mem (k := 128) (by decide +kernel) (by decide +kernel)⟩
theorem gf_X3_76 : gFL RX3 76 1 1 := ⟨RX1, TX1, 12, gcl1, by decide, gB_mem (k := 170) (by decide +kernel) (by decide +kernel)⟩
theorem gf_X3_80 : gFL RX3 80 2 5 := ⟨RX2, TX2, 8, gcl2, by decide, gB_mem (k := 137) (by decide +kernel) (by decide +kernel)⟩
theorem gf_X3_83 : gFL RX3 83 1 3 := ⟨RX1, TX1, 12, gcl1, by decide, gB_mem (k := 175) (by decide +kernel) (by decide +kernel)⟩
theorem gf_X4_9 : gFL RX4 9 4 1 := ⟨RX4, TX4, 3, gcl4, by decide, gB_mem (k := 84) (by decide +kernel) (by decide +kernel)⟩
theorem gp_X4_9 : gFP RX4 9 4 1 (.array .int) true := ⟨RX4, TX4, 3, gcl4, by decide, gB_mem (k := 84) (by decide +kernel) (by decide +kernel), rfl, by decide +kernel, fun _ => rfl⟩
theorem gf_X4_15 : gFL RX4 15 4 2 := ⟨RX4, TX4, 3, gcl4, by decide, gB_mem (k := 86) (by decide +kernel) (by decide +kernel)⟩
theorem gp_X4_15 : gFP RX4 15 4 2 (.array .int) true := ⟨RX4, TX4, 3, gcl4, by decide, gB_mem (k := 86) (by decide +kernel) (by decide +kernel), rfl, by decide +kernel, fun _ => rfl⟩
theorem gf_X4_27 : gFL RX4 27 4 0 := ⟨RX4, TX4, 3, gcl4, by decide, gB_mem (k := 80) (by decide +kernel) (by decide +kernel)⟩
theorem gp_X4_27 : gFP RX4 27 4 0 .int false := ⟨RX4, TX4, 3, gcl4, by decide, gB_mem (k := 80) (by decide +kernel) (by decide +kernel), rfl, by decide +kernel, fun h => by cases h⟩
theorem gf_X5_9 : gFL RX5 9 5 0 := ⟨RX5, TX5, 5, gcl5, by decide, gB_mem (k := 49) (by decide +kernel) (by decide +kernel)⟩
theorem gp_X5_9 : gFP RX5 9 5 0 (.array .byte) true := ⟨RX5, TX5, 5, gcl5, by decide, gB_mem (k := 49) (by decide +kernel) (by decide +kernel), rfl, by decide +kernel, fun _ => rfl⟩
theorem gf_X5_15 : gFL RX5 15 5 1 := ⟨RX5, TX5, 5, gcl5, by decide, gB_mem (k := 50) (by decide +kernel) (by decide +kernel)⟩
theorem gp_X5_15 : gFP RX5 15 5 1 (.array .int) true := ⟨RX5, TX5, 5, gcl5, by decide, gB_mem (k := 50) (by decide +kernel) (by decide +kernel), rfl, by decide +kernel, fun _ => rfl⟩
theorem gf_X5_19 : gFL RX5 19 5 2 := ⟨RX5, TX5, 5, gcl5, by decide, gB_mem (k := 52) (by decide +kernel) (by decide +kernel)⟩
theorem gp_X5_19 : gFP RX5 19 5 2 .int false := ⟨RX5, TX5, 5, gcl5, by decide, gB_mem (k := 52) (by decide +kernel) (by decide +kernel), rfl, by decide +kernel, fun h => by cases h⟩
theorem gf_X5_32 : gFL RX5 32 5 3 := ⟨RX5, TX5, 5, gcl5, by decide, gB_mem (k := 54) (by decide +kernel) (by decide +kernel)⟩
theorem gp_X5_32 : gFP RX5 32 5 3 .int false := ⟨RX5, TX5, 5, gcl5, by decide, gB_mem (k := 54) (by decide +kernel) (by decide +kernel), rfl, by decide +kernel, fun h => by cases h⟩
theorem gf_X5_35 : gFL RX5 35 5 4 := ⟨RX5, TX5, 5, gcl5, by decide, gB_mem (k := 55) (by decide +kernel) (by decide +kernel)⟩
theorem gp_X5_35 : gFP RX5 35 5 4 .int false := ⟨RX5, TX5, 5, gcl5, by decide, gB_mem (k := 55) (by decide +kernel) (by decide +kernel), rfl, by decide +kernel, fun h => by cases h⟩
abbrev fJ0_charAt_5068e : gF := (yJ0_charAt_5068e, cJ0_charAt_5068e, 2, some .char, 4, 85)
theorem mJ0_charAt_5068e : gMi fJ0_charAt_5068e 1 := ⟨gB_mem (k := 343) (by decide +kernel) (by decide +kernel), gB_mem (k := 30) (by decide +kernel) (by decide +kernel), by decide +kernel, by decide +kernel, by decide +kernel⟩
theorem imJ0_charAt_5068e : Cond.instanceMethod yJ0_charAt_5068e ∈ gB := gB_mem (k := 341) (by decide +kernel) (by decide +kernel)
theorem seJ0_charAt_5068e : Cond.selects RJ0 yJ0_charAt_5068e yJ0_charAt_5068e ∈ gB := gB_mem (k := 342) (by decide +kernel) (by decide +kernel)
abbrev fJ0_checkIndex_df160 : gF := (yJ0_checkIndex_df160, cJ0_checkIndex_df160, 2, none, 1, 22)
theorem mJ0_checkIndex_df160 : gMi fJ0_checkIndex_df160 2 := ⟨gB_mem (k := 353) (by decide +kernel) (by decide +kernel), gB_mem (k := 30) (by decide +kernel) (by decide +kernel), by decide +kernel, by decide +kernel, by decide +kernel⟩
theorem smJ0_checkIndex_df160 : Cond.static yJ0_checkIndex_df160 ∈ gB := gB_mem (k := 352) (by decide +kernel) (by decide +kernel)
abbrev fJ0_coder_7d493 : gF := (yJ0_coder_7d493, cJ0_coder_7d493, 1, some .byte, 0, 0)
theorem mJ0_coder_7d493 : gMi fJ0_coder_7d493 0 := ⟨gB_mem (k := 337) (by decide +kernel) (by decide +kernel), gB_mem (k := 30) (by decide +kernel) (by decide +kernel), by decide +kernel, by decide +kernel, by decide +kernel⟩
theorem imJ0_coder_7d493 : Cond.instanceMethod yJ0_coder_7d493 ∈ gB := gB_mem (k := 335) (by decide +kernel) (by decide +kernel)
theorem seJ0_coder_7d493 : Cond.selects RJ0 yJ0_coder_7d493 yJ0_coder_7d493 ∈ gB := gB_mem (k := 336) (by decide +kernel) (by decide +kernel)
abbrev fJ0_isLatin1_aae02 : gF := (yJ0_isLatin1_aae02, cJ0_isLatin1_aae02, 1, some .boolean, 0, 0)
theorem mJ0_isLatin1_aae02 : gMi fJ0_isLatin1_aae02 0 := ⟨gB_mem (k := 347) (by decide +kernel) (by decide +kernel), gB_mem (k := 30) (by decide +kernel) (by decide +kernel), by decide +kernel, by decide +kernel, by decide +kernel⟩
theorem imJ0_isLatin1_aae02 : Cond.instanceMethod yJ0_isLatin1_aae02 ∈ gB := gB_mem (k := 345) (by decide +kernel) (by decide +kernel)
theorem seJ0_isLatin1_aae02 : Cond.selects RJ0 yJ0_isLatin1_aae02 yJ0_isLatin1_aae02 ∈ gB := gB_mem (k := 346) (by decide +kernel) (by decide +kernel)
abbrev fJ0_length_8abf5 : gF := (yJ0_length_8abf5, cJ0_length_8abf5, 1, some .int, 1, 20)
theorem mJ0_length_8abf5 : gMi fJ0_length_8abf5 0 := ⟨gB_mem (k := 333) (by decide +kernel) (by decide +kernel), gB_mem (k := 30) (by decide +kernel) (by decide +kernel), by decide +kernel, by decide +kernel, by decide +kernel⟩
theorem imJ0_length_8abf5 : Cond.instanceMethod yJ0_length_8abf5 ∈ gB := gB_mem (k := 331) (by decide +kernel) (by decide +kernel)
theorem seJ0_length_8abf5 : Cond.selects RJ0 yJ0_length_8abf5 yJ0_length_8abf5 ∈ gB := gB_mem (k := 332) (by decide +kernel) (by decide +kernel)
abbrev fJ1_charAt_3b067 : gF := (yJ1_charAt_3b067, cJ1_charAt_3b067, 2, some .char, 2, 43)
theorem mJ1_charAt_3b067 : gMi fJ1_charAt_3b067 2 := ⟨gB_mem (k := 350) (by decide +kernel) (by decide +kernel), gB_mem (k := 31) (by decide +kernel) (by decide +kernel), by decide +kernel, by decide +kernel, by decide +kernel⟩
theorem smJ1_charAt_3b067 : Cond.static yJ1_charAt_3b067 ∈ gB := gB_mem (k := 349) (by decide +kernel) (by decide +kernel)
abbrev fJ2_charAt_3b067 : gF := (yJ2_charAt_3b067, cJ2_charAt_3b067, 2, some .char, 3, 64)
theorem mJ2_charAt_3b067 : gMi fJ2_charAt_3b067 2 := ⟨gB_mem (k := 361) (by decide +kernel) (by decide +kernel), gB_mem (k := 33) (by decide +kernel) (by decide +kernel), by decide +kernel, by decide +kernel, by decide +kernel⟩
theorem smJ2_charAt_3b067 : Cond.static yJ2_charAt_3b067 ∈ gB := gB_mem (k := 360) (by decide +kernel) (by decide +kernel)
abbrev fJ2_checkIndex_2214a : gF := (yJ2_checkIndex_2214a, cJ2_checkIndex_2214a, 2, none, 2, 43)
theorem mJ2_checkIndex_2214a : gMi fJ2_checkIndex_2214a 2 := ⟨gB_mem (k := 364) (by decide +kernel) (by decide +kernel), gB_mem (k := 33) (by decide +kernel) (by decide +kernel), by decide +kernel, by decide +kernel, by decide +kernel⟩
theorem smJ2_checkIndex_2214a : Cond.static yJ2_checkIndex_2214a ∈ gB := gB_mem (k := 363) (by decide +kernel) (by decide +kernel)
abbrev fJ2_getChar_3b067 : gF := (yJ2_getChar_3b067, cJ2_getChar_3b067, 2, some .char, 1, 20)
theorem mJ2_getChar_3b067 : gMi fJ2_getChar_3b067 2 := ⟨gB_mem (k := 371) (by decide +kernel) (by decide +kernel), gB_mem (k := 33) (by decide +kernel) (by decide +kernel), by decide +kernel, by decide +kernel, by decide +kernel⟩
theorem smJ2_getChar_3b067 : Cond.static yJ2_getChar_3b067 ∈ gB := gB_mem (k := 370) (by decide +kernel) (by decide +kernel)
abbrev fJ2_length_9d52b : gF := (yJ2_length_9d52b, cJ2_length_9d52b, 1, some .int, 0, 0)
theorem mJ2_length_9d52b : gMi fJ2_length_9d52b 1 := ⟨gB_mem (k := 367) (by decide +kernel) (by decide +kernel), gB_mem (k := 33) (by decide +kernel) (by decide +kernel), by decide +kernel, by decide +kernel, by decide +kernel⟩
theorem smJ2_length_9d52b : Cond.static yJ2_length_9d52b ∈ gB := gB_mem (k := 366) (by decide +kernel) (by decide +kernel)
abbrev fJ3_checkIndex_8e157 : gF := (yJ3_checkIndex_8e157, cJ3_checkIndex_8e157, 3, some .int, 0, 0)
theorem mJ3_checkIndex_8e157 : gMi fJ3_checkIndex_8e157 3 := ⟨gB_mem (k := 358) (by decide +kernel) (by decide +kernel), gB_mem (k := 32) (by decide +kernel) (by decide +kernel), by decide +kernel, by decide +kernel, by decide +kernel⟩
theorem smJ3_checkIndex_8e157 : Cond.static yJ3_checkIndex_8e157 ∈ gB := gB_mem (k := 357) (by decide +kernel) (by decide +kernel)
abbrev fJ9_floorDiv_7cf53 : gF := (yJ9_floorDiv_7cf53, cJ9_floorDiv_7cf53, 3, some .int, 0, 0)
theorem mJ9_floorDiv_7cf53 : gMi fJ9_floorDiv_7cf53 2 := ⟨gB_mem (k := 516) (by decide +kernel) (by decide +kernel), gB_mem (k := 34) (by decide +kernel) (by decide +kernel), by decide +kernel, by decide +kernel, by decide +kernel⟩
theorem smJ9_floorDiv_7cf53 : Cond.static yJ9_floorDiv_7cf53 ∈ gB := gB_mem (k := 515) (by decide +kernel) (by decide +kernel)
abbrev fJ9_floorMod_7cf53 : gF := (yJ9_floorMod_7cf53, cJ9_floorMod_7cf53, 3, some .int, 0, 0)
theorem mJ9_floorMod_7cf53 : gMi fJ9_floorMod_7cf53 2 := ⟨gB_mem (k := 388) (by decide +kernel) (by decide +kernel), gB_mem (k := 34) (by decide +kernel) (by decide +kernel), by decide +kernel, by decide +kernel, by decide +kernel⟩
theorem smJ9_floorMod_7cf53 : Cond.static yJ9_floorMod_7cf53 ∈ gB := gB_mem (k := 387) (by decide +kernel) (by decide +kernel)
abbrev fJ9_max_7cf53 : gF := (yJ9_max_7cf53, cJ9_max_7cf53, 2, some .int, 0, 0)
theorem mJ9_max_7cf53 : gMi fJ9_max_7cf53 2 := ⟨gB_mem (k := 458) (by decide +kernel) (by decide +kernel), gB_mem (k := 34) (by decide +kernel) (by decide +kernel), by decide +kernel, by decide +kernel, by decide +kernel⟩
theorem smJ9_max_7cf53 : Cond.static yJ9_max_7cf53 ∈ gB := gB_mem (k := 457) (by decide +kernel) (by decide +kernel)
abbrev fJ9_min_7cf53 : gF := (yJ9_min_7cf53, cJ9_min_7cf53, 2, some .int, 0, 0)
theorem mJ9_min_7cf53 : gMi fJ9_min_7cf53 2 := ⟨gB_mem (k := 392) (by decide +kernel) (by decide +kernel), gB_mem (k := 34) (by decide +kernel) (by decide +kernel), by decide +kernel, by decide +kernel, by decide +kernel⟩
theorem smJ9_min_7cf53 : Cond.static yJ9_min_7cf53 ∈ gB := gB_mem (k := 391) (by decide +kernel) (by decide +kernel)
abbrev fL_areItems : gF := (yL_areItems, cL_areItems, 7, some .boolean, 7, 167)
theorem mL_areItems : gMi fL_areItems 4 := ⟨gB_mem (k := 675) (by decide +kernel) (by decide +kernel), gB_mem (k := 21) (by decide +kernel) (by decide +kernel), by decide +kernel, by decide +kernel, by decide +kernel⟩
theorem smL_areItems : Cond.static yL_areItems ∈ gB := gB_mem (k := 674) (by decide +kernel) (by decide +kernel)
abbrev fL_areSizes : gF := (yL_areSizes, cL_areSizes, 10, some .boolean, 7, 167)
theorem mL_areSizes : gMi fL_areSizes 4 := ⟨gB_mem (k := 691) (by decide +kernel) (by decide +kernel), gB_mem (k := 21) (by decide +kernel) (by decide +kernel), by decide +kernel, by decide +kernel, by decide +kernel⟩
theorem smL_areSizes : Cond.static yL_areSizes ∈ gB := gB_mem (k := 690) (by decide +kernel) (by decide +kernel)
abbrev fL_begins : gF := (yL_begins, cL_begins, 2, none, 0, 0)
theorem mL_begins : gMi fL_begins 1 := ⟨gB_mem (k := 596) (by decide +kernel) (by decide +kernel), gB_mem (k := 21) (by decide +kernel) (by decide +kernel), by decide +kernel, by decide +kernel, by decide +kernel⟩
theorem smL_begins : Cond.static yL_begins ∈ gB := gB_mem (k := 595) (by decide +kernel) (by decide +kernel)
abbrev fL_cell : gF := (yL_cell, cL_cell, 2, some .int, 0, 0)
theorem mL_cell : gMi fL_cell 2 := ⟨gB_mem (k := 588) (by decide +kernel) (by decide +kernel), gB_mem (k := 21) (by decide +kernel) (by decide +kernel), by decide +kernel, by decide +kernel, by decide +kernel⟩
theorem smL_cell : Cond.static yL_cell ∈ gB := gB_mem (k := 587) (by decide +kernel) (by decide +kernel)
abbrev fL_changes : gF := (yL_changes, cL_changes, 6, some .boolean, 4, 92)
theorem mL_changes : gMi fL_changes 4 := ⟨gB_mem (k := 642) (by decide +kernel) (by decide +kernel), gB_mem (k := 21) (by decide +kernel) (by decide +kernel), by decide +kernel, by decide +kernel, by decide +kernel⟩
theorem smL_changes : Cond.static yL_changes ∈ gB := gB_mem (k := 641) (by decide +kernel) (by decide +kernel)
abbrev fL_hides : gF := (yL_hides, cL_hides, 3, some .boolean, 4, 90)
theorem mL_hides : gMi fL_hides 3 := ⟨gB_mem (k := 651) (by decide +kernel) (by decide +kernel), gB_mem (k := 21) (by decide +kernel) (by decide +kernel), by decide +kernel, by decide +kernel, by decide +kernel⟩
theorem smL_hides : Cond.static yL_hides ∈ gB := gB_mem (k := 650) (by decide +kernel) (by decide +kernel)
abbrev fL_inserts : gF := (yL_inserts, cL_inserts, 8, some .boolean, 9, 197)
theorem mL_inserts : gMi fL_inserts 5 := ⟨gB_mem (k := 599) (by decide +kernel) (by decide +kernel), gB_mem (k := 21) (by decide +kernel) (by decide +kernel), by decide +kernel, by decide +kernel, by decide +kernel⟩
theorem smL_inserts : Cond.static yL_inserts ∈ gB := gB_mem (k := 598) (by decide +kernel) (by decide +kernel)
abbrev fL_law : gF := (yL_law, cL_law, maxLocals, ret, 12, 448)
abbrev fL_least : gF := (yL_least, cL_least, 1, some .int, 0, 0)
theorem mL_least : gMi fL_least 1 := ⟨gB_mem (k := 605) (by decide +kernel) (by decide +kernel), gB_mem (k := 21) (by decide +kernel) (by decide +kernel), by decide +kernel, by decide +kernel, by decide +kernel⟩
theorem smL_least : Cond.static yL_least ∈ gB := gB_mem (k := 604) (by decide +kernel) (by decide +kernel)
abbrev fL_low : gF := (yL_low, cL_low, 2, some .int, 0, 0)
theorem mL_low : gMi fL_low 2 := ⟨gB_mem (k := 592) (by decide +kernel) (by decide +kernel), gB_mem (k := 21) (by decide +kernel) (by decide +kernel), by decide +kernel, by decide +kernel, by decide +kernel⟩
theorem smL_low : Cond.static yL_low ∈ gB := gB_mem (k := 591) (by decide +kernel) (by decide +kernel)
abbrev fL_most : gF := (yL_most, cL_most, 1, some .int, 0, 0)
theorem mL_most : gMi fL_most 1 := ⟨gB_mem (k := 608) (by decide +kernel) (by decide +kernel), gB_mem (k := 21) (by decide +kernel) (by decide +kernel), by decide +kernel, by decide +kernel, by decide +kernel⟩
theorem smL_most : Cond.static yL_most ∈ gB := gB_mem (k := 607) (by decide +kernel) (by decide +kernel)
abbrev fL_orders : gF := (yL_orders, cL_orders, 8, none, 1, 22)
theorem mL_orders : gMi fL_orders 3 := ⟨gB_mem (k := 669) (by decide +kernel) (by decide +kernel), gB_mem (k := 21) (by decide +kernel) (by decide +kernel), by decide +kernel, by decide +kernel, by decide +kernel⟩
theorem smL_orders : Cond.static yL_orders ∈ gB := gB_mem (k := 668) (by decide +kernel) (by decide +kernel)
abbrev fL_sets : gF := (yL_sets, cL_sets, 6, some .boolean, 4, 91)
theorem mL_sets : gMi fL_sets 3 := ⟨gB_mem (k := 654) (by decide +kernel) (by decide +kernel), gB_mem (k := 21) (by decide +kernel) (by decide +kernel), by decide +kernel, by decide +kernel, by decide +kernel⟩
theorem smL_sets : Cond.static yL_sets ∈ gB := gB_mem (k := 653) (by decide +kernel) (by decide +kernel)
abbrev fL_shares : gF := (yL_shares, cL_shares, 24, none, 1, 22)
set_option maxRecDepth 100000 in
theorem mL_shares : gMi fL_shares 5 := ⟨gB_mem (k := 694) rfl (by decide +kernel), gB_mem (k := 21) (by decide +kernel) (by decide +kernel), by decide +kernel, by decide +kernel, by decide +kernel⟩
theorem smL_shares : Cond.static yL_shares ∈ gB := gB_mem (k := 693) (by decide +kernel) (by decide +kernel)
abbrev fL_spells : gF := (yL_spells, cL_spells, 6, some .boolean, 2, 42)
theorem mL_spells : gMi fL_spells 2 := ⟨gB_mem (k := 638) (by decide +kernel) (by decide +kernel), gB_mem (k := 21) (by decide +kernel) (by decide +kernel), by decide +kernel, by decide +kernel, by decide +kernel⟩
theorem smL_spells : Cond.static yL_spells ∈ gB := gB_mem (k := 637) (by decide +kernel) (by decide +kernel)
abbrev fL_typesNumber : gF := (yL_typesNumber, cL_typesNumber, 4, some .boolean, 2, 42)
theorem mL_typesNumber : gMi fL_typesNumber 2 := ⟨gB_mem (k := 615) (by decide +kernel) (by decide +kernel), gB_mem (k := 21) (by decide +kernel) (by decide +kernel), by decide +kernel, by decide +kernel, by decide +kernel⟩
theorem smL_typesNumber : Cond.static yL_typesNumber ∈ gB := gB_mem (k := 614) (by decide +kernel) (by decide +kernel)
abbrev fL_value : gF := (yL_value, cL_value, 2, some .int, 1, 21)
theorem mL_value : gMi fL_value 2 := ⟨gB_mem (k := 602) (by decide +kernel) (by decide +kernel), gB_mem (k := 21) (by decide +kernel) (by decide +kernel), by decide +kernel, by decide +kernel, by decide +kernel⟩
theorem smL_value : Cond.static yL_value ∈ gB := gB_mem (k := 601) (by decide +kernel) (by decide +kernel)
abbrev fL_wish : gF := (yL_wish, cL_wish, 3, some .int, 0, 0)
theorem mL_wish : gMi fL_wish 2 := ⟨gB_mem (k := 672) (by decide +kernel) (by decide +kernel), gB_mem (k := 21) (by decide +kernel) (by decide +kernel), by decide +kernel, by decide +kernel, by decide +kernel⟩
theorem smL_wish : Cond.static yL_wish ∈ gB := gB_mem (k := 671) (by decide +kernel) (by decide +kernel)
abbrev fL_word : gF := (yL_word, cL_word, 1, some .long, 0, 0)
theorem mL_word : gMi fL_word 1 := ⟨gB_mem (k := 626) (by decide +kernel) (by decide +kernel), gB_mem (k := 21) (by decide +kernel) (by decide +kernel), by decide +kernel, by decide +kernel, by decide +kernel⟩
theorem smL_word : Cond.static yL_word ∈ gB := gB_mem (k := 625) (by decide +kernel) (by decide +kernel)
