theorem gclw0 : ∀ w ∈ u_ws RX0 TX0 5, w ∈ gB := by
  intro w h
  obtain ⟨k, hk, rfl⟩ := List.mem_map.mp h
  have hk := List.mem_range.mp hk
  rcases (show k = 0 ∨ k = 1 ∨ k = 2 ∨ k = 3 ∨ k = 4 by omega) with rfl | rfl | rfl | rfl | rfl
  · exact gB_mem (k := 148) (by decide +kernel) (by decide +kernel)
  · exact gB_mem (k := 150) (by decide +kernel) (by decide +kernel)
  · exact gB_mem (k := 152) (by decide +kernel) (by decide +kernel)
  · exact gB_mem (k := 154) (by decide +kernel) (by decide +kernel)
  · exact gB_mem (k := 156) (by decide +kernel) (by decide +kernel)
theorem gcl0 : gCl 0 RX0 TX0 5 := ⟨rfl, gclw0, by decide +kernel, nmX0, tyX0, fun k hk => ⟨tyX0_ok k hk, (show ∀ k, k < 5 → defaultValue (tyX0 k) = (match gfk 0 k with
  | 0 => .int 0
  | 1 => .null
  | _ => .long 0) by decide +kernel) k hk⟩⟩
theorem gclw1 : ∀ w ∈ u_ws RX1 TX1 12, w ∈ gB := by
  intro w h
  obtain ⟨k, hk, rfl⟩ := List.mem_map.mp h
  have hk := List.mem_range.mp hk
  rcases (show k = 0 ∨ k = 1 ∨ k = 2 ∨ k = 3 ∨ k = 4 ∨ k = 5 ∨ k = 6 ∨ k = 7 ∨ k = 8 ∨ k = 9 ∨ k = 10 ∨ k = 11 by omega) with rfl | rfl | rfl | rfl | rfl | rfl | rfl | rfl | rfl | rfl | rfl | rfl
  · exact gB_mem (k := 232) (by decide +kernel) (by decide +kernel)
  · exact gB_mem (k := 234) (by decide +kernel) (by decide +kernel)
  · exact gB_mem (k := 236) (by decide +kernel) (by decide +kernel)
  · exact gB_mem (k := 238) (by decide +kernel) (by decide +kernel)
  · exact gB_mem (k := 240) (by decide +kernel) (by decide +kernel)
  · exact gB_mem (k := 242) (by decide +kernel) (by decide +kernel)
  · exact gB_mem (k := 244) (by decide +kernel) (by decide +kernel)
  · exact gB_mem (k := 246) (by decide +kernel) (by decide +kernel)
  · exact gB_mem (k := 248) (by decide +kernel) (by decide +kernel)
  · exact gB_mem (k := 250) (by decide +kernel) (by decide +kernel)
  · exact gB_mem (k := 252) (by decide +kernel) (by decide +kernel)
  · exact gB_mem (k := 254) (by decide +kernel) (by decide +kernel)
theorem gcl1 : gCl 1 RX1 TX1 12 := ⟨rfl, gclw1, by decide +kernel, nmX1, tyX1, fun k hk => ⟨tyX1_ok k hk, (show ∀ k, k < 12 → defaultValue (tyX1 k) = (match gfk 1 k with
  | 0 => .int 0
  | 1 => .null
  | _ => .long 0) by decide +kernel) k hk⟩⟩
theorem gclw2 : ∀ w ∈ u_ws RX2 TX2 8, w ∈ gB := by
  intro w h
  obtain ⟨k, hk, rfl⟩ := List.mem_map.mp h
  have hk := List.mem_range.mp hk
  rcases (show k = 0 ∨ k = 1 ∨ k = 2 ∨ k = 3 ∨ k = 4 ∨ k = 5 ∨ k = 6 ∨ k = 7 by omega) with rfl | rfl | rfl | rfl | rfl | rfl | rfl | rfl
  · exact gB_mem (k := 185) (by decide +kernel) (by decide +kernel)
  · exact gB_mem (k := 187) (by decide +kernel) (by decide +kernel)
  · exact gB_mem (k := 189) (by decide +kernel) (by decide +kernel)
  · exact gB_mem (k := 191) (by decide +kernel) (by decide +kernel)
  · exact gB_mem (k := 193) (by decide +kernel) (by decide +kernel)
  · exact gB_mem (k := 195) (by decide +kernel) (by decide +kernel)
  · exact gB_mem (k := 197) (by decide +kernel) (by decide +kernel)
  · exact gB_mem (k := 199) (by decide +kernel) (by decide +kernel)
theorem gcl2 : gCl 2 RX2 TX2 8 := ⟨rfl, gclw2, by decide +kernel, nmX2, tyX2, fun k hk => ⟨tyX2_ok k hk, (show ∀ k, k < 8 → defaultValue (tyX2 k) = (match gfk 2 k with
  | 0 => .int 0
  | 1 => .null
  | _ => .long 0) by decide +kernel) k hk⟩⟩
theorem gclw3 : ∀ w ∈ u_ws RX3 TX3 8, w ∈ gB := by
  intro w h
  obtain ⟨k, hk, rfl⟩ := List.mem_map.mp h
  have hk := List.mem_range.mp hk
  rcases (show k = 0 ∨ k = 1 ∨ k = 2 ∨ k = 3 ∨ k = 4 ∨ k = 5 ∨ k = 6 ∨ k = 7 by omega) with rfl | rfl | rfl | rfl | rfl | rfl | rfl | rfl
  · exact gB_mem (k := 277) (by decide +kernel) (by decide +kernel)
  · exact gB_mem (k := 279) (by decide +kernel) (by decide +kernel)
  · exact gB_mem (k := 281) (by decide +kernel) (by decide +kernel)
  · exact gB_mem (k := 283) (by decide +kernel) (by decide +kernel)
  · exact gB_mem (k := 285) (by decide +kernel) (by decide +kernel)
  · exact gB_mem (k := 287) (by decide +kernel) (by decide +kernel)
  · exact gB_mem (k := 289) (by decide +kernel) (by decide +kernel)
  · exact gB_mem (k := 291) (by decide +kernel) (by decide +kernel)
theorem gcl3 : gCl 3 RX3 TX3 8 := ⟨rfl, gclw3, by decide +kernel, nmX3, tyX3, fun k hk => ⟨tyX3_ok k hk, (show ∀ k, k < 8 → defaultValue (tyX3 k) = (match gfk 3 k with
  | 0 => .int 0
  | 1 => .null
  | _ => .long 0) by decide +kernel) k hk⟩⟩
theorem gclw4 : ∀ w ∈ u_ws RX4 TX4 3, w ∈ gB := by
  intro w h
  obtain ⟨k, hk, rfl⟩ := List.mem_map.mp h
  have hk := List.mem_range.mp hk
  rcases (show k = 0 ∨ k = 1 ∨ k = 2 by omega) with rfl | rfl | rfl
  · exact gB_mem (k := 129) (by decide +kernel) (by decide +kernel)
  · exact gB_mem (k := 131) (by decide +kernel) (by decide +kernel)
  · exact gB_mem (k := 133) (by decide +kernel) (by decide +kernel)
theorem gcl4 : gCl 4 RX4 TX4 3 := ⟨rfl, gclw4, by decide +kernel, nmX4, tyX4, fun k hk => ⟨tyX4_ok k hk, (show ∀ k, k < 3 → defaultValue (tyX4 k) = (match gfk 4 k with
  | 0 => .int 0
  | 1 => .null
  | _ => .long 0) by decide +kernel) k hk⟩⟩
theorem gclw5 : ∀ w ∈ u_ws RX5 TX5 5, w ∈ gB := by
  intro w h
  obtain ⟨k, hk, rfl⟩ := List.mem_map.mp h
  have hk := List.mem_range.mp hk
  rcases (show k = 0 ∨ k = 1 ∨ k = 2 ∨ k = 3 ∨ k = 4 by omega) with rfl | rfl | rfl | rfl | rfl
  · exact gB_mem (k := 97) (by decide +kernel) (by decide +kernel)
  · exact gB_mem (k := 99) (by decide +kernel) (by decide +kernel)
  · exact gB_mem (k := 101) (by decide +kernel) (by decide +kernel)
  · exact gB_mem (k := 103) (by decide +kernel) (by decide +kernel)
  · exact gB_mem (k := 105) (by decide +kernel) (by decide +kernel)
theorem gcl5 : gCl 5 RX5 TX5 5 := ⟨rfl, gclw5, by decide +kernel, nmX5, tyX5, fun k hk => ⟨tyX5_ok k hk, (show ∀ k, k < 5 → defaultValue (tyX5 k) = (match gfk 5 k with
  | 0 => .int 0
  | 1 => .null
  | _ => .long 0) by decide +kernel) k hk⟩⟩
theorem gclw6 : ∀ w ∈ u_ws RX6 TX6 8, w ∈ gB := by
  intro w h
  obtain ⟨k, hk, rfl⟩ := List.mem_map.mp h
  have hk := List.mem_range.mp hk
  rcases (show k = 0 ∨ k = 1 ∨ k = 2 ∨ k = 3 ∨ k = 4 ∨ k = 5 ∨ k = 6 ∨ k = 7 by omega) with rfl | rfl | rfl | rfl | rfl | rfl | rfl | rfl
  · exact gB_mem (k := 302) (by decide +kernel) (by decide +kernel)
  · exact gB_mem (k := 304) (by decide +kernel) (by decide +kernel)
  · exact gB_mem (k := 306) (by decide +kernel) (by decide +kernel)
  · exact gB_mem (k := 308) (by decide +kernel) (by decide +kernel)
  · exact gB_mem (k := 310) (by decide +kernel) (by decide +kernel)
  · exact gB_mem (k := 312) (by decide +kernel) (by decide +kernel)
  · exact gB_mem (k := 314) (by decide +kernel) (by decide +kernel)
  · exact gB_mem (k := 316) (by decide +kernel) (by decide +kernel)
theorem gcl6 : gCl 6 RX6 TX6 8 := ⟨rfl, gclw6, by decide +kernel, nmX6, tyX6, fun k hk => ⟨tyX6_ok k hk, (show ∀ k, k < 8 → defaultValue (tyX6 k) = (match gfk 6 k with
  | 0 => .int 0
  | 1 => .null
  | _ => .long 0) by decide +kernel) k hk⟩⟩
theorem gclw7 : ∀ w ∈ u_ws RX7 TX7 27, w ∈ gB := by
  intro w h
  obtain ⟨k, hk, rfl⟩ := List.mem_map.mp h
  have hk := List.mem_range.mp hk
  rcases (show k = 0 ∨ k = 1 ∨ k = 2 ∨ k = 3 ∨ k = 4 ∨ k = 5 ∨ k = 6 ∨ k = 7 ∨ k = 8 ∨ k = 9 ∨ k = 10 ∨ k = 11 ∨ k = 12 ∨ k = 13 ∨ k = 14 ∨ k = 15 ∨ k = 16 ∨ k = 17 ∨ k = 18 ∨ k = 19 ∨ k = 20 ∨ k = 21 ∨ k = 22 ∨ k = 23 ∨ k = 24 ∨ k = 25 ∨ k = 26 by omega) with rfl | rfl | rfl | rfl | rfl | rfl | rfl | rfl | rfl | rfl | rfl | rfl | rfl | rfl | rfl | rfl | rfl | rfl | rfl | rfl | rfl | rfl | rfl | rfl | rfl | rfl | rfl
  · exact gB_mem (k := 745) (by decide +kernel) (by decide +kernel)
  · exact gB_mem (k := 747) (by decide +kernel) (by decide +kernel)
  · exact gB_mem (k := 749) (by decide +kernel) (by decide +kernel)
  · exact gB_mem (k := 751) (by decide +kernel) (by decide +kernel)
  · exact gB_mem (k := 753) (by decide +kernel) (by decide +kernel)
  · exact gB_mem (k := 755) (by decide +kernel) (by decide +kernel)
  · exact gB_mem (k := 757) (by decide +kernel) (by decide +kernel)
  · exact gB_mem (k := 759) (by decide +kernel) (by decide +kernel)
  · exact gB_mem (k := 761) (by decide +kernel) (by decide +kernel)
  · exact gB_mem (k := 763) (by decide +kernel) (by decide +kernel)
  · exact gB_mem (k := 765) (by decide +kernel) (by decide +kernel)
  · exact gB_mem (k := 767) (by decide +kernel) (by decide +kernel)
  · exact gB_mem (k := 769) (by decide +kernel) (by decide +kernel)
  · exact gB_mem (k := 771) (by decide +kernel) (by decide +kernel)
  · exact gB_mem (k := 773) (by decide +kernel) (by decide +kernel)
  · exact gB_mem (k := 775) (by decide +kernel) (by decide +kernel)
  · exact gB_mem (k := 777) (by decide +kernel) (by decide +kernel)
  · exact gB_mem (k := 779) (by decide +kernel) (by decide +kernel)
  · exact gB_mem (k := 781) (by decide +kernel) (by decide +kernel)
  · exact gB_mem (k := 783) (by decide +kernel) (by decide +kernel)
  · exact gB_mem (k := 785) (by decide +kernel) (by decide +kernel)
  · exact gB_mem (k := 787) (by decide +kernel) (by decide +kernel)
  · exact gB_mem (k := 789) (by decide +kernel) (by decide +kernel)
  · exact gB_mem (k := 791) (by decide +kernel) (by decide +kernel)
  · exact gB_mem (k := 793) (by decide +kernel) (by decide +kernel)
  · exact gB_mem (k := 795) (by decide +kernel) (by decide +kernel)
  · exact gB_mem (k := 797) (by decide +kernel) (by decide +kernel)
theorem gcl7 : gCl 7 RX7 TX7 27 := ⟨rfl, gclw7, by decide +kernel, nmX7, tyX7, fun k hk => ⟨tyX7_ok k hk, (show ∀ k, k < 27 → defaultValue (tyX7 k) = (match gfk 7 k with
  | 0 => .int 0
  | 1 => .null
  | _ => .long 0) by decide +kernel) k hk⟩⟩
theorem gf_X6_10 : gFL RX6 10 6 0 := ⟨RX6, TX6, 8, gcl6, by decide, gB_mem (k := 294) (by decide +kernel) (by decide +kernel)⟩
theorem gp_X6_10 : gFP RX6 10 6 0 (.object "FlexRows$Text") true := ⟨RX6, TX6, 8, gcl6, by decide, gB_mem (k := 294) (by decide +kernel) (by decide +kernel), rfl, by decide +kernel, fun _ => rfl⟩
theorem gf_X6_19 : gFL RX6 19 6 1 := ⟨RX6, TX6, 8, gcl6, by decide, gB_mem (k := 295) (by decide +kernel) (by decide +kernel)⟩
theorem gp_X6_19 : gFP RX6 19 6 1 (.object "FlexRows$State") true := ⟨RX6, TX6, 8, gcl6, by decide, gB_mem (k := 295) (by decide +kernel) (by decide +kernel), rfl, by decide +kernel, fun _ => rfl⟩
theorem gf_X6_26 : gFL RX6 26 6 2 := ⟨RX6, TX6, 8, gcl6, by decide, gB_mem (k := 296) (by decide +kernel) (by decide +kernel)⟩
theorem gp_X6_26 : gFP RX6 26 6 2 (.object "FlexRows$History") true := ⟨RX6, TX6, 8, gcl6, by decide, gB_mem (k := 296) (by decide +kernel) (by decide +kernel), rfl, by decide +kernel, fun _ => rfl⟩
theorem gf_X6_35 : gFL RX6 35 6 3 := ⟨RX6, TX6, 8, gcl6, by decide, gB_mem (k := 297) (by decide +kernel) (by decide +kernel)⟩
theorem gp_X6_35 : gFP RX6 35 6 3 (.object "FlexRows$Order") true := ⟨RX6, TX6, 8, gcl6, by decide, gB_mem (k := 297) (by decide +kernel) (by decide +kernel), rfl, by decide +kernel, fun _ => rfl⟩
theorem gf_X6_44 : gFL RX6 44 6 4 := ⟨RX6, TX6, 8, gcl6, by decide, gB_mem (k := 298) (by decide +kernel) (by decide +kernel)⟩
theorem gp_X6_44 : gFP RX6 44 6 4 (.object "FlexRows$Lines") true := ⟨RX6, TX6, 8, gcl6, by decide, gB_mem (k := 298) (by decide +kernel) (by decide +kernel), rfl, by decide +kernel, fun _ => rfl⟩
theorem gf_X6_53 : gFL RX6 53 6 5 := ⟨RX6, TX6, 8, gcl6, by decide, gB_mem (k := 299) (by decide +kernel) (by decide +kernel)⟩
theorem gp_X6_53 : gFP RX6 53 6 5 (.object "FlexRows$Places") true := ⟨RX6, TX6, 8, gcl6, by decide, gB_mem (k := 299) (by decide +kernel) (by decide +kernel), rfl, by decide +kernel, fun _ => rfl⟩
theorem gf_X6_57 : gFL RX6 57 6 6 := ⟨RX6, TX6, 8, gcl6, by decide, gB_mem (k := 300) (by decide +kernel) (by decide +kernel)⟩
theorem gp_X6_57 : gFP RX6 57 6 6 (.object "FlexRows$Lines") true := ⟨RX6, TX6, 8, gcl6, by decide, gB_mem (k := 300) (by decide +kernel) (by decide +kernel), rfl, by decide +kernel, fun _ => rfl⟩
theorem gf_X6_60 : gFL RX6 60 6 7 := ⟨RX6, TX6, 8, gcl6, by decide, gB_mem (k := 301) (by decide +kernel) (by decide +kernel)⟩
theorem gp_X6_60 : gFP RX6 60 6 7 .boolean false := ⟨RX6, TX6, 8, gcl6, by decide, gB_mem (k := 301) (by decide +kernel) (by decide +kernel), rfl, by decide +kernel, fun h => by cases h⟩
theorem gf_X6_68 : gFL RX6 68 5 2 := ⟨RX5, TX5, 5, gcl5, by decide, gB_mem (k := 94) (by decide +kernel) (by decide +kernel)⟩
theorem gp_X6_68 : gFP RX6 68 5 2 .int false := ⟨RX5, TX5, 5, gcl5, by decide, gB_mem (k := 94) (by decide +kernel) (by decide +kernel), rfl, by decide +kernel, fun h => by cases h⟩
theorem gf_X6_72 : gFL RX6 72 4 0 := ⟨RX4, TX4, 3, gcl4, by decide, gB_mem (k := 124) (by decide +kernel) (by decide +kernel)⟩
theorem gp_X6_72 : gFP RX6 72 4 0 .int false := ⟨RX4, TX4, 3, gcl4, by decide, gB_mem (k := 124) (by decide +kernel) (by decide +kernel), rfl, by decide +kernel, fun h => by cases h⟩
theorem gf_X6_82 : gFL RX6 82 5 1 := ⟨RX5, TX5, 5, gcl5, by decide, gB_mem (k := 92) (by decide +kernel) (by decide +kernel)⟩
theorem gf_X6_129 : gFL RX6 129 0 0 := ⟨RX0, TX0, 5, gcl0, by decide, gB_mem (k := 143) (by decide +kernel) (by decide +kernel)⟩
theorem gf_X6_141 : gFL RX6 141 2 0 := ⟨RX2, TX2, 8, gcl2, by decide, gB_mem (k := 168) (by decide +kernel) (by decide +kernel)⟩
theorem gf_X6_147 : gFL RX6 147 1 0 := ⟨RX1, TX1, 12, gcl1, by decide, gB_mem (k := 210) (by decide +kernel) (by decide +kernel)⟩
theorem gf_X6_190 : gFL RX6 190 2 1 := ⟨RX2, TX2, 8, gcl2, by decide, gB_mem (k := 171) (by decide +kernel) (by decide +kernel)⟩
theorem gf_X6_195 : gFL RX6 195 3 1 := ⟨RX3, TX3, 8, gcl3, by decide, gB_mem (k := 267) (by decide +kernel) (by decide +kernel)⟩
theorem gf_X6_198 : gFL RX6 198 1 6 := ⟨RX1, TX1, 12, gcl1, by decide, gB_mem (k := 225) (by decide +kernel) (by decide +kernel)⟩
theorem gf_X6_201 : gFL RX6 201 3 2 := ⟨RX3, TX3, 8, gcl3, by decide, gB_mem (k := 269) (by decide +kernel) (by decide +kernel)⟩
theorem gf_X6_207 : gFL RX6 207 2 6 := ⟨RX2, TX2, 8, gcl2, by decide, gB_mem (k := 183) (by decide +kernel) (by decide +kernel)⟩
theorem gf_X6_209 : gFL RX6 209 1 7 := ⟨RX1, TX1, 12, gcl1, by decide, gB_mem (k := 227) (by decide +kernel) (by decide +kernel)⟩
theorem gf_X6_215 : gFL RX6 215 1 1 := ⟨RX1, TX1, 12, gcl1, by decide, gB_mem (k := 213) (by decide +kernel) (by decide +kernel)⟩
theorem gf_X6_218 : gFL RX6 218 3 3 := ⟨RX3, TX3, 8, gcl3, by decide, gB_mem (k := 271) (by decide +kernel) (by decide +kernel)⟩
theorem gf_X6_221 : gFL RX6 221 3 4 := ⟨RX3, TX3, 8, gcl3, by decide, gB_mem (k := 273) (by decide +kernel) (by decide +kernel)⟩
theorem gf_X6_224 : gFL RX6 224 1 3 := ⟨RX1, TX1, 12, gcl1, by decide, gB_mem (k := 218) (by decide +kernel) (by decide +kernel)⟩
theorem gf_X6_227 : gFL RX6 227 1 5 := ⟨RX1, TX1, 12, gcl1, by decide, gB_mem (k := 222) (by decide +kernel) (by decide +kernel)⟩
theorem gf_X6_231 : gFL RX6 231 1 4 := ⟨RX1, TX1, 12, gcl1, by decide, gB_mem (k := 220) (by decide +kernel) (by decide +kernel)⟩
theorem gf_X6_234 : gFL RX6 234 1 2 := ⟨RX1, TX1, 12, gcl1, by decide, gB_mem (k := 215) (by decide +kernel) (by decide +kernel)⟩
theorem gf_X6_237 : gFL RX6 237 3 0 := ⟨RX3, TX3, 8, gcl3, by decide, gB_mem (k := 265) (by decide +kernel) (by decide +kernel)⟩
theorem gf_X0_9 : gFL RX0 9 0 2 := ⟨RX0, TX0, 5, gcl0, by decide, gB_mem (k := 145) (by decide +kernel) (by decide +kernel)⟩
theorem gp_X0_9 : gFP RX0 9 0 2 (.array .int) true := ⟨RX0, TX0, 5, gcl0, by decide, gB_mem (k := 145) (by decide +kernel) (by decide +kernel), rfl, by decide +kernel, fun _ => rfl⟩
theorem gf_X0_15 : gFL RX0 15 0 3 := ⟨RX0, TX0, 5, gcl0, by decide, gB_mem (k := 146) (by decide +kernel) (by decide +kernel)⟩
theorem gp_X0_15 : gFP RX0 15 0 3 (.array .int) true := ⟨RX0, TX0, 5, gcl0, by decide, gB_mem (k := 146) (by decide +kernel) (by decide +kernel), rfl, by decide +kernel, fun _ => rfl⟩
theorem gf_X0_18 : gFL RX0 18 0 4 := ⟨RX0, TX0, 5, gcl0, by decide, gB_mem (k := 147) (by decide +kernel) (by decide +kernel)⟩
theorem gp_X0_18 : gFP RX0 18 0 4 (.array .int) true := ⟨RX0, TX0, 5, gcl0, by decide, gB_mem (k := 147) (by decide +kernel) (by decide +kernel), rfl, by decide +kernel, fun _ => rfl⟩
theorem gf_X0_21 : gFL RX0 21 0 1 := ⟨RX0, TX0, 5, gcl0, by decide, gB_mem (k := 144) (by decide +kernel) (by decide +kernel)⟩
theorem gp_X0_21 : gFP RX0 21 0 1 .int false := ⟨RX0, TX0, 5, gcl0, by decide, gB_mem (k := 144) (by decide +kernel) (by decide +kernel), rfl, by decide +kernel, fun h => by cases h⟩
theorem gf_X0_31 : gFL RX0 31 4 0 := ⟨RX4, TX4, 3, gcl4, by decide, gB_mem (k := 123) (by decide +kernel) (by decide +kernel)⟩
theorem gp_X0_31 : gFP RX0 31 4 0 .int false := ⟨RX4, TX4, 3, gcl4, by decide, gB_mem (k := 123) (by decide +kernel) (by decide +kernel), rfl, by decide +kernel, fun h => by cases h⟩
theorem gf_X0_35 : gFL RX0 35 4 1 := ⟨RX4, TX4, 3, gcl4, by decide, gB_mem (k := 126) (by decide +kernel) (by decide +kernel)⟩
theorem gf_X0_44 : gFL RX0 44 4 2 := ⟨RX4, TX4, 3, gcl4, by decide, gB_mem (k := 128) (by decide +kernel) (by decide +kernel)⟩
theorem gf_X0_45 : gFL RX0 45 0 0 := ⟨RX0, TX0, 5, gcl0, by decide, gB_mem (k := 142) (by decide +kernel) (by decide +kernel)⟩
theorem gp_X0_45 : gFP RX0 45 0 0 .int false := ⟨RX0, TX0, 5, gcl0, by decide, gB_mem (k := 142) (by decide +kernel) (by decide +kernel), rfl, by decide +kernel, fun h => by cases h⟩
theorem gf_X1_9 : gFL RX1 9 1 1 := ⟨RX1, TX1, 12, gcl1, by decide, gB_mem (k := 211) (by decide +kernel) (by decide +kernel)⟩
theorem gp_X1_9 : gFP RX1 9 1 1 (.array .int) true := ⟨RX1, TX1, 12, gcl1, by decide, gB_mem (k := 211) (by decide +kernel) (by decide +kernel), rfl, by decide +kernel, fun _ => rfl⟩
theorem gf_X1_15 : gFL RX1 15 1 2 := ⟨RX1, TX1, 12, gcl1, by decide, gB_mem (k := 214) (by decide +kernel) (by decide +kernel)⟩
theorem gp_X1_15 : gFP RX1 15 1 2 (.array .int) true := ⟨RX1, TX1, 12, gcl1, by decide, gB_mem (k := 214) (by decide +kernel) (by decide +kernel), rfl, by decide +kernel, fun _ => rfl⟩
theorem gf_X1_18 : gFL RX1 18 1 3 := ⟨RX1, TX1, 12, gcl1, by decide, gB_mem (k := 216) (by decide +kernel) (by decide +kernel)⟩
theorem gp_X1_18 : gFP RX1 18 1 3 (.array .int) true := ⟨RX1, TX1, 12, gcl1, by decide, gB_mem (k := 216) (by decide +kernel) (by decide +kernel), rfl, by decide +kernel, fun _ => rfl⟩
theorem gf_X1_21 : gFL RX1 21 1 4 := ⟨RX1, TX1, 12, gcl1, by decide, gB_mem (k := 219) (by decide +kernel) (by decide +kernel)⟩
theorem gp_X1_21 : gFP RX1 21 1 4 (.array .int) true := ⟨RX1, TX1, 12, gcl1, by decide, gB_mem (k := 219) (by decide +kernel) (by decide +kernel), rfl, by decide +kernel, fun _ => rfl⟩
theorem gf_X1_24 : gFL RX1 24 1 5 := ⟨RX1, TX1, 12, gcl1, by decide, gB_mem (k := 221) (by decide +kernel) (by decide +kernel)⟩
theorem gp_X1_24 : gFP RX1 24 1 5 (.array .boolean) true := ⟨RX1, TX1, 12, gcl1, by decide, gB_mem (k := 221) (by decide +kernel) (by decide +kernel), rfl, by decide +kernel, fun _ => rfl⟩
theorem gf_X1_28 : gFL RX1 28 1 6 := ⟨RX1, TX1, 12, gcl1, by decide, gB_mem (k := 223) (by decide +kernel) (by decide +kernel)⟩
theorem gp_X1_28 : gFP RX1 28 1 6 (.array .int) true := ⟨RX1, TX1, 12, gcl1, by decide, gB_mem (k := 223) (by decide +kernel) (by decide +kernel), rfl, by decide +kernel, fun _ => rfl⟩
theorem gf_X1_31 : gFL RX1 31 1 7 := ⟨RX1, TX1, 12, gcl1, by decide, gB_mem (k := 226) (by decide +kernel) (by decide +kernel)⟩
theorem gp_X1_31 : gFP RX1 31 1 7 (.array .int) true := ⟨RX1, TX1, 12, gcl1, by decide, gB_mem (k := 226) (by decide +kernel) (by decide +kernel), rfl, by decide +kernel, fun _ => rfl⟩
theorem gf_X1_34 : gFL RX1 34 1 8 := ⟨RX1, TX1, 12, gcl1, by decide, gB_mem (k := 228) (by decide +kernel) (by decide +kernel)⟩
theorem gp_X1_34 : gFP RX1 34 1 8 (.array .int) true := ⟨RX1, TX1, 12, gcl1, by decide, gB_mem (k := 228) (by decide +kernel) (by decide +kernel), rfl, by decide +kernel, fun _ => rfl⟩
theorem gf_X1_37 : gFL RX1 37 1 9 := ⟨RX1, TX1, 12, gcl1, by decide, gB_mem (k := 229) (by decide +kernel) (by decide +kernel)⟩
theorem gp_X1_37 : gFP RX1 37 1 9 (.object "FlexRows$State") true := ⟨RX1, TX1, 12, gcl1, by decide, gB_mem (k := 229) (by decide +kernel) (by decide +kernel), rfl, by decide +kernel, fun _ => rfl⟩
theorem gf_X1_41 : gFL RX1 41 1 10 := ⟨RX1, TX1, 12, gcl1, by decide, gB_mem (k := 230) (by decide +kernel) (by decide +kernel)⟩
theorem gp_X1_41 : gFP RX1 41 1 10 (.object "FlexRows$Order") true := ⟨RX1, TX1, 12, gcl1, by decide, gB_mem (k := 230) (by decide +kernel) (by decide +kernel), rfl, by decide +kernel, fun _ => rfl⟩
theorem gf_X1_45 : gFL RX1 45 1 11 := ⟨RX1, TX1, 12, gcl1, by decide, gB_mem (k := 231) (by decide +kernel) (by decide +kernel)⟩
theorem gp_X1_45 : gFP RX1 45 1 11 .int false := ⟨RX1, TX1, 12, gcl1, by decide, gB_mem (k := 231) (by decide +kernel) (by decide +kernel), rfl, by decide +kernel, fun h => by cases h⟩
theorem gf_X1_49 : gFL RX1 49 1 0 := ⟨RX1, TX1, 12, gcl1, by decide, gB_mem (k := 208) (by decide +kernel) (by decide +kernel)⟩
theorem gp_X1_49 : gFP RX1 49 1 0 .int false := ⟨RX1, TX1, 12, gcl1, by decide, gB_mem (k := 208) (by decide +kernel) (by decide +kernel), rfl, by decide +kernel, fun h => by cases h⟩
theorem gf_X1_57 : gFL RX1 57 2 0 := ⟨RX2, TX2, 8, gcl2, by decide, gB_mem (k := 166) (by decide +kernel) (by decide +kernel)⟩
theorem gf_X1_72 : gFL RX1 72 2 5 := ⟨RX2, TX2, 8, gcl2, by decide, gB_mem (k := 180) (by decide +kernel) (by decide +kernel)⟩
theorem gf_X1_75 : gFL RX1 75 2 6 := ⟨RX2, TX2, 8, gcl2, by decide, gB_mem (k := 182) (by decide +kernel) (by decide +kernel)⟩
theorem gf_X1_98 : gFL RX1 98 2 2 := ⟨RX2, TX2, 8, gcl2, by decide, gB_mem (k := 173) (by decide +kernel) (by decide +kernel)⟩
theorem gf_X1_118 : gFL RX1 118 2 3 := ⟨RX2, TX2, 8, gcl2, by decide, gB_mem (k := 175) (by decide +kernel) (by decide +kernel)⟩
theorem gf_X1_121 : gFL RX1 121 2 4 := ⟨RX2, TX2, 8, gcl2, by decide, gB_mem (k := 177) (by decide +kernel) (by decide +kernel)⟩
theorem gf_X2_9 : gFL RX2 9 2 1 := ⟨RX2, TX2, 8, gcl2, by decide, gB_mem (k := 169) (by decide +kernel) (by decide +kernel)⟩
theorem gp_X2_9 : gFP RX2 9 2 1 (.array .int) true := ⟨RX2, TX2, 8, gcl2, by decide, gB_mem (k := 169) (by decide +kernel) (by decide +kernel), rfl, by decide +kernel, fun _ => rfl⟩
theorem gf_X2_15 : gFL RX2 15 2 2 := ⟨RX2, TX2, 8, gcl2, by decide, gB_mem (k := 172) (by decide +kernel) (by decide +kernel)⟩
theorem gp_X2_15 : gFP RX2 15 2 2 (.array .int) true := ⟨RX2, TX2, 8, gcl2, by decide, gB_mem (k := 172) (by decide +kernel) (by decide +kernel), rfl, by decide +kernel, fun _ => rfl⟩
theorem gf_X2_18 : gFL RX2 18 2 3 := ⟨RX2, TX2, 8, gcl2, by decide, gB_mem (k := 174) (by decide +kernel) (by decide +kernel)⟩
theorem gp_X2_18 : gFP RX2 18 2 3 (.array .int) true := ⟨RX2, TX2, 8, gcl2, by decide, gB_mem (k := 174) (by decide +kernel) (by decide +kernel), rfl, by decide +kernel, fun _ => rfl⟩
theorem gf_X2_21 : gFL RX2 21 2 4 := ⟨RX2, TX2, 8, gcl2, by decide, gB_mem (k := 176) (by decide +kernel) (by decide +kernel)⟩
theorem gp_X2_21 : gFP RX2 21 2 4 (.array .int) true := ⟨RX2, TX2, 8, gcl2, by decide, gB_mem (k := 176) (by decide +kernel) (by decide +kernel), rfl, by decide +kernel, fun _ => rfl⟩
theorem gf_X2_24 : gFL RX2 24 2 5 := ⟨RX2, TX2, 8, gcl2, by decide, gB_mem (k := 178) (by decide +kernel) (by decide +kernel)⟩
theorem gp_X2_24 : gFP RX2 24 2 5 (.array .int) true := ⟨RX2, TX2, 8, gcl2, by decide, gB_mem (k := 178) (by decide +kernel) (by decide +kernel), rfl, by decide +kernel, fun _ => rfl⟩
theorem gf_X2_27 : gFL RX2 27 2 6 := ⟨RX2, TX2, 8, gcl2, by decide, gB_mem (k := 181) (by decide +kernel) (by decide +kernel)⟩
theorem gp_X2_27 : gFP RX2 27 2 6 (.array .int) true := ⟨RX2, TX2, 8, gcl2, by decide, gB_mem (k := 181) (by decide +kernel) (by decide +kernel), rfl, by decide +kernel, fun _ => rfl⟩
theorem gf_X2_30 : gFL RX2 30 2 7 := ⟨RX2, TX2, 8, gcl2, by decide, gB_mem (k := 184) (by decide +kernel) (by decide +kernel)⟩
theorem gp_X2_30 : gFP RX2 30 2 7 (.object "FlexRows$State") true := ⟨RX2, TX2, 8, gcl2, by decide, gB_mem (k := 184) (by decide +kernel) (by decide +kernel), rfl, by decide +kernel, fun _ => rfl⟩
theorem gf_X2_34 : gFL RX2 34 2 0 := ⟨RX2, TX2, 8, gcl2, by decide, gB_mem (k := 165) (by decide +kernel) (by decide +kernel)⟩
theorem gp_X2_34 : gFP RX2 34 2 0 .int false := ⟨RX2, TX2, 8, gcl2, by decide, gB_mem (k := 165) (by decide +kernel) (by decide +kernel), rfl, by decide +kernel, fun h => by cases h⟩
theorem gf_X2_38 : gFL RX2 38 4 0 := ⟨RX4, TX4, 3, gcl4, by decide, gB_mem (k := 122) (by decide +kernel) (by decide +kernel)⟩
theorem gf_X3_9 : gFL RX3 9 3 1 := ⟨RX3, TX3, 8, gcl3, by decide, gB_mem (k := 266) (by decide +kernel) (by decide +kernel)⟩
theorem gp_X3_9 : gFP RX3 9 3 1 (.array .int) true := ⟨RX3, TX3, 8, gcl3, by decide, gB_mem (k := 266) (by decide +kernel) (by decide +kernel), rfl, by decide +kernel, fun _ => rfl⟩
theorem gf_X3_15 : gFL RX3 15 3 2 := ⟨RX3, TX3, 8, gcl3, by decide, gB_mem (k := 268) (by decide +kernel) (by decide +kernel)⟩
theorem gp_X3_15 : gFP RX3 15 3 2 (.array .int) true := ⟨RX3, TX3, 8, gcl3, by decide, gB_mem (k := 268) (by decide +kernel) (by decide +kernel), rfl, by decide +kernel, fun _ => rfl⟩
theorem gf_X3_18 : gFL RX3 18 3 3 := ⟨RX3, TX3, 8, gcl3, by decide, gB_mem (k := 270) (by decide +kernel) (by decide +kernel)⟩
theorem gp_X3_18 : gFP RX3 18 3 3 (.array .int) true := ⟨RX3, TX3, 8, gcl3, by decide, gB_mem (k := 270) (by decide +kernel) (by decide +kernel), rfl, by decide +kernel, fun _ => rfl⟩
theorem gf_X3_21 : gFL RX3 21 3 4 := ⟨RX3, TX3, 8, gcl3, by decide, gB_mem (k := 272) (by decide +kernel) (by decide +kernel)⟩
theorem gp_X3_21 : gFP RX3 21 3 4 (.array .int) true := ⟨RX3, TX3, 8, gcl3, by decide, gB_mem (k := 272) (by decide +kernel) (by decide +kernel), rfl, by decide +kernel, fun _ => rfl⟩
theorem gf_X3_24 : gFL RX3 24 3 5 := ⟨RX3, TX3, 8, gcl3, by decide, gB_mem (k := 274) (by decide +kernel) (by decide +kernel)⟩
theorem gp_X3_24 : gFP RX3 24 3 5 (.object "FlexRows$State") true := ⟨RX3, TX3, 8, gcl3, by decide, gB_mem (k := 274) (by decide +kernel) (by decide +kernel), rfl, by decide +kernel, fun _ => rfl⟩
theorem gf_X3_28 : gFL RX3 28 3 6 := ⟨RX3, TX3, 8, gcl3, by decide, gB_mem (k := 275) (by decide +kernel) (by decide +kernel)⟩
theorem gp_X3_28 : gFP RX3 28 3 6 (.object "FlexRows$Order") true := ⟨RX3, TX3, 8, gcl3, by decide, gB_mem (k := 275) (by decide +kernel) (by decide +kernel), rfl, by decide +kernel, fun _ => rfl⟩
theorem gf_X3_32 : gFL RX3 32 3 7 := ⟨RX3, TX3, 8, gcl3, by decide, gB_mem (k := 276) (by decide +kernel) (by decide +kernel)⟩
theorem gp_X3_32 : gFP RX3 32 3 7 (.object "FlexRows$Lines") true := ⟨RX3, TX3, 8, gcl3, by decide, gB_mem (k := 276) (by decide +kernel) (by decide +kernel), rfl, by decide +kernel, fun _ => rfl⟩
theorem gf_X3_36 : gFL RX3 36 3 0 := ⟨RX3, TX3, 8, gcl3, by decide, gB_mem (k := 264) (by decide +kernel) (by decide +kernel)⟩
theorem gp_X3_36 : gFP RX3 36 3 0 .int false := ⟨RX3, TX3, 8, gcl3, by decide, gB_mem (k := 264) (by decide +kernel) (by decide +kernel), rfl, by decide +kernel, fun h => by cases h⟩
theorem gf_X3_40 : gFL RX3 40 1 0 := ⟨RX1, TX1, 12, gcl1, by decide, gB_mem (k := 209) (by decide +kernel) (by decide +kernel)⟩
theorem gf_X3_58 : gFL RX3 58 1 6 := ⟨RX1, TX1, 12, gcl1, by decide, gB_mem (k := 224) (by decide +kernel) (by decide +kernel)⟩
theorem gf_X3_61 : gFL RX3 61 2 0 := ⟨RX2, TX2, 8, gcl2, by decide, gB_mem (k := 167) (by decide +kernel) (by decide +kernel)⟩
theorem gf_X3_66 : gFL RX3 66 2 1 := ⟨RX2, TX2, 8, gcl2, by decide, gB_mem (k := 170) (by decide +kernel) (by decide +kernel)⟩
theorem gf_X3_76 : gFL RX3 76 1 1 := ⟨RX1, TX1, 12, gcl1, by decide, gB_mem (k := 212) (by decide +kernel) (by decide +kernel)⟩
theorem gf_X3_80 : gFL RX3 80 2 5 := ⟨RX2, TX2, 8, gcl2, by decide, gB_mem (k := 179) (by decide +kernel) (by decide +kernel)⟩
theorem gf_X3_83 : gFL RX3 83 1 3 := ⟨RX1, TX1, 12, gcl1, by decide, gB_mem (k := 217) (by decide +kernel) (by decide +kernel)⟩
theorem gf_X4_9 : gFL RX4 9 4 1 := ⟨RX4, TX4, 3, gcl4, by decide, gB_mem (k := 125) (by decide +kernel) (by decide +kernel)⟩
theorem gp_X4_9 : gFP RX4 9 4 1 (.array .int) true := ⟨RX4, TX4, 3, gcl4, by decide, gB_mem (k := 125) (by decide +kernel) (by decide +kernel), rfl, by decide +kernel, fun _ => rfl⟩
theorem gf_X4_15 : gFL RX4 15 4 2 := ⟨RX4, TX4, 3, gcl4, by decide, gB_mem (k := 127) (by decide +kernel) (by decide +kernel)⟩
theorem gp_X4_15 : gFP RX4 15 4 2 (.array .int) true := ⟨RX4, TX4, 3, gcl4, by decide, gB_mem (k := 127) (by decide +kernel) (by decide +kernel), rfl, by decide +kernel, fun _ => rfl⟩
theorem gf_X4_27 : gFL RX4 27 4 0 := ⟨RX4, TX4, 3, gcl4, by decide, gB_mem (k := 121) (by decide +kernel) (by decide +kernel)⟩
theorem gp_X4_27 : gFP RX4 27 4 0 .int false := ⟨RX4, TX4, 3, gcl4, by decide, gB_mem (k := 121) (by decide +kernel) (by decide +kernel), rfl, by decide +kernel, fun h => by cases h⟩
theorem gf_X5_9 : gFL RX5 9 5 0 := ⟨RX5, TX5, 5, gcl5, by decide, gB_mem (k := 90) (by decide +kernel) (by decide +kernel)⟩
theorem gp_X5_9 : gFP RX5 9 5 0 (.array .byte) true := ⟨RX5, TX5, 5, gcl5, by decide, gB_mem (k := 90) (by decide +kernel) (by decide +kernel), rfl, by decide +kernel, fun _ => rfl⟩
theorem gf_X5_15 : gFL RX5 15 5 1 := ⟨RX5, TX5, 5, gcl5, by decide, gB_mem (k := 91) (by decide +kernel) (by decide +kernel)⟩
theorem gp_X5_15 : gFP RX5 15 5 1 (.array .int) true := ⟨RX5, TX5, 5, gcl5, by decide, gB_mem (k := 91) (by decide +kernel) (by decide +kernel), rfl, by decide +kernel, fun _ => rfl⟩
theorem gf_X5_19 : gFL RX5 19 5 2 := ⟨RX5, TX5, 5, gcl5, by decide, gB_mem (k := 93) (by decide +kernel) (by decide +kernel)⟩
theorem gp_X5_19 : gFP RX5 19 5 2 .int false := ⟨RX5, TX5, 5, gcl5, by decide, gB_mem (k := 93) (by decide +kernel) (by decide +kernel), rfl, by decide +kernel, fun h => by cases h⟩
theorem gf_X5_32 : gFL RX5 32 5 3 := ⟨RX5, TX5, 5, gcl5, by decide, gB_mem (k := 95) (by decide +kernel) (by decide +kernel)⟩
theorem gp_X5_32 : gFP RX5 32 5 3 .int false := ⟨RX5, TX5, 5, gcl5, by decide, gB_mem (k := 95) (by decide +kernel) (by decide +kernel), rfl, by decide +kernel, fun h => by cases h⟩
theorem gf_X5_35 : gFL RX5 35 5 4 := ⟨RX5, TX5, 5, gcl5, by decide, gB_mem (k := 96) (by decide +kernel) (by decide +kernel)⟩
theorem gp_X5_35 : gFP RX5 35 5 4 .int false := ⟨RX5, TX5, 5, gcl5, by decide, gB_mem (k := 96) (by decide +kernel) (by decide +kernel), rfl, by decide +kernel, fun h => by cases h⟩
theorem gf_X7_7 : gFL RX7 7 7 0 := ⟨RX7, TX7, 27, gcl7, by decide, gB_mem (k := 718) (by decide +kernel) (by decide +kernel)⟩
theorem gp_X7_7 : gFP RX7 7 7 0 (.array .int) true := ⟨RX7, TX7, 27, gcl7, by decide, gB_mem (k := 718) (by decide +kernel) (by decide +kernel), rfl, by decide +kernel, fun _ => rfl⟩
theorem gf_X7_13 : gFL RX7 13 7 1 := ⟨RX7, TX7, 27, gcl7, by decide, gB_mem (k := 719) (by decide +kernel) (by decide +kernel)⟩
theorem gp_X7_13 : gFP RX7 13 7 1 (.array .int) true := ⟨RX7, TX7, 27, gcl7, by decide, gB_mem (k := 719) (by decide +kernel) (by decide +kernel), rfl, by decide +kernel, fun _ => rfl⟩
theorem gf_X7_16 : gFL RX7 16 7 3 := ⟨RX7, TX7, 27, gcl7, by decide, gB_mem (k := 721) (by decide +kernel) (by decide +kernel)⟩
theorem gp_X7_16 : gFP RX7 16 7 3 (.array .int) true := ⟨RX7, TX7, 27, gcl7, by decide, gB_mem (k := 721) (by decide +kernel) (by decide +kernel), rfl, by decide +kernel, fun _ => rfl⟩
theorem gf_X7_19 : gFL RX7 19 7 7 := ⟨RX7, TX7, 27, gcl7, by decide, gB_mem (k := 725) (by decide +kernel) (by decide +kernel)⟩
theorem gp_X7_19 : gFP RX7 19 7 7 (.array .int) true := ⟨RX7, TX7, 27, gcl7, by decide, gB_mem (k := 725) (by decide +kernel) (by decide +kernel), rfl, by decide +kernel, fun _ => rfl⟩
theorem gf_X7_22 : gFL RX7 22 7 8 := ⟨RX7, TX7, 27, gcl7, by decide, gB_mem (k := 726) (by decide +kernel) (by decide +kernel)⟩
theorem gp_X7_22 : gFP RX7 22 7 8 (.array .int) true := ⟨RX7, TX7, 27, gcl7, by decide, gB_mem (k := 726) (by decide +kernel) (by decide +kernel), rfl, by decide +kernel, fun _ => rfl⟩
theorem gf_X7_25 : gFL RX7 25 7 10 := ⟨RX7, TX7, 27, gcl7, by decide, gB_mem (k := 728) (by decide +kernel) (by decide +kernel)⟩
theorem gp_X7_25 : gFP RX7 25 7 10 (.array .int) true := ⟨RX7, TX7, 27, gcl7, by decide, gB_mem (k := 728) (by decide +kernel) (by decide +kernel), rfl, by decide +kernel, fun _ => rfl⟩
theorem gf_X7_28 : gFL RX7 28 7 11 := ⟨RX7, TX7, 27, gcl7, by decide, gB_mem (k := 729) (by decide +kernel) (by decide +kernel)⟩
theorem gp_X7_28 : gFP RX7 28 7 11 (.array .int) true := ⟨RX7, TX7, 27, gcl7, by decide, gB_mem (k := 729) (by decide +kernel) (by decide +kernel), rfl, by decide +kernel, fun _ => rfl⟩
theorem gf_X7_31 : gFL RX7 31 7 12 := ⟨RX7, TX7, 27, gcl7, by decide, gB_mem (k := 730) (by decide +kernel) (by decide +kernel)⟩
theorem gp_X7_31 : gFP RX7 31 7 12 (.array .int) true := ⟨RX7, TX7, 27, gcl7, by decide, gB_mem (k := 730) (by decide +kernel) (by decide +kernel), rfl, by decide +kernel, fun _ => rfl⟩
theorem gf_X7_34 : gFL RX7 34 7 14 := ⟨RX7, TX7, 27, gcl7, by decide, gB_mem (k := 732) (by decide +kernel) (by decide +kernel)⟩
theorem gp_X7_34 : gFP RX7 34 7 14 (.array .int) true := ⟨RX7, TX7, 27, gcl7, by decide, gB_mem (k := 732) (by decide +kernel) (by decide +kernel), rfl, by decide +kernel, fun _ => rfl⟩
theorem gf_X7_37 : gFL RX7 37 7 15 := ⟨RX7, TX7, 27, gcl7, by decide, gB_mem (k := 733) (by decide +kernel) (by decide +kernel)⟩
theorem gp_X7_37 : gFP RX7 37 7 15 (.array .int) true := ⟨RX7, TX7, 27, gcl7, by decide, gB_mem (k := 733) (by decide +kernel) (by decide +kernel), rfl, by decide +kernel, fun _ => rfl⟩
theorem gf_X7_40 : gFL RX7 40 7 16 := ⟨RX7, TX7, 27, gcl7, by decide, gB_mem (k := 734) (by decide +kernel) (by decide +kernel)⟩
theorem gp_X7_40 : gFP RX7 40 7 16 (.array .int) true := ⟨RX7, TX7, 27, gcl7, by decide, gB_mem (k := 734) (by decide +kernel) (by decide +kernel), rfl, by decide +kernel, fun _ => rfl⟩
theorem gf_X7_43 : gFL RX7 43 7 17 := ⟨RX7, TX7, 27, gcl7, by decide, gB_mem (k := 735) (by decide +kernel) (by decide +kernel)⟩
theorem gp_X7_43 : gFP RX7 43 7 17 (.array .boolean) true := ⟨RX7, TX7, 27, gcl7, by decide, gB_mem (k := 735) (by decide +kernel) (by decide +kernel), rfl, by decide +kernel, fun _ => rfl⟩
theorem gf_X7_47 : gFL RX7 47 7 18 := ⟨RX7, TX7, 27, gcl7, by decide, gB_mem (k := 736) (by decide +kernel) (by decide +kernel)⟩
theorem gp_X7_47 : gFP RX7 47 7 18 (.array .int) true := ⟨RX7, TX7, 27, gcl7, by decide, gB_mem (k := 736) (by decide +kernel) (by decide +kernel), rfl, by decide +kernel, fun _ => rfl⟩
theorem gf_X7_50 : gFL RX7 50 7 19 := ⟨RX7, TX7, 27, gcl7, by decide, gB_mem (k := 737) (by decide +kernel) (by decide +kernel)⟩
theorem gp_X7_50 : gFP RX7 50 7 19 (.array .int) true := ⟨RX7, TX7, 27, gcl7, by decide, gB_mem (k := 737) (by decide +kernel) (by decide +kernel), rfl, by decide +kernel, fun _ => rfl⟩
theorem gf_X7_53 : gFL RX7 53 7 20 := ⟨RX7, TX7, 27, gcl7, by decide, gB_mem (k := 738) (by decide +kernel) (by decide +kernel)⟩
theorem gp_X7_53 : gFP RX7 53 7 20 (.array .int) true := ⟨RX7, TX7, 27, gcl7, by decide, gB_mem (k := 738) (by decide +kernel) (by decide +kernel), rfl, by decide +kernel, fun _ => rfl⟩
theorem gf_X7_56 : gFL RX7 56 7 21 := ⟨RX7, TX7, 27, gcl7, by decide, gB_mem (k := 739) (by decide +kernel) (by decide +kernel)⟩
theorem gp_X7_56 : gFP RX7 56 7 21 (.array .boolean) true := ⟨RX7, TX7, 27, gcl7, by decide, gB_mem (k := 739) (by decide +kernel) (by decide +kernel), rfl, by decide +kernel, fun _ => rfl⟩
theorem gf_X7_59 : gFL RX7 59 7 22 := ⟨RX7, TX7, 27, gcl7, by decide, gB_mem (k := 740) (by decide +kernel) (by decide +kernel)⟩
theorem gp_X7_59 : gFP RX7 59 7 22 (.array .int) true := ⟨RX7, TX7, 27, gcl7, by decide, gB_mem (k := 740) (by decide +kernel) (by decide +kernel), rfl, by decide +kernel, fun _ => rfl⟩
theorem gf_X7_62 : gFL RX7 62 7 23 := ⟨RX7, TX7, 27, gcl7, by decide, gB_mem (k := 741) (by decide +kernel) (by decide +kernel)⟩
theorem gp_X7_62 : gFP RX7 62 7 23 (.array .int) true := ⟨RX7, TX7, 27, gcl7, by decide, gB_mem (k := 741) (by decide +kernel) (by decide +kernel), rfl, by decide +kernel, fun _ => rfl⟩
theorem gf_X7_65 : gFL RX7 65 7 24 := ⟨RX7, TX7, 27, gcl7, by decide, gB_mem (k := 742) (by decide +kernel) (by decide +kernel)⟩
theorem gp_X7_65 : gFP RX7 65 7 24 (.array .int) true := ⟨RX7, TX7, 27, gcl7, by decide, gB_mem (k := 742) (by decide +kernel) (by decide +kernel), rfl, by decide +kernel, fun _ => rfl⟩
theorem gf_X7_68 : gFL RX7 68 7 25 := ⟨RX7, TX7, 27, gcl7, by decide, gB_mem (k := 743) (by decide +kernel) (by decide +kernel)⟩
theorem gp_X7_68 : gFP RX7 68 7 25 (.array .int) true := ⟨RX7, TX7, 27, gcl7, by decide, gB_mem (k := 743) (by decide +kernel) (by decide +kernel), rfl, by decide +kernel, fun _ => rfl⟩
theorem gf_X7_71 : gFL RX7 71 7 2 := ⟨RX7, TX7, 27, gcl7, by decide, gB_mem (k := 720) (by decide +kernel) (by decide +kernel)⟩
theorem gp_X7_71 : gFP RX7 71 7 2 .int false := ⟨RX7, TX7, 27, gcl7, by decide, gB_mem (k := 720) (by decide +kernel) (by decide +kernel), rfl, by decide +kernel, fun h => by cases h⟩
theorem gf_X7_79 : gFL RX7 79 7 4 := ⟨RX7, TX7, 27, gcl7, by decide, gB_mem (k := 722) (by decide +kernel) (by decide +kernel)⟩
theorem gp_X7_79 : gFP RX7 79 7 4 .int false := ⟨RX7, TX7, 27, gcl7, by decide, gB_mem (k := 722) (by decide +kernel) (by decide +kernel), rfl, by decide +kernel, fun h => by cases h⟩
theorem gf_X7_82 : gFL RX7 82 7 5 := ⟨RX7, TX7, 27, gcl7, by decide, gB_mem (k := 723) (by decide +kernel) (by decide +kernel)⟩
theorem gp_X7_82 : gFP RX7 82 7 5 .int false := ⟨RX7, TX7, 27, gcl7, by decide, gB_mem (k := 723) (by decide +kernel) (by decide +kernel), rfl, by decide +kernel, fun h => by cases h⟩
theorem gf_X7_89 : gFL RX7 89 7 6 := ⟨RX7, TX7, 27, gcl7, by decide, gB_mem (k := 724) (by decide +kernel) (by decide +kernel)⟩
theorem gp_X7_89 : gFP RX7 89 7 6 .int false := ⟨RX7, TX7, 27, gcl7, by decide, gB_mem (k := 724) (by decide +kernel) (by decide +kernel), rfl, by decide +kernel, fun h => by cases h⟩
theorem gf_X7_176 : gFL RX7 176 7 9 := ⟨RX7, TX7, 27, gcl7, by decide, gB_mem (k := 727) (by decide +kernel) (by decide +kernel)⟩
theorem gp_X7_176 : gFP RX7 176 7 9 .int false := ⟨RX7, TX7, 27, gcl7, by decide, gB_mem (k := 727) (by decide +kernel) (by decide +kernel), rfl, by decide +kernel, fun h => by cases h⟩
theorem gf_X7_182 : gFL RX7 182 7 13 := ⟨RX7, TX7, 27, gcl7, by decide, gB_mem (k := 731) (by decide +kernel) (by decide +kernel)⟩
theorem gp_X7_182 : gFP RX7 182 7 13 .int false := ⟨RX7, TX7, 27, gcl7, by decide, gB_mem (k := 731) (by decide +kernel) (by decide +kernel), rfl, by decide +kernel, fun h => by cases h⟩
theorem gf_X7_252 : gFL RX7 252 7 26 := ⟨RX7, TX7, 27, gcl7, by decide, gB_mem (k := 744) (by decide +kernel) (by decide +kernel)⟩
theorem gp_X7_252 : gFP RX7 252 7 26 .long false := ⟨RX7, TX7, 27, gcl7, by decide, gB_mem (k := 744) (by decide +kernel) (by decide +kernel), rfl, by decide +kernel, fun h => by cases h⟩
abbrev fJ0_charAt_5068e : gF := (yJ0_charAt_5068e, cJ0_charAt_5068e, 2, some .char, 4, 85)
theorem mJ0_charAt_5068e : gMi fJ0_charAt_5068e 1 := ⟨gB_mem (k := 397) (by decide +kernel) (by decide +kernel), gB_mem (k := 71) (by decide +kernel) (by decide +kernel), by decide +kernel, by decide +kernel, by decide +kernel⟩
theorem imJ0_charAt_5068e : Cond.instanceMethod yJ0_charAt_5068e ∈ gB := gB_mem (k := 395) (by decide +kernel) (by decide +kernel)
theorem seJ0_charAt_5068e : Cond.selects RJ0 yJ0_charAt_5068e yJ0_charAt_5068e ∈ gB := gB_mem (k := 396) (by decide +kernel) (by decide +kernel)
abbrev fJ0_checkIndex_df160 : gF := (yJ0_checkIndex_df160, cJ0_checkIndex_df160, 2, none, 1, 22)
theorem mJ0_checkIndex_df160 : gMi fJ0_checkIndex_df160 2 := ⟨gB_mem (k := 407) (by decide +kernel) (by decide +kernel), gB_mem (k := 71) (by decide +kernel) (by decide +kernel), by decide +kernel, by decide +kernel, by decide +kernel⟩
theorem smJ0_checkIndex_df160 : Cond.static yJ0_checkIndex_df160 ∈ gB := gB_mem (k := 406) (by decide +kernel) (by decide +kernel)
abbrev fJ0_coder_7d493 : gF := (yJ0_coder_7d493, cJ0_coder_7d493, 1, some .byte, 0, 0)
theorem mJ0_coder_7d493 : gMi fJ0_coder_7d493 0 := ⟨gB_mem (k := 391) (by decide +kernel) (by decide +kernel), gB_mem (k := 71) (by decide +kernel) (by decide +kernel), by decide +kernel, by decide +kernel, by decide +kernel⟩
theorem imJ0_coder_7d493 : Cond.instanceMethod yJ0_coder_7d493 ∈ gB := gB_mem (k := 389) (by decide +kernel) (by decide +kernel)
theorem seJ0_coder_7d493 : Cond.selects RJ0 yJ0_coder_7d493 yJ0_coder_7d493 ∈ gB := gB_mem (k := 390) (by decide +kernel) (by decide +kernel)
abbrev fJ0_isLatin1_aae02 : gF := (yJ0_isLatin1_aae02, cJ0_isLatin1_aae02, 1, some .boolean, 0, 0)
theorem mJ0_isLatin1_aae02 : gMi fJ0_isLatin1_aae02 0 := ⟨gB_mem (k := 401) (by decide +kernel) (by decide +kernel), gB_mem (k := 71) (by decide +kernel) (by decide +kernel), by decide +kernel, by decide +kernel, by decide +kernel⟩
theorem imJ0_isLatin1_aae02 : Cond.instanceMethod yJ0_isLatin1_aae02 ∈ gB := gB_mem (k := 399) (by decide +kernel) (by decide +kernel)
theorem seJ0_isLatin1_aae02 : Cond.selects RJ0 yJ0_isLatin1_aae02 yJ0_isLatin1_aae02 ∈ gB := gB_mem (k := 400) (by decide +kernel) (by decide +kernel)
abbrev fJ0_length_8abf5 : gF := (yJ0_length_8abf5, cJ0_length_8abf5, 1, some .int, 1, 20)
theorem mJ0_length_8abf5 : gMi fJ0_length_8abf5 0 := ⟨gB_mem (k := 387) (by decide +kernel) (by decide +kernel), gB_mem (k := 71) (by decide +kernel) (by decide +kernel), by decide +kernel, by decide +kernel, by decide +kernel⟩
theorem imJ0_length_8abf5 : Cond.instanceMethod yJ0_length_8abf5 ∈ gB := gB_mem (k := 385) (by decide +kernel) (by decide +kernel)
theorem seJ0_length_8abf5 : Cond.selects RJ0 yJ0_length_8abf5 yJ0_length_8abf5 ∈ gB := gB_mem (k := 386) (by decide +kernel) (by decide +kernel)
abbrev fJ1_charAt_3b067 : gF := (yJ1_charAt_3b067, cJ1_charAt_3b067, 2, some .char, 2, 43)
theorem mJ1_charAt_3b067 : gMi fJ1_charAt_3b067 2 := ⟨gB_mem (k := 404) (by decide +kernel) (by decide +kernel), gB_mem (k := 72) (by decide +kernel) (by decide +kernel), by decide +kernel, by decide +kernel, by decide +kernel⟩
theorem smJ1_charAt_3b067 : Cond.static yJ1_charAt_3b067 ∈ gB := gB_mem (k := 403) (by decide +kernel) (by decide +kernel)
abbrev fJ2_charAt_3b067 : gF := (yJ2_charAt_3b067, cJ2_charAt_3b067, 2, some .char, 3, 64)
theorem mJ2_charAt_3b067 : gMi fJ2_charAt_3b067 2 := ⟨gB_mem (k := 415) (by decide +kernel) (by decide +kernel), gB_mem (k := 74) (by decide +kernel) (by decide +kernel), by decide +kernel, by decide +kernel, by decide +kernel⟩
theorem smJ2_charAt_3b067 : Cond.static yJ2_charAt_3b067 ∈ gB := gB_mem (k := 414) (by decide +kernel) (by decide +kernel)
abbrev fJ2_checkIndex_2214a : gF := (yJ2_checkIndex_2214a, cJ2_checkIndex_2214a, 2, none, 2, 43)
theorem mJ2_checkIndex_2214a : gMi fJ2_checkIndex_2214a 2 := ⟨gB_mem (k := 418) (by decide +kernel) (by decide +kernel), gB_mem (k := 74) (by decide +kernel) (by decide +kernel), by decide +kernel, by decide +kernel, by decide +kernel⟩
theorem smJ2_checkIndex_2214a : Cond.static yJ2_checkIndex_2214a ∈ gB := gB_mem (k := 417) (by decide +kernel) (by decide +kernel)
abbrev fJ2_getChar_3b067 : gF := (yJ2_getChar_3b067, cJ2_getChar_3b067, 2, some .char, 1, 20)
theorem mJ2_getChar_3b067 : gMi fJ2_getChar_3b067 2 := ⟨gB_mem (k := 425) (by decide +kernel) (by decide +kernel), gB_mem (k := 74) (by decide +kernel) (by decide +kernel), by decide +kernel, by decide +kernel, by decide +kernel⟩
theorem smJ2_getChar_3b067 : Cond.static yJ2_getChar_3b067 ∈ gB := gB_mem (k := 424) (by decide +kernel) (by decide +kernel)
abbrev fJ2_length_9d52b : gF := (yJ2_length_9d52b, cJ2_length_9d52b, 1, some .int, 0, 0)
theorem mJ2_length_9d52b : gMi fJ2_length_9d52b 1 := ⟨gB_mem (k := 421) (by decide +kernel) (by decide +kernel), gB_mem (k := 74) (by decide +kernel) (by decide +kernel), by decide +kernel, by decide +kernel, by decide +kernel⟩
theorem smJ2_length_9d52b : Cond.static yJ2_length_9d52b ∈ gB := gB_mem (k := 420) (by decide +kernel) (by decide +kernel)
abbrev fJ3_checkIndex_8e157 : gF := (yJ3_checkIndex_8e157, cJ3_checkIndex_8e157, 3, some .int, 0, 0)
theorem mJ3_checkIndex_8e157 : gMi fJ3_checkIndex_8e157 3 := ⟨gB_mem (k := 412) (by decide +kernel) (by decide +kernel), gB_mem (k := 73) (by decide +kernel) (by decide +kernel), by decide +kernel, by decide +kernel, by decide +kernel⟩
theorem smJ3_checkIndex_8e157 : Cond.static yJ3_checkIndex_8e157 ∈ gB := gB_mem (k := 411) (by decide +kernel) (by decide +kernel)
abbrev fJ9_floorDiv_7cf53 : gF := (yJ9_floorDiv_7cf53, cJ9_floorDiv_7cf53, 3, some .int, 0, 0)
theorem mJ9_floorDiv_7cf53 : gMi fJ9_floorDiv_7cf53 2 := ⟨gB_mem (k := 556) (by decide +kernel) (by decide +kernel), gB_mem (k := 75) (by decide +kernel) (by decide +kernel), by decide +kernel, by decide +kernel, by decide +kernel⟩
theorem smJ9_floorDiv_7cf53 : Cond.static yJ9_floorDiv_7cf53 ∈ gB := gB_mem (k := 555) (by decide +kernel) (by decide +kernel)
abbrev fJ9_floorMod_7cf53 : gF := (yJ9_floorMod_7cf53, cJ9_floorMod_7cf53, 3, some .int, 0, 0)
theorem mJ9_floorMod_7cf53 : gMi fJ9_floorMod_7cf53 2 := ⟨gB_mem (k := 442) (by decide +kernel) (by decide +kernel), gB_mem (k := 75) (by decide +kernel) (by decide +kernel), by decide +kernel, by decide +kernel, by decide +kernel⟩
theorem smJ9_floorMod_7cf53 : Cond.static yJ9_floorMod_7cf53 ∈ gB := gB_mem (k := 441) (by decide +kernel) (by decide +kernel)
abbrev fJ9_max_7cf53 : gF := (yJ9_max_7cf53, cJ9_max_7cf53, 2, some .int, 0, 0)
theorem mJ9_max_7cf53 : gMi fJ9_max_7cf53 2 := ⟨gB_mem (k := 498) (by decide +kernel) (by decide +kernel), gB_mem (k := 75) (by decide +kernel) (by decide +kernel), by decide +kernel, by decide +kernel, by decide +kernel⟩
theorem smJ9_max_7cf53 : Cond.static yJ9_max_7cf53 ∈ gB := gB_mem (k := 497) (by decide +kernel) (by decide +kernel)
abbrev fJ9_min_7cf53 : gF := (yJ9_min_7cf53, cJ9_min_7cf53, 2, some .int, 0, 0)
theorem mJ9_min_7cf53 : gMi fJ9_min_7cf53 2 := ⟨gB_mem (k := 446) (by decide +kernel) (by decide +kernel), gB_mem (k := 75) (by decide +kernel) (by decide +kernel), by decide +kernel, by decide +kernel, by decide +kernel⟩
theorem smJ9_min_7cf53 : Cond.static yJ9_min_7cf53 ∈ gB := gB_mem (k := 445) (by decide +kernel) (by decide +kernel)
abbrev fL_law : gF := (x, code, maxLocals, ret, 11, 394)
abbrev fX0_init : gF := (yX0_init, cX0_init, 1, none, 1, 20)
theorem mX0_init : gMi fX0_init 0 := ⟨gB_mem (k := 140) (by decide +kernel) (by decide +kernel), gB_mem (k := 66) (by decide +kernel) (by decide +kernel), by decide +kernel, by decide +kernel, by decide +kernel⟩
theorem imX0_init : Cond.instanceMethod yX0_init ∈ gB := gB_mem (k := 139) (by decide +kernel) (by decide +kernel)
abbrev fX0_record : gF := (yX0_record, cX0_record, 3, none, 1, 26)
theorem mX0_record : gMi fX0_record 1 := ⟨gB_mem (k := 439) (by decide +kernel) (by decide +kernel), gB_mem (k := 66) (by decide +kernel) (by decide +kernel), by decide +kernel, by decide +kernel, by decide +kernel⟩
theorem imX0_record : Cond.instanceMethod yX0_record ∈ gB := gB_mem (k := 437) (by decide +kernel) (by decide +kernel)
theorem seX0_record : Cond.selects RX0 yX0_record yX0_record ∈ gB := gB_mem (k := 438) (by decide +kernel) (by decide +kernel)
abbrev fX0_restore : gF := (yX0_restore, cX0_restore, 3, none, 1, 26)
theorem mX0_restore : gMi fX0_restore 1 := ⟨gB_mem (k := 631) (by decide +kernel) (by decide +kernel), gB_mem (k := 66) (by decide +kernel) (by decide +kernel), by decide +kernel, by decide +kernel, by decide +kernel⟩
theorem imX0_restore : Cond.instanceMethod yX0_restore ∈ gB := gB_mem (k := 629) (by decide +kernel) (by decide +kernel)
theorem seX0_restore : Cond.selects RX0 yX0_restore yX0_restore ∈ gB := gB_mem (k := 630) (by decide +kernel) (by decide +kernel)
abbrev fX1_allHaveRoom : gF := (yX1_allHaveRoom, cX1_allHaveRoom, 2, some .boolean, 4, 104)
theorem mX1_allHaveRoom : gMi fX1_allHaveRoom 0 := ⟨gB_mem (k := 686) (by decide +kernel) (by decide +kernel), gB_mem (k := 68) (by decide +kernel) (by decide +kernel), by decide +kernel, by decide +kernel, by decide +kernel⟩
theorem imX1_allHaveRoom : Cond.instanceMethod yX1_allHaveRoom ∈ gB := gB_mem (k := 684) (by decide +kernel) (by decide +kernel)
theorem seX1_allHaveRoom : Cond.selects RX1 yX1_allHaveRoom yX1_allHaveRoom ∈ gB := gB_mem (k := 685) (by decide +kernel) (by decide +kernel)
abbrev fX1_breakUp : gF := (yX1_breakUp, cX1_breakUp, 7, none, 1, 21)
theorem mX1_breakUp : gMi fX1_breakUp 1 := ⟨gB_mem (k := 512) (by decide +kernel) (by decide +kernel), gB_mem (k := 68) (by decide +kernel) (by decide +kernel), by decide +kernel, by decide +kernel, by decide +kernel⟩
theorem imX1_breakUp : Cond.instanceMethod yX1_breakUp ∈ gB := gB_mem (k := 510) (by decide +kernel) (by decide +kernel)
theorem seX1_breakUp : Cond.selects RX1 yX1_breakUp yX1_breakUp ∈ gB := gB_mem (k := 511) (by decide +kernel) (by decide +kernel)
abbrev fX1_end : gF := (yX1_end, cX1_end, 2, some .int, 0, 0)
theorem mX1_end : gMi fX1_end 1 := ⟨gB_mem (k := 529) (by decide +kernel) (by decide +kernel), gB_mem (k := 68) (by decide +kernel) (by decide +kernel), by decide +kernel, by decide +kernel, by decide +kernel⟩
theorem imX1_end : Cond.instanceMethod yX1_end ∈ gB := gB_mem (k := 527) (by decide +kernel) (by decide +kernel)
theorem seX1_end : Cond.selects RX1 yX1_end yX1_end ∈ gB := gB_mem (k := 528) (by decide +kernel) (by decide +kernel)
abbrev fX1_freezeCorrected : gF := (yX1_freezeCorrected, cX1_freezeCorrected, 7, none, 1, 21)
theorem mX1_freezeCorrected : gMi fX1_freezeCorrected 3 := ⟨gB_mem (k := 560) (by decide +kernel) (by decide +kernel), gB_mem (k := 68) (by decide +kernel) (by decide +kernel), by decide +kernel, by decide +kernel, by decide +kernel⟩
theorem imX1_freezeCorrected : Cond.instanceMethod yX1_freezeCorrected ∈ gB := gB_mem (k := 559) (by decide +kernel) (by decide +kernel)
theorem seX1_freezeCorrected : Cond.selects RX1 yX1_freezeCorrected yX1_freezeCorrected ∈ gB := gB_mem (k := 12) (by decide +kernel) (by decide +kernel)
abbrev fX1_freezeStiff : gF := (yX1_freezeStiff, cX1_freezeStiff, 5, none, 2, 46)
theorem mX1_freezeStiff : gMi fX1_freezeStiff 3 := ⟨gB_mem (k := 533) (by decide +kernel) (by decide +kernel), gB_mem (k := 68) (by decide +kernel) (by decide +kernel), by decide +kernel, by decide +kernel, by decide +kernel⟩
theorem imX1_freezeStiff : Cond.instanceMethod yX1_freezeStiff ∈ gB := gB_mem (k := 532) (by decide +kernel) (by decide +kernel)
theorem seX1_freezeStiff : Cond.selects RX1 yX1_freezeStiff yX1_freezeStiff ∈ gB := gB_mem (k := 9) (by decide +kernel) (by decide +kernel)
abbrev fX1_hasOpen : gF := (yX1_hasOpen, cX1_hasOpen, 4, some .boolean, 0, 0)
theorem mX1_hasOpen : gMi fX1_hasOpen 2 := ⟨gB_mem (k := 541) (by decide +kernel) (by decide +kernel), gB_mem (k := 68) (by decide +kernel) (by decide +kernel), by decide +kernel, by decide +kernel, by decide +kernel⟩
theorem imX1_hasOpen : Cond.instanceMethod yX1_hasOpen ∈ gB := gB_mem (k := 540) (by decide +kernel) (by decide +kernel)
theorem seX1_hasOpen : Cond.selects RX1 yX1_hasOpen yX1_hasOpen ∈ gB := gB_mem (k := 10) (by decide +kernel) (by decide +kernel)
abbrev fX1_init : gF := (yX1_init, cX1_init, 3, none, 1, 20)
theorem mX1_init : gMi fX1_init 2 := ⟨gB_mem (k := 206) (by decide +kernel) (by decide +kernel), gB_mem (k := 68) (by decide +kernel) (by decide +kernel), by decide +kernel, by decide +kernel, by decide +kernel⟩
theorem imX1_init : Cond.instanceMethod yX1_init ∈ gB := gB_mem (k := 205) (by decide +kernel) (by decide +kernel)
abbrev fX1_lineOf : gF := (yX1_lineOf, cX1_lineOf, 3, some .int, 0, 0)
theorem mX1_lineOf : gMi fX1_lineOf 1 := ⟨gB_mem (k := 648) (by decide +kernel) (by decide +kernel), gB_mem (k := 68) (by decide +kernel) (by decide +kernel), by decide +kernel, by decide +kernel, by decide +kernel⟩
theorem imX1_lineOf : Cond.instanceMethod yX1_lineOf ∈ gB := gB_mem (k := 646) (by decide +kernel) (by decide +kernel)
theorem seX1_lineOf : Cond.selects RX1 yX1_lineOf yX1_lineOf ∈ gB := gB_mem (k := 647) (by decide +kernel) (by decide +kernel)
abbrev fX1_part : gF := (yX1_part, cX1_part, 3, some .int, 1, 22)
theorem mX1_part : gMi fX1_part 3 := ⟨gB_mem (k := 553) (by decide +kernel) (by decide +kernel), gB_mem (k := 68) (by decide +kernel) (by decide +kernel), by decide +kernel, by decide +kernel, by decide +kernel⟩
theorem smX1_part : Cond.static yX1_part ∈ gB := gB_mem (k := 552) (by decide +kernel) (by decide +kernel)
abbrev fX1_share : gF := (yX1_share, cX1_share, 2, none, 4, 104)
theorem mX1_share : gMi fX1_share 0 := ⟨gB_mem (k := 521) (by decide +kernel) (by decide +kernel), gB_mem (k := 68) (by decide +kernel) (by decide +kernel), by decide +kernel, by decide +kernel, by decide +kernel⟩
theorem imX1_share : Cond.instanceMethod yX1_share ∈ gB := gB_mem (k := 519) (by decide +kernel) (by decide +kernel)
theorem seX1_share : Cond.selects RX1 yX1_share yX1_share ∈ gB := gB_mem (k := 520) (by decide +kernel) (by decide +kernel)
abbrev fX1_shareLine : gF := (yX1_shareLine, cX1_shareLine, 8, none, 3, 77)
theorem mX1_shareLine : gMi fX1_shareLine 1 := ⟨gB_mem (k := 525) (by decide +kernel) (by decide +kernel), gB_mem (k := 68) (by decide +kernel) (by decide +kernel), by decide +kernel, by decide +kernel, by decide +kernel⟩
theorem imX1_shareLine : Cond.instanceMethod yX1_shareLine ∈ gB := gB_mem (k := 524) (by decide +kernel) (by decide +kernel)
theorem seX1_shareLine : Cond.selects RX1 yX1_shareLine yX1_shareLine ∈ gB := gB_mem (k := 8) (by decide +kernel) (by decide +kernel)
abbrev fX1_shareOut : gF := (yX1_shareOut, cX1_shareOut, 12, none, 2, 46)
theorem mX1_shareOut : gMi fX1_shareOut 4 := ⟨gB_mem (k := 545) (by decide +kernel) (by decide +kernel), gB_mem (k := 68) (by decide +kernel) (by decide +kernel), by decide +kernel, by decide +kernel, by decide +kernel⟩
theorem imX1_shareOut : Cond.instanceMethod yX1_shareOut ∈ gB := gB_mem (k := 544) (by decide +kernel) (by decide +kernel)
theorem seX1_shareOut : Cond.selects RX1 yX1_shareOut yX1_shareOut ∈ gB := gB_mem (k := 11) (by decide +kernel) (by decide +kernel)
abbrev fX2_enter : gF := (yX2_enter, cX2_enter, 4, none, 1, 23)
theorem mX2_enter : gMi fX2_enter 1 := ⟨gB_mem (k := 491) (by decide +kernel) (by decide +kernel), gB_mem (k := 67) (by decide +kernel) (by decide +kernel), by decide +kernel, by decide +kernel, by decide +kernel⟩
theorem imX2_enter : Cond.instanceMethod yX2_enter ∈ gB := gB_mem (k := 490) (by decide +kernel) (by decide +kernel)
theorem seX2_enter : Cond.selects RX2 yX2_enter yX2_enter ∈ gB := gB_mem (k := 7) (by decide +kernel) (by decide +kernel)
abbrev fX2_init : gF := (yX2_init, cX2_init, 2, none, 1, 20)
theorem mX2_init : gMi fX2_init 1 := ⟨gB_mem (k := 163) (by decide +kernel) (by decide +kernel), gB_mem (k := 67) (by decide +kernel) (by decide +kernel), by decide +kernel, by decide +kernel, by decide +kernel⟩
theorem imX2_init : Cond.instanceMethod yX2_init ∈ gB := gB_mem (k := 162) (by decide +kernel) (by decide +kernel)
abbrev fX2_isStiff : gF := (yX2_isStiff, cX2_isStiff, 4, some .boolean, 1, 23)
theorem mX2_isStiff : gMi fX2_isStiff 2 := ⟨gB_mem (k := 537) (by decide +kernel) (by decide +kernel), gB_mem (k := 67) (by decide +kernel) (by decide +kernel), by decide +kernel, by decide +kernel, by decide +kernel⟩
theorem imX2_isStiff : Cond.instanceMethod yX2_isStiff ∈ gB := gB_mem (k := 535) (by decide +kernel) (by decide +kernel)
theorem seX2_isStiff : Cond.selects RX2 yX2_isStiff yX2_isStiff ∈ gB := gB_mem (k := 536) (by decide +kernel) (by decide +kernel)
abbrev fX2_itemAt : gF := (yX2_itemAt, cX2_itemAt, 2, some .int, 0, 0)
theorem mX2_itemAt : gMi fX2_itemAt 1 := ⟨gB_mem (k := 657) (by decide +kernel) (by decide +kernel), gB_mem (k := 67) (by decide +kernel) (by decide +kernel), by decide +kernel, by decide +kernel, by decide +kernel⟩
theorem imX2_itemAt : Cond.instanceMethod yX2_itemAt ∈ gB := gB_mem (k := 655) (by decide +kernel) (by decide +kernel)
theorem seX2_itemAt : Cond.selects RX2 yX2_itemAt yX2_itemAt ∈ gB := gB_mem (k := 656) (by decide +kernel) (by decide +kernel)
abbrev fX2_outerWish : gF := (yX2_outerWish, cX2_outerWish, 2, some .int, 0, 0)
theorem mX2_outerWish : gMi fX2_outerWish 1 := ⟨gB_mem (k := 517) (by decide +kernel) (by decide +kernel), gB_mem (k := 67) (by decide +kernel) (by decide +kernel), by decide +kernel, by decide +kernel, by decide +kernel⟩
theorem imX2_outerWish : Cond.instanceMethod yX2_outerWish ∈ gB := gB_mem (k := 515) (by decide +kernel) (by decide +kernel)
theorem seX2_outerWish : Cond.selects RX2 yX2_outerWish yX2_outerWish ∈ gB := gB_mem (k := 516) (by decide +kernel) (by decide +kernel)
abbrev fX2_placeOf : gF := (yX2_placeOf, cX2_placeOf, 3, some .int, 0, 0)
theorem mX2_placeOf : gMi fX2_placeOf 1 := ⟨gB_mem (k := 599) (by decide +kernel) (by decide +kernel), gB_mem (k := 67) (by decide +kernel) (by decide +kernel), by decide +kernel, by decide +kernel, by decide +kernel⟩
theorem imX2_placeOf : Cond.instanceMethod yX2_placeOf ∈ gB := gB_mem (k := 597) (by decide +kernel) (by decide +kernel)
theorem seX2_placeOf : Cond.selects RX2 yX2_placeOf yX2_placeOf ∈ gB := gB_mem (k := 598) (by decide +kernel) (by decide +kernel)
abbrev fX2_sort : gF := (yX2_sort, cX2_sort, 3, none, 3, 65)
theorem mX2_sort : gMi fX2_sort 0 := ⟨gB_mem (k := 486) (by decide +kernel) (by decide +kernel), gB_mem (k := 67) (by decide +kernel) (by decide +kernel), by decide +kernel, by decide +kernel, by decide +kernel⟩
theorem imX2_sort : Cond.instanceMethod yX2_sort ∈ gB := gB_mem (k := 484) (by decide +kernel) (by decide +kernel)
theorem seX2_sort : Cond.selects RX2 yX2_sort yX2_sort ∈ gB := gB_mem (k := 485) (by decide +kernel) (by decide +kernel)
abbrev fX2_weight : gF := (yX2_weight, cX2_weight, 4, some .int, 1, 23)
theorem mX2_weight : gMi fX2_weight 2 := ⟨gB_mem (k := 549) (by decide +kernel) (by decide +kernel), gB_mem (k := 67) (by decide +kernel) (by decide +kernel), by decide +kernel, by decide +kernel, by decide +kernel⟩
theorem imX2_weight : Cond.instanceMethod yX2_weight ∈ gB := gB_mem (k := 547) (by decide +kernel) (by decide +kernel)
theorem seX2_weight : Cond.selects RX2 yX2_weight yX2_weight ∈ gB := gB_mem (k := 548) (by decide +kernel) (by decide +kernel)
abbrev fX3_covers : gF := (yX3_covers, cX3_covers, 5, some .boolean, 1, 23)
theorem mX3_covers : gMi fX3_covers 3 := ⟨gB_mem (k := 674) (by decide +kernel) (by decide +kernel), gB_mem (k := 69) (by decide +kernel) (by decide +kernel), by decide +kernel, by decide +kernel, by decide +kernel⟩
theorem imX3_covers : Cond.instanceMethod yX3_covers ∈ gB := gB_mem (k := 672) (by decide +kernel) (by decide +kernel)
theorem seX3_covers : Cond.selects RX3 yX3_covers yX3_covers ∈ gB := gB_mem (k := 673) (by decide +kernel) (by decide +kernel)
abbrev fX3_end : gF := (yX3_end, cX3_end, 2, some .int, 0, 0)
theorem mX3_end : gMi fX3_end 1 := ⟨gB_mem (k := 678) (by decide +kernel) (by decide +kernel), gB_mem (k := 69) (by decide +kernel) (by decide +kernel), by decide +kernel, by decide +kernel, by decide +kernel⟩
theorem imX3_end : Cond.instanceMethod yX3_end ∈ gB := gB_mem (k := 676) (by decide +kernel) (by decide +kernel)
theorem seX3_end : Cond.selects RX3 yX3_end yX3_end ∈ gB := gB_mem (k := 677) (by decide +kernel) (by decide +kernel)
abbrev fX3_find : gF := (yX3_find, cX3_find, 3, none, 4, 98)
theorem mX3_find : gMi fX3_find 0 := ⟨gB_mem (k := 565) (by decide +kernel) (by decide +kernel), gB_mem (k := 69) (by decide +kernel) (by decide +kernel), by decide +kernel, by decide +kernel, by decide +kernel⟩
theorem imX3_find : Cond.instanceMethod yX3_find ∈ gB := gB_mem (k := 563) (by decide +kernel) (by decide +kernel)
theorem seX3_find : Cond.selects RX3 yX3_find yX3_find ∈ gB := gB_mem (k := 564) (by decide +kernel) (by decide +kernel)
abbrev fX3_init : gF := (yX3_init, cX3_init, 4, none, 1, 20)
theorem mX3_init : gMi fX3_init 3 := ⟨gB_mem (k := 262) (by decide +kernel) (by decide +kernel), gB_mem (k := 69) (by decide +kernel) (by decide +kernel), by decide +kernel, by decide +kernel, by decide +kernel⟩
theorem imX3_init : Cond.instanceMethod yX3_init ∈ gB := gB_mem (k := 261) (by decide +kernel) (by decide +kernel)
abbrev fX3_lowered : gF := (yX3_lowered, cX3_lowered, 5, some .int, 2, 45)
theorem mX3_lowered : gMi fX3_lowered 3 := ⟨gB_mem (k := 595) (by decide +kernel) (by decide +kernel), gB_mem (k := 69) (by decide +kernel) (by decide +kernel), by decide +kernel, by decide +kernel, by decide +kernel⟩
theorem imX3_lowered : Cond.instanceMethod yX3_lowered ∈ gB := gB_mem (k := 594) (by decide +kernel) (by decide +kernel)
theorem seX3_lowered : Cond.selects RX3 yX3_lowered yX3_lowered ∈ gB := gB_mem (k := 16) (by decide +kernel) (by decide +kernel)
abbrev fX3_setAcross : gF := (yX3_setAcross, cX3_setAcross, 10, none, 3, 69)
theorem mX3_setAcross : gMi fX3_setAcross 2 := ⟨gB_mem (k := 580) (by decide +kernel) (by decide +kernel), gB_mem (k := 69) (by decide +kernel) (by decide +kernel), by decide +kernel, by decide +kernel, by decide +kernel⟩
theorem imX3_setAcross : Cond.instanceMethod yX3_setAcross ∈ gB := gB_mem (k := 579) (by decide +kernel) (by decide +kernel)
theorem seX3_setAcross : Cond.selects RX3 yX3_setAcross yX3_setAcross ∈ gB := gB_mem (k := 15) (by decide +kernel) (by decide +kernel)
abbrev fX3_setAlong : gF := (yX3_setAlong, cX3_setAlong, 10, none, 2, 46)
theorem mX3_setAlong : gMi fX3_setAlong 1 := ⟨gB_mem (k := 569) (by decide +kernel) (by decide +kernel), gB_mem (k := 69) (by decide +kernel) (by decide +kernel), by decide +kernel, by decide +kernel, by decide +kernel⟩
theorem imX3_setAlong : Cond.instanceMethod yX3_setAlong ∈ gB := gB_mem (k := 568) (by decide +kernel) (by decide +kernel)
theorem seX3_setAlong : Cond.selects RX3 yX3_setAlong yX3_setAlong ∈ gB := gB_mem (k := 13) (by decide +kernel) (by decide +kernel)
abbrev fX3_shift : gF := (yX3_shift, cX3_shift, 5, some .int, 1, 22)
theorem mX3_shift : gMi fX3_shift 3 := ⟨gB_mem (k := 575) (by decide +kernel) (by decide +kernel), gB_mem (k := 69) (by decide +kernel) (by decide +kernel), by decide +kernel, by decide +kernel, by decide +kernel⟩
theorem imX3_shift : Cond.instanceMethod yX3_shift ∈ gB := gB_mem (k := 574) (by decide +kernel) (by decide +kernel)
theorem seX3_shift : Cond.selects RX3 yX3_shift yX3_shift ∈ gB := gB_mem (k := 14) (by decide +kernel) (by decide +kernel)
abbrev fX4_above : gF := (yX4_above, cX4_above, 2, some .int, 1, 23)
theorem mX4_above : gMi fX4_above 1 := ⟨gB_mem (k := 591) (by decide +kernel) (by decide +kernel), gB_mem (k := 64) (by decide +kernel) (by decide +kernel), by decide +kernel, by decide +kernel, by decide +kernel⟩
theorem imX4_above : Cond.instanceMethod yX4_above ∈ gB := gB_mem (k := 589) (by decide +kernel) (by decide +kernel)
theorem seX4_above : Cond.selects RX4 yX4_above yX4_above ∈ gB := gB_mem (k := 590) (by decide +kernel) (by decide +kernel)
abbrev fX4_append : gF := (yX4_append, cX4_append, 3, none, 1, 23)
theorem mX4_append : gMi fX4_append 1 := ⟨gB_mem (k := 450) (by decide +kernel) (by decide +kernel), gB_mem (k := 64) (by decide +kernel) (by decide +kernel), by decide +kernel, by decide +kernel, by decide +kernel⟩
theorem imX4_append : Cond.instanceMethod yX4_append ∈ gB := gB_mem (k := 448) (by decide +kernel) (by decide +kernel)
theorem seX4_append : Cond.selects RX4 yX4_append yX4_append ∈ gB := gB_mem (k := 449) (by decide +kernel) (by decide +kernel)
abbrev fX4_carry : gF := (yX4_carry, cX4_carry, 4, none, 2, 47)
theorem mX4_carry : gMi fX4_carry 2 := ⟨gB_mem (k := 458) (by decide +kernel) (by decide +kernel), gB_mem (k := 64) (by decide +kernel) (by decide +kernel), by decide +kernel, by decide +kernel, by decide +kernel⟩
theorem imX4_carry : Cond.instanceMethod yX4_carry ∈ gB := gB_mem (k := 456) (by decide +kernel) (by decide +kernel)
theorem seX4_carry : Cond.selects RX4 yX4_carry yX4_carry ∈ gB := gB_mem (k := 457) (by decide +kernel) (by decide +kernel)
abbrev fX4_greatest : gF := (yX4_greatest, cX4_greatest, 2, some .int, 1, 23)
theorem mX4_greatest : gMi fX4_greatest 1 := ⟨gB_mem (k := 495) (by decide +kernel) (by decide +kernel), gB_mem (k := 64) (by decide +kernel) (by decide +kernel), by decide +kernel, by decide +kernel, by decide +kernel⟩
theorem imX4_greatest : Cond.instanceMethod yX4_greatest ∈ gB := gB_mem (k := 493) (by decide +kernel) (by decide +kernel)
theorem seX4_greatest : Cond.selects RX4 yX4_greatest yX4_greatest ∈ gB := gB_mem (k := 494) (by decide +kernel) (by decide +kernel)
abbrev fX4_has : gF := (yX4_has, cX4_has, 2, some .boolean, 0, 0)
theorem mX4_has : gMi fX4_has 1 := ⟨gB_mem (k := 474) (by decide +kernel) (by decide +kernel), gB_mem (k := 64) (by decide +kernel) (by decide +kernel), by decide +kernel, by decide +kernel, by decide +kernel⟩
theorem imX4_has : Cond.instanceMethod yX4_has ∈ gB := gB_mem (k := 472) (by decide +kernel) (by decide +kernel)
theorem seX4_has : Cond.selects RX4 yX4_has yX4_has ∈ gB := gB_mem (k := 473) (by decide +kernel) (by decide +kernel)
abbrev fX4_init : gF := (yX4_init, cX4_init, 1, none, 1, 26)
theorem mX4_init : gMi fX4_init 0 := ⟨gB_mem (k := 114) (by decide +kernel) (by decide +kernel), gB_mem (k := 64) (by decide +kernel) (by decide +kernel), by decide +kernel, by decide +kernel, by decide +kernel⟩
theorem imX4_init : Cond.instanceMethod yX4_init ∈ gB := gB_mem (k := 113) (by decide +kernel) (by decide +kernel)
abbrev fX4_number : gF := (yX4_number, cX4_number, 2, some .int, 0, 0)
theorem mX4_number : gMi fX4_number 1 := ⟨gB_mem (k := 508) (by decide +kernel) (by decide +kernel), gB_mem (k := 64) (by decide +kernel) (by decide +kernel), by decide +kernel, by decide +kernel, by decide +kernel⟩
theorem imX4_number : Cond.instanceMethod yX4_number ∈ gB := gB_mem (k := 506) (by decide +kernel) (by decide +kernel)
theorem seX4_number : Cond.selects RX4 yX4_number yX4_number ∈ gB := gB_mem (k := 507) (by decide +kernel) (by decide +kernel)
abbrev fX4_property : gF := (yX4_property, cX4_property, 4, some .int, 0, 0)
theorem mX4_property : gMi fX4_property 2 := ⟨gB_mem (k := 466) (by decide +kernel) (by decide +kernel), gB_mem (k := 64) (by decide +kernel) (by decide +kernel), by decide +kernel, by decide +kernel, by decide +kernel⟩
theorem imX4_property : Cond.instanceMethod yX4_property ∈ gB := gB_mem (k := 464) (by decide +kernel) (by decide +kernel)
theorem seX4_property : Cond.selects RX4 yX4_property yX4_property ∈ gB := gB_mem (k := 465) (by decide +kernel) (by decide +kernel)
abbrev fX4_put : gF := (yX4_put, cX4_put, 4, none, 0, 0)
theorem mX4_put : gMi fX4_put 3 := ⟨gB_mem (k := 454) (by decide +kernel) (by decide +kernel), gB_mem (k := 64) (by decide +kernel) (by decide +kernel), by decide +kernel, by decide +kernel, by decide +kernel⟩
theorem imX4_put : Cond.instanceMethod yX4_put ∈ gB := gB_mem (k := 452) (by decide +kernel) (by decide +kernel)
theorem seX4_put : Cond.selects RX4 yX4_put yX4_put ∈ gB := gB_mem (k := 453) (by decide +kernel) (by decide +kernel)
abbrev fX4_setNumber : gF := (yX4_setNumber, cX4_setNumber, 3, none, 0, 0)
theorem mX4_setNumber : gMi fX4_setNumber 2 := ⟨gB_mem (k := 623) (by decide +kernel) (by decide +kernel), gB_mem (k := 64) (by decide +kernel) (by decide +kernel), by decide +kernel, by decide +kernel, by decide +kernel⟩
theorem imX4_setNumber : Cond.instanceMethod yX4_setNumber ∈ gB := gB_mem (k := 621) (by decide +kernel) (by decide +kernel)
theorem seX4_setNumber : Cond.selects RX4 yX4_setNumber yX4_setNumber ∈ gB := gB_mem (k := 622) (by decide +kernel) (by decide +kernel)
abbrev fX4_swap : gF := (yX4_swap, cX4_swap, 5, none, 1, 23)
theorem mX4_swap : gMi fX4_swap 2 := ⟨gB_mem (k := 462) (by decide +kernel) (by decide +kernel), gB_mem (k := 64) (by decide +kernel) (by decide +kernel), by decide +kernel, by decide +kernel, by decide +kernel⟩
theorem imX4_swap : Cond.instanceMethod yX4_swap ∈ gB := gB_mem (k := 461) (by decide +kernel) (by decide +kernel)
theorem seX4_swap : Cond.selects RX4 yX4_swap yX4_swap ∈ gB := gB_mem (k := 5) (by decide +kernel) (by decide +kernel)
abbrev fX4_wayAcross : gF := (yX4_wayAcross, cX4_wayAcross, 3, some .int, 1, 23)
theorem mX4_wayAcross : gMi fX4_wayAcross 1 := ⟨gB_mem (k := 586) (by decide +kernel) (by decide +kernel), gB_mem (k := 64) (by decide +kernel) (by decide +kernel), by decide +kernel, by decide +kernel, by decide +kernel⟩
theorem imX4_wayAcross : Cond.instanceMethod yX4_wayAcross ∈ gB := gB_mem (k := 584) (by decide +kernel) (by decide +kernel)
theorem seX4_wayAcross : Cond.selects RX4 yX4_wayAcross yX4_wayAcross ∈ gB := gB_mem (k := 585) (by decide +kernel) (by decide +kernel)
abbrev fX4_wish : gF := (yX4_wish, cX4_wish, 2, some .int, 2, 44)
theorem mX4_wish : gMi fX4_wish 1 := ⟨gB_mem (k := 502) (by decide +kernel) (by decide +kernel), gB_mem (k := 64) (by decide +kernel) (by decide +kernel), by decide +kernel, by decide +kernel, by decide +kernel⟩
theorem imX4_wish : Cond.instanceMethod yX4_wish ∈ gB := gB_mem (k := 500) (by decide +kernel) (by decide +kernel)
theorem seX4_wish : Cond.selects RX4 yX4_wish yX4_wish ∈ gB := gB_mem (k := 501) (by decide +kernel) (by decide +kernel)
abbrev fX5_append : gF := (yX5_append, cX5_append, 2, some .boolean, 0, 0)
theorem mX5_append : gMi fX5_append 1 := ⟨gB_mem (k := 326) (by decide +kernel) (by decide +kernel), gB_mem (k := 63) (by decide +kernel) (by decide +kernel), by decide +kernel, by decide +kernel, by decide +kernel⟩
theorem imX5_append : Cond.instanceMethod yX5_append ∈ gB := gB_mem (k := 324) (by decide +kernel) (by decide +kernel)
theorem seX5_append : Cond.selects RX5 yX5_append yX5_append ∈ gB := gB_mem (k := 325) (by decide +kernel) (by decide +kernel)
abbrev fX5_byteAt : gF := (yX5_byteAt, cX5_byteAt, 2, some .int, 0, 0)
theorem mX5_byteAt : gMi fX5_byteAt 1 := ⟨gB_mem (k := 353) (by decide +kernel) (by decide +kernel), gB_mem (k := 63) (by decide +kernel) (by decide +kernel), by decide +kernel, by decide +kernel, by decide +kernel⟩
theorem imX5_byteAt : Cond.instanceMethod yX5_byteAt ∈ gB := gB_mem (k := 351) (by decide +kernel) (by decide +kernel)
theorem seX5_byteAt : Cond.selects RX5 yX5_byteAt yX5_byteAt ∈ gB := gB_mem (k := 352) (by decide +kernel) (by decide +kernel)
abbrev fX5_init : gF := (yX5_init, cX5_init, 1, none, 1, 20)
theorem mX5_init : gMi fX5_init 0 := ⟨gB_mem (k := 88) (by decide +kernel) (by decide +kernel), gB_mem (k := 63) (by decide +kernel) (by decide +kernel), by decide +kernel, by decide +kernel, by decide +kernel⟩
theorem imX5_init : Cond.instanceMethod yX5_init ∈ gB := gB_mem (k := 87) (by decide +kernel) (by decide +kernel)
abbrev fX5_isDigit : gF := (yX5_isDigit, cX5_isDigit, 1, some .boolean, 0, 0)
theorem mX5_isDigit : gMi fX5_isDigit 1 := ⟨gB_mem (k := 356) (by decide +kernel) (by decide +kernel), gB_mem (k := 63) (by decide +kernel) (by decide +kernel), by decide +kernel, by decide +kernel, by decide +kernel⟩
theorem smX5_isDigit : Cond.static yX5_isDigit ∈ gB := gB_mem (k := 355) (by decide +kernel) (by decide +kernel)
abbrev fX5_isLetter : gF := (yX5_isLetter, cX5_isLetter, 1, some .boolean, 0, 0)
theorem mX5_isLetter : gMi fX5_isLetter 1 := ⟨gB_mem (k := 367) (by decide +kernel) (by decide +kernel), gB_mem (k := 63) (by decide +kernel) (by decide +kernel), by decide +kernel, by decide +kernel, by decide +kernel⟩
theorem smX5_isLetter : Cond.static yX5_isLetter ∈ gB := gB_mem (k := 366) (by decide +kernel) (by decide +kernel)
abbrev fX5_read : gF := (yX5_read, cX5_read, 4, some .int, 7, 152)
theorem mX5_read : gMi fX5_read 0 := ⟨gB_mem (k := 338) (by decide +kernel) (by decide +kernel), gB_mem (k := 63) (by decide +kernel) (by decide +kernel), by decide +kernel, by decide +kernel, by decide +kernel⟩
theorem imX5_read : Cond.instanceMethod yX5_read ∈ gB := gB_mem (k := 336) (by decide +kernel) (by decide +kernel)
theorem seX5_read : Cond.selects RX5 yX5_read yX5_read ∈ gB := gB_mem (k := 337) (by decide +kernel) (by decide +kernel)
abbrev fX5_readNumber : gF := (yX5_readNumber, cX5_readNumber, 6, some .int, 2, 41)
theorem mX5_readNumber : gMi fX5_readNumber 1 := ⟨gB_mem (k := 345) (by decide +kernel) (by decide +kernel), gB_mem (k := 63) (by decide +kernel) (by decide +kernel), by decide +kernel, by decide +kernel, by decide +kernel⟩
theorem imX5_readNumber : Cond.instanceMethod yX5_readNumber ∈ gB := gB_mem (k := 344) (by decide +kernel) (by decide +kernel)
theorem seX5_readNumber : Cond.selects RX5 yX5_readNumber yX5_readNumber ∈ gB := gB_mem (k := 0) (by decide +kernel) (by decide +kernel)
abbrev fX5_readWord : gF := (yX5_readWord, cX5_readWord, 4, some .int, 6, 129)
theorem mX5_readWord : gMi fX5_readWord 0 := ⟨gB_mem (k := 364) (by decide +kernel) (by decide +kernel), gB_mem (k := 63) (by decide +kernel) (by decide +kernel), by decide +kernel, by decide +kernel, by decide +kernel⟩
theorem imX5_readWord : Cond.instanceMethod yX5_readWord ∈ gB := gB_mem (k := 363) (by decide +kernel) (by decide +kernel)
theorem seX5_readWord : Cond.selects RX5 yX5_readWord yX5_readWord ∈ gB := gB_mem (k := 2) (by decide +kernel) (by decide +kernel)
abbrev fX5_skipBlanks : gF := (yX5_skipBlanks, cX5_skipBlanks, 1, none, 1, 21)
theorem mX5_skipBlanks : gMi fX5_skipBlanks 0 := ⟨gB_mem (k := 349) (by decide +kernel) (by decide +kernel), gB_mem (k := 63) (by decide +kernel) (by decide +kernel), by decide +kernel, by decide +kernel, by decide +kernel⟩
theorem imX5_skipBlanks : Cond.instanceMethod yX5_skipBlanks ∈ gB := gB_mem (k := 348) (by decide +kernel) (by decide +kernel)
theorem seX5_skipBlanks : Cond.selects RX5 yX5_skipBlanks yX5_skipBlanks ∈ gB := gB_mem (k := 1) (by decide +kernel) (by decide +kernel)
abbrev fX5_stands : gF := (yX5_stands, cX5_stands, 4, some .boolean, 5, 106)
theorem mX5_stands : gMi fX5_stands 2 := ⟨gB_mem (k := 383) (by decide +kernel) (by decide +kernel), gB_mem (k := 63) (by decide +kernel) (by decide +kernel), by decide +kernel, by decide +kernel, by decide +kernel⟩
theorem imX5_stands : Cond.instanceMethod yX5_stands ∈ gB := gB_mem (k := 382) (by decide +kernel) (by decide +kernel)
theorem seX5_stands : Cond.selects RX5 yX5_stands yX5_stands ∈ gB := gB_mem (k := 3) (by decide +kernel) (by decide +kernel)
abbrev fX5_word : gF := (yX5_word, cX5_word, 1, some (.object "java/lang/String"), 0, 0)
theorem mX5_word : gMi fX5_word 1 := ⟨gB_mem (k := 370) (by decide +kernel) (by decide +kernel), gB_mem (k := 63) (by decide +kernel) (by decide +kernel), by decide +kernel, by decide +kernel, by decide +kernel⟩
theorem smX5_word : Cond.static yX5_word ∈ gB := gB_mem (k := 369) (by decide +kernel) (by decide +kernel)
abbrev fX6_at : gF := (yX6_at, cX6_at, 4, some .int, 6, 145)
theorem mX6_at : gMi fX6_at 2 := ⟨gB_mem (k := 670) (by decide +kernel) (by decide +kernel), gB_mem (k := 62) (by decide +kernel) (by decide +kernel), by decide +kernel, by decide +kernel, by decide +kernel⟩
theorem imX6_at : Cond.instanceMethod yX6_at ∈ gB := gB_mem (k := 668) (by decide +kernel) (by decide +kernel)
theorem seX6_at : Cond.selects RX6 yX6_at yX6_at ∈ gB := gB_mem (k := 669) (by decide +kernel) (by decide +kernel)
abbrev fX6_beforeChange : gF := (yX6_beforeChange, cX6_beforeChange, 1, none, 2, 48)
theorem mX6_beforeChange : gMi fX6_beforeChange 0 := ⟨gB_mem (k := 435) (by decide +kernel) (by decide +kernel), gB_mem (k := 62) (by decide +kernel) (by decide +kernel), by decide +kernel, by decide +kernel, by decide +kernel⟩
theorem imX6_beforeChange : Cond.instanceMethod yX6_beforeChange ∈ gB := gB_mem (k := 434) (by decide +kernel) (by decide +kernel)
theorem seX6_beforeChange : Cond.selects RX6 yX6_beforeChange yX6_beforeChange ∈ gB := gB_mem (k := 4) (by decide +kernel) (by decide +kernel)
abbrev fX6_change : gF := (yX6_change, cX6_change, 5, some .int, 3, 68)
theorem mX6_change : gMi fX6_change 3 := ⟨gB_mem (k := 603) (by decide +kernel) (by decide +kernel), gB_mem (k := 62) (by decide +kernel) (by decide +kernel), by decide +kernel, by decide +kernel, by decide +kernel⟩
theorem imX6_change : Cond.instanceMethod yX6_change ∈ gB := gB_mem (k := 601) (by decide +kernel) (by decide +kernel)
theorem seX6_change : Cond.selects RX6 yX6_change yX6_change ∈ gB := gB_mem (k := 602) (by decide +kernel) (by decide +kernel)
abbrev fX6_clear : gF := (yX6_clear, cX6_clear, 2, some .int, 0, 0)
theorem mX6_clear : gMi fX6_clear 0 := ⟨gB_mem (k := 330) (by decide +kernel) (by decide +kernel), gB_mem (k := 62) (by decide +kernel) (by decide +kernel), by decide +kernel, by decide +kernel, by decide +kernel⟩
theorem imX6_clear : Cond.instanceMethod yX6_clear ∈ gB := gB_mem (k := 328) (by decide +kernel) (by decide +kernel)
theorem seX6_clear : Cond.selects RX6 yX6_clear yX6_clear ∈ gB := gB_mem (k := 329) (by decide +kernel) (by decide +kernel)
abbrev fX6_count : gF := (yX6_count, cX6_count, 2, some .int, 6, 145)
theorem mX6_count : gMi fX6_count 1 := ⟨gB_mem (k := 690) (by decide +kernel) (by decide +kernel), gB_mem (k := 62) (by decide +kernel) (by decide +kernel), by decide +kernel, by decide +kernel, by decide +kernel⟩
theorem imX6_count : Cond.instanceMethod yX6_count ∈ gB := gB_mem (k := 688) (by decide +kernel) (by decide +kernel)
theorem seX6_count : Cond.selects RX6 yX6_count yX6_count ∈ gB := gB_mem (k := 689) (by decide +kernel) (by decide +kernel)
abbrev fX6_counted : gF := (yX6_counted, cX6_counted, 2, some .int, 2, 43)
theorem mX6_counted : gMi fX6_counted 1 := ⟨gB_mem (k := 694) (by decide +kernel) (by decide +kernel), gB_mem (k := 62) (by decide +kernel) (by decide +kernel), by decide +kernel, by decide +kernel, by decide +kernel⟩
theorem imX6_counted : Cond.instanceMethod yX6_counted ∈ gB := gB_mem (k := 693) (by decide +kernel) (by decide +kernel)
theorem seX6_counted : Cond.selects RX6 yX6_counted yX6_counted ∈ gB := gB_mem (k := 19) (by decide +kernel) (by decide +kernel)
abbrev fX6_digest : gF := (yX6_digest, cX6_digest, 5, some .long, 6, 145)
theorem mX6_digest : gMi fX6_digest 0 := ⟨gB_mem (k := 704) (by decide +kernel) (by decide +kernel), gB_mem (k := 62) (by decide +kernel) (by decide +kernel), by decide +kernel, by decide +kernel, by decide +kernel⟩
theorem imX6_digest : Cond.instanceMethod yX6_digest ∈ gB := gB_mem (k := 702) (by decide +kernel) (by decide +kernel)
theorem seX6_digest : Cond.selects RX6 yX6_digest yX6_digest ∈ gB := gB_mem (k := 703) (by decide +kernel) (by decide +kernel)
abbrev fX6_greatestEnd : gF := (yX6_greatestEnd, cX6_greatestEnd, 3, some .int, 1, 21)
theorem mX6_greatestEnd : gMi fX6_greatestEnd 0 := ⟨gB_mem (k := 698) (by decide +kernel) (by decide +kernel), gB_mem (k := 62) (by decide +kernel) (by decide +kernel), by decide +kernel, by decide +kernel, by decide +kernel⟩
theorem imX6_greatestEnd : Cond.instanceMethod yX6_greatestEnd ∈ gB := gB_mem (k := 697) (by decide +kernel) (by decide +kernel)
theorem seX6_greatestEnd : Cond.selects RX6 yX6_greatestEnd yX6_greatestEnd ∈ gB := gB_mem (k := 20) (by decide +kernel) (by decide +kernel)
abbrev fX6_hide : gF := (yX6_hide, cX6_hide, 3, some .int, 3, 68)
theorem mX6_hide : gMi fX6_hide 1 := ⟨gB_mem (k := 611) (by decide +kernel) (by decide +kernel), gB_mem (k := 62) (by decide +kernel) (by decide +kernel), by decide +kernel, by decide +kernel, by decide +kernel⟩
theorem imX6_hide : Cond.instanceMethod yX6_hide ∈ gB := gB_mem (k := 609) (by decide +kernel) (by decide +kernel)
theorem seX6_hide : Cond.selects RX6 yX6_hide yX6_hide ∈ gB := gB_mem (k := 610) (by decide +kernel) (by decide +kernel)
abbrev fX6_init : gF := (yX6_init, cX6_init, 1, none, 2, 46)
theorem mX6_init : gMi fX6_init 0 := ⟨gB_mem (k := 80) (by decide +kernel) (by decide +kernel), gB_mem (k := 62) (by decide +kernel) (by decide +kernel), by decide +kernel, by decide +kernel, by decide +kernel⟩
theorem imX6_init : Cond.instanceMethod yX6_init ∈ gB := gB_mem (k := 79) (by decide +kernel) (by decide +kernel)
abbrev fX6_insert : gF := (yX6_insert, cX6_insert, 3, some .int, 8, 175)
theorem mX6_insert : gMi fX6_insert 1 := ⟨gB_mem (k := 334) (by decide +kernel) (by decide +kernel), gB_mem (k := 62) (by decide +kernel) (by decide +kernel), by decide +kernel, by decide +kernel, by decide +kernel⟩
theorem imX6_insert : Cond.instanceMethod yX6_insert ∈ gB := gB_mem (k := 332) (by decide +kernel) (by decide +kernel)
theorem seX6_insert : Cond.selects RX6 yX6_insert yX6_insert ∈ gB := gB_mem (k := 333) (by decide +kernel) (by decide +kernel)
abbrev fX6_item : gF := (yX6_item, cX6_item, 3, some .int, 3, 65)
theorem mX6_item : gMi fX6_item 2 := ⟨gB_mem (k := 635) (by decide +kernel) (by decide +kernel), gB_mem (k := 62) (by decide +kernel) (by decide +kernel), by decide +kernel, by decide +kernel, by decide +kernel⟩
theorem imX6_item : Cond.instanceMethod yX6_item ∈ gB := gB_mem (k := 633) (by decide +kernel) (by decide +kernel)
theorem seX6_item : Cond.selects RX6 yX6_item yX6_item ∈ gB := gB_mem (k := 634) (by decide +kernel) (by decide +kernel)
abbrev fX6_layOut : gF := (yX6_layOut, cX6_layOut, 1, none, 5, 125)
theorem mX6_layOut : gMi fX6_layOut 0 := ⟨gB_mem (k := 482) (by decide +kernel) (by decide +kernel), gB_mem (k := 62) (by decide +kernel) (by decide +kernel), by decide +kernel, by decide +kernel, by decide +kernel⟩
theorem imX6_layOut : Cond.instanceMethod yX6_layOut ∈ gB := gB_mem (k := 481) (by decide +kernel) (by decide +kernel)
theorem seX6_layOut : Cond.selects RX6 yX6_layOut yX6_layOut ∈ gB := gB_mem (k := 6) (by decide +kernel) (by decide +kernel)
abbrev fX6_leastWidth : gF := (yX6_leastWidth, cX6_leastWidth, 6, some .int, 5, 125)
theorem mX6_leastWidth : gMi fX6_leastWidth 2 := ⟨gB_mem (k := 682) (by decide +kernel) (by decide +kernel), gB_mem (k := 62) (by decide +kernel) (by decide +kernel), by decide +kernel, by decide +kernel, by decide +kernel⟩
theorem imX6_leastWidth : Cond.instanceMethod yX6_leastWidth ∈ gB := gB_mem (k := 680) (by decide +kernel) (by decide +kernel)
theorem seX6_leastWidth : Cond.selects RX6 yX6_leastWidth yX6_leastWidth ∈ gB := gB_mem (k := 681) (by decide +kernel) (by decide +kernel)
abbrev fX6_lieAt : gF := (yX6_lieAt, cX6_lieAt, 4, some .int, 2, 44)
theorem mX6_lieAt : gMi fX6_lieAt 2 := ⟨gB_mem (k := 644) (by decide +kernel) (by decide +kernel), gB_mem (k := 62) (by decide +kernel) (by decide +kernel), by decide +kernel, by decide +kernel, by decide +kernel⟩
theorem imX6_lieAt : Cond.instanceMethod yX6_lieAt ∈ gB := gB_mem (k := 643) (by decide +kernel) (by decide +kernel)
theorem seX6_lieAt : Cond.selects RX6 yX6_lieAt yX6_lieAt ∈ gB := gB_mem (k := 17) (by decide +kernel) (by decide +kernel)
abbrev fX6_lies : gF := (yX6_lies, cX6_lies, 3, some .int, 6, 145)
theorem mX6_lies : gMi fX6_lies 2 := ⟨gB_mem (k := 640) (by decide +kernel) (by decide +kernel), gB_mem (k := 62) (by decide +kernel) (by decide +kernel), by decide +kernel, by decide +kernel, by decide +kernel⟩
theorem imX6_lies : Cond.instanceMethod yX6_lies ∈ gB := gB_mem (k := 638) (by decide +kernel) (by decide +kernel)
theorem seX6_lies : Cond.selects RX6 yX6_lies yX6_lies ∈ gB := gB_mem (k := 639) (by decide +kernel) (by decide +kernel)
abbrev fX6_line : gF := (yX6_line, cX6_line, 3, some .int, 6, 145)
theorem mX6_line : gMi fX6_line 2 := ⟨gB_mem (k := 661) (by decide +kernel) (by decide +kernel), gB_mem (k := 62) (by decide +kernel) (by decide +kernel), by decide +kernel, by decide +kernel, by decide +kernel⟩
theorem imX6_line : Cond.instanceMethod yX6_line ∈ gB := gB_mem (k := 659) (by decide +kernel) (by decide +kernel)
theorem seX6_line : Cond.selects RX6 yX6_line yX6_line ∈ gB := gB_mem (k := 660) (by decide +kernel) (by decide +kernel)
abbrev fX6_lineTells : gF := (yX6_lineTells, cX6_lineTells, 3, some .int, 1, 21)
theorem mX6_lineTells : gMi fX6_lineTells 2 := ⟨gB_mem (k := 665) (by decide +kernel) (by decide +kernel), gB_mem (k := 62) (by decide +kernel) (by decide +kernel), by decide +kernel, by decide +kernel, by decide +kernel⟩
theorem imX6_lineTells : Cond.instanceMethod yX6_lineTells ∈ gB := gB_mem (k := 664) (by decide +kernel) (by decide +kernel)
theorem seX6_lineTells : Cond.selects RX6 yX6_lineTells yX6_lineTells ∈ gB := gB_mem (k := 18) (by decide +kernel) (by decide +kernel)
abbrev fX6_move : gF := (yX6_move, cX6_move, 3, some .int, 6, 145)
theorem mX6_move : gMi fX6_move 2 := ⟨gB_mem (k := 478) (by decide +kernel) (by decide +kernel), gB_mem (k := 62) (by decide +kernel) (by decide +kernel), by decide +kernel, by decide +kernel, by decide +kernel⟩
theorem imX6_move : Cond.instanceMethod yX6_move ∈ gB := gB_mem (k := 476) (by decide +kernel) (by decide +kernel)
theorem seX6_move : Cond.selects RX6 yX6_move yX6_move ∈ gB := gB_mem (k := 477) (by decide +kernel) (by decide +kernel)
abbrev fX6_ordered : gF := (yX6_ordered, cX6_ordered, 2, some .int, 6, 145)
theorem mX6_ordered : gMi fX6_ordered 1 := ⟨gB_mem (k := 653) (by decide +kernel) (by decide +kernel), gB_mem (k := 62) (by decide +kernel) (by decide +kernel), by decide +kernel, by decide +kernel, by decide +kernel⟩
theorem imX6_ordered : Cond.instanceMethod yX6_ordered ∈ gB := gB_mem (k := 651) (by decide +kernel) (by decide +kernel)
theorem seX6_ordered : Cond.selects RX6 yX6_ordered yX6_ordered ∈ gB := gB_mem (k := 652) (by decide +kernel) (by decide +kernel)
abbrev fX6_remove : gF := (yX6_remove, cX6_remove, 2, some .int, 3, 70)
theorem mX6_remove : gMi fX6_remove 1 := ⟨gB_mem (k := 470) (by decide +kernel) (by decide +kernel), gB_mem (k := 62) (by decide +kernel) (by decide +kernel), by decide +kernel, by decide +kernel, by decide +kernel⟩
theorem imX6_remove : Cond.instanceMethod yX6_remove ∈ gB := gB_mem (k := 468) (by decide +kernel) (by decide +kernel)
theorem seX6_remove : Cond.selects RX6 yX6_remove yX6_remove ∈ gB := gB_mem (k := 469) (by decide +kernel) (by decide +kernel)
abbrev fX6_set : gF := (yX6_set, cX6_set, 4, some .int, 3, 68)
theorem mX6_set : gMi fX6_set 2 := ⟨gB_mem (k := 615) (by decide +kernel) (by decide +kernel), gB_mem (k := 62) (by decide +kernel) (by decide +kernel), by decide +kernel, by decide +kernel, by decide +kernel⟩
theorem imX6_set : Cond.instanceMethod yX6_set ∈ gB := gB_mem (k := 613) (by decide +kernel) (by decide +kernel)
theorem seX6_set : Cond.selects RX6 yX6_set yX6_set ∈ gB := gB_mem (k := 614) (by decide +kernel) (by decide +kernel)
abbrev fX6_type : gF := (yX6_type, cX6_type, 2, some .int, 1, 21)
theorem mX6_type : gMi fX6_type 1 := ⟨gB_mem (k := 322) (by decide +kernel) (by decide +kernel), gB_mem (k := 62) (by decide +kernel) (by decide +kernel), by decide +kernel, by decide +kernel, by decide +kernel⟩
theorem imX6_type : Cond.instanceMethod yX6_type ∈ gB := gB_mem (k := 320) (by decide +kernel) (by decide +kernel)
theorem seX6_type : Cond.selects RX6 yX6_type yX6_type ∈ gB := gB_mem (k := 321) (by decide +kernel) (by decide +kernel)
abbrev fX6_undo : gF := (yX6_undo, cX6_undo, 1, some .int, 2, 48)
theorem mX6_undo : gMi fX6_undo 0 := ⟨gB_mem (k := 627) (by decide +kernel) (by decide +kernel), gB_mem (k := 62) (by decide +kernel) (by decide +kernel), by decide +kernel, by decide +kernel, by decide +kernel⟩
theorem imX6_undo : Cond.instanceMethod yX6_undo ∈ gB := gB_mem (k := 625) (by decide +kernel) (by decide +kernel)
theorem seX6_undo : Cond.selects RX6 yX6_undo yX6_undo ∈ gB := gB_mem (k := 626) (by decide +kernel) (by decide +kernel)
abbrev fX6_withItem : gF := (yX6_withItem, cX6_withItem, 6, some .long, 3, 67)
theorem mX6_withItem : gMi fX6_withItem 2 := ⟨gB_mem (k := 710) (by decide +kernel) (by decide +kernel), gB_mem (k := 62) (by decide +kernel) (by decide +kernel), by decide +kernel, by decide +kernel, by decide +kernel⟩
theorem imX6_withItem : Cond.instanceMethod yX6_withItem ∈ gB := gB_mem (k := 709) (by decide +kernel) (by decide +kernel)
theorem seX6_withItem : Cond.selects RX6 yX6_withItem yX6_withItem ∈ gB := gB_mem (k := 21) (by decide +kernel) (by decide +kernel)
abbrev fX7_above : gF := (yX7_above, cX7_above, 2, some .int, 1, 22)
theorem mX7_above : gMi fX7_above 1 := ⟨gB_mem (k := 967) (by decide +kernel) (by decide +kernel), gB_mem (k := 70) (by decide +kernel) (by decide +kernel), by decide +kernel, by decide +kernel, by decide +kernel⟩
theorem imX7_above : Cond.instanceMethod yX7_above ∈ gB := gB_mem (k := 966) (by decide +kernel) (by decide +kernel)
theorem seX7_above : Cond.selects RX7 yX7_above yX7_above ∈ gB := gB_mem (k := 50) (by decide +kernel) (by decide +kernel)
abbrev fX7_across : gF := (yX7_across, cX7_across, 8, none, 2, 44)
theorem mX7_across : gMi fX7_across 1 := ⟨gB_mem (k := 959) (by decide +kernel) (by decide +kernel), gB_mem (k := 70) (by decide +kernel) (by decide +kernel), by decide +kernel, by decide +kernel, by decide +kernel⟩
theorem imX7_across : Cond.instanceMethod yX7_across ∈ gB := gB_mem (k := 958) (by decide +kernel) (by decide +kernel)
theorem seX7_across : Cond.selects RX7 yX7_across yX7_across ∈ gB := gB_mem (k := 48) (by decide +kernel) (by decide +kernel)
abbrev fX7_along : gF := (yX7_along, cX7_along, 7, none, 2, 46)
theorem mX7_along : gMi fX7_along 2 := ⟨gB_mem (k := 948) (by decide +kernel) (by decide +kernel), gB_mem (k := 70) (by decide +kernel) (by decide +kernel), by decide +kernel, by decide +kernel, by decide +kernel⟩
theorem imX7_along : Cond.instanceMethod yX7_along ∈ gB := gB_mem (k := 947) (by decide +kernel) (by decide +kernel)
theorem seX7_along : Cond.selects RX7 yX7_along yX7_along ∈ gB := gB_mem (k := 46) (by decide +kernel) (by decide +kernel)
abbrev fX7_at : gF := (yX7_at, cX7_at, 6, some .int, 6, 130)
theorem mX7_at : gMi fX7_at 2 := ⟨gB_mem (k := 1015) (by decide +kernel) (by decide +kernel), gB_mem (k := 70) (by decide +kernel) (by decide +kernel), by decide +kernel, by decide +kernel, by decide +kernel⟩
theorem imX7_at : Cond.instanceMethod yX7_at ∈ gB := gB_mem (k := 1013) (by decide +kernel) (by decide +kernel)
theorem seX7_at : Cond.selects RX7 yX7_at yX7_at ∈ gB := gB_mem (k := 1014) (by decide +kernel) (by decide +kernel)
abbrev fX7_change : gF := (yX7_change, cX7_change, 5, some .int, 2, 43)
theorem mX7_change : gMi fX7_change 3 := ⟨gB_mem (k := 975) (by decide +kernel) (by decide +kernel), gB_mem (k := 70) (by decide +kernel) (by decide +kernel), by decide +kernel, by decide +kernel, by decide +kernel⟩
theorem imX7_change : Cond.instanceMethod yX7_change ∈ gB := gB_mem (k := 973) (by decide +kernel) (by decide +kernel)
theorem seX7_change : Cond.selects RX7 yX7_change yX7_change ∈ gB := gB_mem (k := 974) (by decide +kernel) (by decide +kernel)
abbrev fX7_clear : gF := (yX7_clear, cX7_clear, 2, some .int, 0, 0)
theorem mX7_clear : gMi fX7_clear 0 := ⟨gB_mem (k := 814) (by decide +kernel) (by decide +kernel), gB_mem (k := 70) (by decide +kernel) (by decide +kernel), by decide +kernel, by decide +kernel, by decide +kernel⟩
theorem imX7_clear : Cond.instanceMethod yX7_clear ∈ gB := gB_mem (k := 812) (by decide +kernel) (by decide +kernel)
theorem seX7_clear : Cond.selects RX7 yX7_clear yX7_clear ∈ gB := gB_mem (k := 813) (by decide +kernel) (by decide +kernel)
abbrev fX7_copies : gF := (yX7_copies, cX7_copies, 4, none, 0, 0)
theorem mX7_copies : gMi fX7_copies 2 := ⟨gB_mem (k := 874) (by decide +kernel) (by decide +kernel), gB_mem (k := 70) (by decide +kernel) (by decide +kernel), by decide +kernel, by decide +kernel, by decide +kernel⟩
theorem imX7_copies : Cond.instanceMethod yX7_copies ∈ gB := gB_mem (k := 873) (by decide +kernel) (by decide +kernel)
theorem seX7_copies : Cond.selects RX7 yX7_copies yX7_copies ∈ gB := gB_mem (k := 31) (by decide +kernel) (by decide +kernel)
abbrev fX7_count : gF := (yX7_count, cX7_count, 2, some .int, 6, 130)
theorem mX7_count : gMi fX7_count 1 := ⟨gB_mem (k := 1027) (by decide +kernel) (by decide +kernel), gB_mem (k := 70) (by decide +kernel) (by decide +kernel), by decide +kernel, by decide +kernel, by decide +kernel⟩
theorem imX7_count : Cond.instanceMethod yX7_count ∈ gB := gB_mem (k := 1025) (by decide +kernel) (by decide +kernel)
theorem seX7_count : Cond.selects RX7 yX7_count yX7_count ∈ gB := gB_mem (k := 1026) (by decide +kernel) (by decide +kernel)
abbrev fX7_digest : gF := (yX7_digest, cX7_digest, 2, some .long, 6, 130)
theorem mX7_digest : gMi fX7_digest 0 := ⟨gB_mem (k := 1043) (by decide +kernel) (by decide +kernel), gB_mem (k := 70) (by decide +kernel) (by decide +kernel), by decide +kernel, by decide +kernel, by decide +kernel⟩
theorem imX7_digest : Cond.instanceMethod yX7_digest ∈ gB := gB_mem (k := 1041) (by decide +kernel) (by decide +kernel)
theorem seX7_digest : Cond.selects RX7 yX7_digest yX7_digest ∈ gB := gB_mem (k := 1042) (by decide +kernel) (by decide +kernel)
abbrev fX7_down : gF := (yX7_down, cX7_down, 2, some .int, 0, 0)
theorem mX7_down : gMi fX7_down 2 := ⟨gB_mem (k := 955) (by decide +kernel) (by decide +kernel), gB_mem (k := 70) (by decide +kernel) (by decide +kernel), by decide +kernel, by decide +kernel, by decide +kernel⟩
theorem smX7_down : Cond.static yX7_down ∈ gB := gB_mem (k := 954) (by decide +kernel) (by decide +kernel)
abbrev fX7_draws : gF := (yX7_draws, cX7_draws, 3, none, 5, 108)
theorem mX7_draws : gMi fX7_draws 1 := ⟨gB_mem (k := 898) (by decide +kernel) (by decide +kernel), gB_mem (k := 70) (by decide +kernel) (by decide +kernel), by decide +kernel, by decide +kernel, by decide +kernel⟩
theorem imX7_draws : Cond.instanceMethod yX7_draws ∈ gB := gB_mem (k := 897) (by decide +kernel) (by decide +kernel)
theorem seX7_draws : Cond.selects RX7 yX7_draws yX7_draws ∈ gB := gB_mem (k := 35) (by decide +kernel) (by decide +kernel)
abbrev fX7_fails : gF := (yX7_fails, cX7_fails, 2, none, 0, 0)
theorem mX7_fails : gMi fX7_fails 1 := ⟨gB_mem (k := 842) (by decide +kernel) (by decide +kernel), gB_mem (k := 70) (by decide +kernel) (by decide +kernel), by decide +kernel, by decide +kernel, by decide +kernel⟩
theorem imX7_fails : Cond.instanceMethod yX7_fails ∈ gB := gB_mem (k := 841) (by decide +kernel) (by decide +kernel)
theorem seX7_fails : Cond.selects RX7 yX7_fails yX7_fails ∈ gB := gB_mem (k := 27) (by decide +kernel) (by decide +kernel)
abbrev fX7_farthest : gF := (yX7_farthest, cX7_farthest, 4, some .int, 0, 0)
theorem mX7_farthest : gMi fX7_farthest 0 := ⟨gB_mem (k := 1039) (by decide +kernel) (by decide +kernel), gB_mem (k := 70) (by decide +kernel) (by decide +kernel), by decide +kernel, by decide +kernel, by decide +kernel⟩
theorem imX7_farthest : Cond.instanceMethod yX7_farthest ∈ gB := gB_mem (k := 1038) (by decide +kernel) (by decide +kernel)
theorem seX7_farthest : Cond.selects RX7 yX7_farthest yX7_farthest ∈ gB := gB_mem (k := 58) (by decide +kernel) (by decide +kernel)
abbrev fX7_fits : gF := (yX7_fits, cX7_fits, 5, some .boolean, 0, 0)
theorem mX7_fits : gMi fX7_fits 2 := ⟨gB_mem (k := 1023) (by decide +kernel) (by decide +kernel), gB_mem (k := 70) (by decide +kernel) (by decide +kernel), by decide +kernel, by decide +kernel, by decide +kernel⟩
theorem imX7_fits : Cond.instanceMethod yX7_fits ∈ gB := gB_mem (k := 1022) (by decide +kernel) (by decide +kernel)
theorem seX7_fits : Cond.selects RX7 yX7_fits yX7_fits ∈ gB := gB_mem (k := 55) (by decide +kernel) (by decide +kernel)
abbrev fX7_greater : gF := (yX7_greater, cX7_greater, 2, some .int, 0, 0)
theorem mX7_greater : gMi fX7_greater 2 := ⟨gB_mem (k := 917) (by decide +kernel) (by decide +kernel), gB_mem (k := 70) (by decide +kernel) (by decide +kernel), by decide +kernel, by decide +kernel, by decide +kernel⟩
theorem smX7_greater : Cond.static yX7_greater ∈ gB := gB_mem (k := 916) (by decide +kernel) (by decide +kernel)
abbrev fX7_greatest : gF := (yX7_greatest, cX7_greatest, 2, some .int, 1, 22)
theorem mX7_greatest : gMi fX7_greatest 1 := ⟨gB_mem (k := 921) (by decide +kernel) (by decide +kernel), gB_mem (k := 70) (by decide +kernel) (by decide +kernel), by decide +kernel, by decide +kernel, by decide +kernel⟩
theorem imX7_greatest : Cond.instanceMethod yX7_greatest ∈ gB := gB_mem (k := 920) (by decide +kernel) (by decide +kernel)
theorem seX7_greatest : Cond.selects RX7 yX7_greatest yX7_greatest ∈ gB := gB_mem (k := 40) (by decide +kernel) (by decide +kernel)
abbrev fX7_hidden : gF := (yX7_hidden, cX7_hidden, 3, some .int, 1, 22)
theorem mX7_hidden : gMi fX7_hidden 0 := ⟨gB_mem (k := 1035) (by decide +kernel) (by decide +kernel), gB_mem (k := 70) (by decide +kernel) (by decide +kernel), by decide +kernel, by decide +kernel, by decide +kernel⟩
theorem imX7_hidden : Cond.instanceMethod yX7_hidden ∈ gB := gB_mem (k := 1034) (by decide +kernel) (by decide +kernel)
theorem seX7_hidden : Cond.selects RX7 yX7_hidden yX7_hidden ∈ gB := gB_mem (k := 57) (by decide +kernel) (by decide +kernel)
abbrev fX7_hide : gF := (yX7_hide, cX7_hide, 2, some .int, 2, 43)
theorem mX7_hide : gMi fX7_hide 1 := ⟨gB_mem (k := 979) (by decide +kernel) (by decide +kernel), gB_mem (k := 70) (by decide +kernel) (by decide +kernel), by decide +kernel, by decide +kernel, by decide +kernel⟩
theorem imX7_hide : Cond.instanceMethod yX7_hide ∈ gB := gB_mem (k := 977) (by decide +kernel) (by decide +kernel)
theorem seX7_hide : Cond.selects RX7 yX7_hide yX7_hide ∈ gB := gB_mem (k := 978) (by decide +kernel) (by decide +kernel)
abbrev fX7_in : gF := (yX7_in, cX7_in, 3, some .boolean, 0, 0)
theorem mX7_in : gMi fX7_in 3 := ⟨gB_mem (k := 810) (by decide +kernel) (by decide +kernel), gB_mem (k := 70) (by decide +kernel) (by decide +kernel), by decide +kernel, by decide +kernel, by decide +kernel⟩
theorem smX7_in : Cond.static yX7_in ∈ gB := gB_mem (k := 809) (by decide +kernel) (by decide +kernel)
abbrev fX7_init : gF := (yX7_init, cX7_init, 1, none, 1, 20)
theorem mX7_init : gMi fX7_init 0 := ⟨gB_mem (k := 716) (by decide +kernel) (by decide +kernel), gB_mem (k := 70) (by decide +kernel) (by decide +kernel), by decide +kernel, by decide +kernel, by decide +kernel⟩
theorem imX7_init : Cond.instanceMethod yX7_init ∈ gB := gB_mem (k := 715) (by decide +kernel) (by decide +kernel)
abbrev fX7_insert : gF := (yX7_insert, cX7_insert, 3, some .int, 4, 90)
theorem mX7_insert : gMi fX7_insert 1 := ⟨gB_mem (k := 818) (by decide +kernel) (by decide +kernel), gB_mem (k := 70) (by decide +kernel) (by decide +kernel), by decide +kernel, by decide +kernel, by decide +kernel⟩
theorem imX7_insert : Cond.instanceMethod yX7_insert ∈ gB := gB_mem (k := 816) (by decide +kernel) (by decide +kernel)
theorem seX7_insert : Cond.selects RX7 yX7_insert yX7_insert ∈ gB := gB_mem (k := 817) (by decide +kernel) (by decide +kernel)
abbrev fX7_isDigit : gF := (yX7_isDigit, cX7_isDigit, 1, some .boolean, 1, 22)
theorem mX7_isDigit : gMi fX7_isDigit 0 := ⟨gB_mem (k := 838) (by decide +kernel) (by decide +kernel), gB_mem (k := 70) (by decide +kernel) (by decide +kernel), by decide +kernel, by decide +kernel, by decide +kernel⟩
theorem imX7_isDigit : Cond.instanceMethod yX7_isDigit ∈ gB := gB_mem (k := 837) (by decide +kernel) (by decide +kernel)
theorem seX7_isDigit : Cond.selects RX7 yX7_isDigit yX7_isDigit ∈ gB := gB_mem (k := 26) (by decide +kernel) (by decide +kernel)
abbrev fX7_isItem : gF := (yX7_isItem, cX7_isItem, 2, some .boolean, 1, 22)
theorem mX7_isItem : gMi fX7_isItem 1 := ⟨gB_mem (k := 886) (by decide +kernel) (by decide +kernel), gB_mem (k := 70) (by decide +kernel) (by decide +kernel), by decide +kernel, by decide +kernel, by decide +kernel⟩
theorem imX7_isItem : Cond.instanceMethod yX7_isItem ∈ gB := gB_mem (k := 885) (by decide +kernel) (by decide +kernel)
theorem seX7_isItem : Cond.selects RX7 yX7_isItem yX7_isItem ∈ gB := gB_mem (k := 33) (by decide +kernel) (by decide +kernel)
abbrev fX7_isLeft : gF := (yX7_isLeft, cX7_isLeft, 4, some .boolean, 0, 0)
theorem mX7_isLeft : gMi fX7_isLeft 1 := ⟨gB_mem (k := 932) (by decide +kernel) (by decide +kernel), gB_mem (k := 70) (by decide +kernel) (by decide +kernel), by decide +kernel, by decide +kernel, by decide +kernel⟩
theorem imX7_isLeft : Cond.instanceMethod yX7_isLeft ∈ gB := gB_mem (k := 931) (by decide +kernel) (by decide +kernel)
theorem seX7_isLeft : Cond.selects RX7 yX7_isLeft yX7_isLeft ∈ gB := gB_mem (k := 42) (by decide +kernel) (by decide +kernel)
abbrev fX7_isWord : gF := (yX7_isWord, cX7_isWord, 7, some .boolean, 0, 0)
theorem mX7_isWord : gMi fX7_isWord 3 := ⟨gB_mem (k := 857) (by decide +kernel) (by decide +kernel), gB_mem (k := 70) (by decide +kernel) (by decide +kernel), by decide +kernel, by decide +kernel, by decide +kernel⟩
theorem imX7_isWord : Cond.instanceMethod yX7_isWord ∈ gB := gB_mem (k := 856) (by decide +kernel) (by decide +kernel)
theorem seX7_isWord : Cond.selects RX7 yX7_isWord yX7_isWord ∈ gB := gB_mem (k := 29) (by decide +kernel) (by decide +kernel)
abbrev fX7_item : gF := (yX7_item, cX7_item, 3, some .int, 3, 64)
theorem mX7_item : gMi fX7_item 2 := ⟨gB_mem (k := 987) (by decide +kernel) (by decide +kernel), gB_mem (k := 70) (by decide +kernel) (by decide +kernel), by decide +kernel, by decide +kernel, by decide +kernel⟩
theorem imX7_item : Cond.instanceMethod yX7_item ∈ gB := gB_mem (k := 985) (by decide +kernel) (by decide +kernel)
theorem seX7_item : Cond.selects RX7 yX7_item yX7_item ∈ gB := gB_mem (k := 986) (by decide +kernel) (by decide +kernel)
abbrev fX7_keeps : gF := (yX7_keeps, cX7_keeps, 2, none, 0, 0)
theorem mX7_keeps : gMi fX7_keeps 0 := ⟨gB_mem (k := 870) (by decide +kernel) (by decide +kernel), gB_mem (k := 70) (by decide +kernel) (by decide +kernel), by decide +kernel, by decide +kernel, by decide +kernel⟩
theorem imX7_keeps : Cond.instanceMethod yX7_keeps ∈ gB := gB_mem (k := 869) (by decide +kernel) (by decide +kernel)
theorem seX7_keeps : Cond.selects RX7 yX7_keeps yX7_keeps ∈ gB := gB_mem (k := 30) (by decide +kernel) (by decide +kernel)
abbrev fX7_lays : gF := (yX7_lays, cX7_lays, 3, none, 0, 0)
theorem mX7_lays : gMi fX7_lays 1 := ⟨gB_mem (k := 878) (by decide +kernel) (by decide +kernel), gB_mem (k := 70) (by decide +kernel) (by decide +kernel), by decide +kernel, by decide +kernel, by decide +kernel⟩
theorem imX7_lays : Cond.instanceMethod yX7_lays ∈ gB := gB_mem (k := 877) (by decide +kernel) (by decide +kernel)
theorem seX7_lays : Cond.selects RX7 yX7_lays yX7_lays ∈ gB := gB_mem (k := 32) (by decide +kernel) (by decide +kernel)
abbrev fX7_leastOf : gF := (yX7_leastOf, cX7_leastOf, 1, some .int, 0, 0)
theorem mX7_leastOf : gMi fX7_leastOf 1 := ⟨gB_mem (k := 845) (by decide +kernel) (by decide +kernel), gB_mem (k := 70) (by decide +kernel) (by decide +kernel), by decide +kernel, by decide +kernel, by decide +kernel⟩
theorem smX7_leastOf : Cond.static yX7_leastOf ∈ gB := gB_mem (k := 844) (by decide +kernel) (by decide +kernel)
abbrev fX7_leastWidth : gF := (yX7_leastWidth, cX7_leastWidth, 4, some .int, 6, 130)
theorem mX7_leastWidth : gMi fX7_leastWidth 2 := ⟨gB_mem (k := 1019) (by decide +kernel) (by decide +kernel), gB_mem (k := 70) (by decide +kernel) (by decide +kernel), by decide +kernel, by decide +kernel, by decide +kernel⟩
theorem imX7_leastWidth : Cond.instanceMethod yX7_leastWidth ∈ gB := gB_mem (k := 1017) (by decide +kernel) (by decide +kernel)
theorem seX7_leastWidth : Cond.selects RX7 yX7_leastWidth yX7_leastWidth ∈ gB := gB_mem (k := 1018) (by decide +kernel) (by decide +kernel)
abbrev fX7_lesser : gF := (yX7_lesser, cX7_lesser, 2, some .int, 0, 0)
theorem mX7_lesser : gMi fX7_lesser 2 := ⟨gB_mem (k := 924) (by decide +kernel) (by decide +kernel), gB_mem (k := 70) (by decide +kernel) (by decide +kernel), by decide +kernel, by decide +kernel, by decide +kernel⟩
theorem smX7_lesser : Cond.static yX7_lesser ∈ gB := gB_mem (k := 923) (by decide +kernel) (by decide +kernel)
abbrev fX7_lies : gF := (yX7_lies, cX7_lies, 3, some .int, 6, 130)
theorem mX7_lies : gMi fX7_lies 2 := ⟨gB_mem (k := 991) (by decide +kernel) (by decide +kernel), gB_mem (k := 70) (by decide +kernel) (by decide +kernel), by decide +kernel, by decide +kernel, by decide +kernel⟩
theorem imX7_lies : Cond.instanceMethod yX7_lies ∈ gB := gB_mem (k := 989) (by decide +kernel) (by decide +kernel)
theorem seX7_lies : Cond.selects RX7 yX7_lies yX7_lies ∈ gB := gB_mem (k := 990) (by decide +kernel) (by decide +kernel)
abbrev fX7_liesAt : gF := (yX7_liesAt, cX7_liesAt, 3, some .int, 3, 64)
theorem mX7_liesAt : gMi fX7_liesAt 2 := ⟨gB_mem (k := 995) (by decide +kernel) (by decide +kernel), gB_mem (k := 70) (by decide +kernel) (by decide +kernel), by decide +kernel, by decide +kernel, by decide +kernel⟩
theorem imX7_liesAt : Cond.instanceMethod yX7_liesAt ∈ gB := gB_mem (k := 994) (by decide +kernel) (by decide +kernel)
theorem seX7_liesAt : Cond.selects RX7 yX7_liesAt yX7_liesAt ∈ gB := gB_mem (k := 52) (by decide +kernel) (by decide +kernel)
abbrev fX7_line : gF := (yX7_line, cX7_line, 3, some .int, 6, 130)
theorem mX7_line : gMi fX7_line 2 := ⟨gB_mem (k := 1003) (by decide +kernel) (by decide +kernel), gB_mem (k := 70) (by decide +kernel) (by decide +kernel), by decide +kernel, by decide +kernel, by decide +kernel⟩
theorem imX7_line : Cond.instanceMethod yX7_line ∈ gB := gB_mem (k := 1001) (by decide +kernel) (by decide +kernel)
theorem seX7_line : Cond.selects RX7 yX7_line yX7_line ∈ gB := gB_mem (k := 1002) (by decide +kernel) (by decide +kernel)
abbrev fX7_linePart : gF := (yX7_linePart, cX7_linePart, 3, some .int, 5, 108)
theorem mX7_linePart : gMi fX7_linePart 2 := ⟨gB_mem (k := 1007) (by decide +kernel) (by decide +kernel), gB_mem (k := 70) (by decide +kernel) (by decide +kernel), by decide +kernel, by decide +kernel, by decide +kernel⟩
theorem imX7_linePart : Cond.instanceMethod yX7_linePart ∈ gB := gB_mem (k := 1006) (by decide +kernel) (by decide +kernel)
theorem seX7_linePart : Cond.selects RX7 yX7_linePart yX7_linePart ∈ gB := gB_mem (k := 53) (by decide +kernel) (by decide +kernel)
abbrev fX7_mixes : gF := (yX7_mixes, cX7_mixes, 3, none, 0, 0)
theorem mX7_mixes : gMi fX7_mixes 1 := ⟨gB_mem (k := 1048) (by decide +kernel) (by decide +kernel), gB_mem (k := 70) (by decide +kernel) (by decide +kernel), by decide +kernel, by decide +kernel, by decide +kernel⟩
theorem imX7_mixes : Cond.instanceMethod yX7_mixes ∈ gB := gB_mem (k := 1047) (by decide +kernel) (by decide +kernel)
theorem seX7_mixes : Cond.selects RX7 yX7_mixes yX7_mixes ∈ gB := gB_mem (k := 59) (by decide +kernel) (by decide +kernel)
abbrev fX7_mixesItem : gF := (yX7_mixesItem, cX7_mixesItem, 4, none, 4, 86)
theorem mX7_mixesItem : gMi fX7_mixesItem 1 := ⟨gB_mem (k := 1053) (by decide +kernel) (by decide +kernel), gB_mem (k := 70) (by decide +kernel) (by decide +kernel), by decide +kernel, by decide +kernel, by decide +kernel⟩
theorem imX7_mixesItem : Cond.instanceMethod yX7_mixesItem ∈ gB := gB_mem (k := 1052) (by decide +kernel) (by decide +kernel)
theorem seX7_mixesItem : Cond.selects RX7 yX7_mixesItem yX7_mixesItem ∈ gB := gB_mem (k := 60) (by decide +kernel) (by decide +kernel)
abbrev fX7_mostOf : gF := (yX7_mostOf, cX7_mostOf, 1, some .int, 0, 0)
theorem mX7_mostOf : gMi fX7_mostOf 1 := ⟨gB_mem (k := 848) (by decide +kernel) (by decide +kernel), gB_mem (k := 70) (by decide +kernel) (by decide +kernel), by decide +kernel, by decide +kernel, by decide +kernel⟩
theorem smX7_mostOf : Cond.static yX7_mostOf ∈ gB := gB_mem (k := 847) (by decide +kernel) (by decide +kernel)
abbrev fX7_move : gF := (yX7_move, cX7_move, 4, some .int, 6, 130)
theorem mX7_move : gMi fX7_move 2 := ⟨gB_mem (k := 890) (by decide +kernel) (by decide +kernel), gB_mem (k := 70) (by decide +kernel) (by decide +kernel), by decide +kernel, by decide +kernel, by decide +kernel⟩
theorem imX7_move : Cond.instanceMethod yX7_move ∈ gB := gB_mem (k := 888) (by decide +kernel) (by decide +kernel)
theorem seX7_move : Cond.selects RX7 yX7_move yX7_move ∈ gB := gB_mem (k := 889) (by decide +kernel) (by decide +kernel)
abbrev fX7_next : gF := (yX7_next, cX7_next, 1, some .int, 0, 0)
theorem mX7_next : gMi fX7_next 0 := ⟨gB_mem (k := 830) (by decide +kernel) (by decide +kernel), gB_mem (k := 70) (by decide +kernel) (by decide +kernel), by decide +kernel, by decide +kernel, by decide +kernel⟩
theorem imX7_next : Cond.instanceMethod yX7_next ∈ gB := gB_mem (k := 829) (by decide +kernel) (by decide +kernel)
theorem seX7_next : Cond.selects RX7 yX7_next yX7_next ∈ gB := gB_mem (k := 24) (by decide +kernel) (by decide +kernel)
abbrev fX7_number : gF := (yX7_number, cX7_number, 2, some .int, 2, 44)
theorem mX7_number : gMi fX7_number 1 := ⟨gB_mem (k := 1031) (by decide +kernel) (by decide +kernel), gB_mem (k := 70) (by decide +kernel) (by decide +kernel), by decide +kernel, by decide +kernel, by decide +kernel⟩
theorem imX7_number : Cond.instanceMethod yX7_number ∈ gB := gB_mem (k := 1030) (by decide +kernel) (by decide +kernel)
theorem seX7_number : Cond.selects RX7 yX7_number yX7_number ∈ gB := gB_mem (k := 56) (by decide +kernel) (by decide +kernel)
abbrev fX7_of : gF := (yX7_of, cX7_of, 3, some .int, 0, 0)
theorem mX7_of : gMi fX7_of 2 := ⟨gB_mem (k := 894) (by decide +kernel) (by decide +kernel), gB_mem (k := 70) (by decide +kernel) (by decide +kernel), by decide +kernel, by decide +kernel, by decide +kernel⟩
theorem imX7_of : Cond.instanceMethod yX7_of ∈ gB := gB_mem (k := 893) (by decide +kernel) (by decide +kernel)
theorem seX7_of : Cond.selects RX7 yX7_of yX7_of ∈ gB := gB_mem (k := 34) (by decide +kernel) (by decide +kernel)
abbrev fX7_ordered : gF := (yX7_ordered, cX7_ordered, 2, some .int, 2, 44)
theorem mX7_ordered : gMi fX7_ordered 1 := ⟨gB_mem (k := 999) (by decide +kernel) (by decide +kernel), gB_mem (k := 70) (by decide +kernel) (by decide +kernel), by decide +kernel, by decide +kernel, by decide +kernel⟩
theorem imX7_ordered : Cond.instanceMethod yX7_ordered ∈ gB := gB_mem (k := 997) (by decide +kernel) (by decide +kernel)
theorem seX7_ordered : Cond.selects RX7 yX7_ordered yX7_ordered ∈ gB := gB_mem (k := 998) (by decide +kernel) (by decide +kernel)
abbrev fX7_orders : gF := (yX7_orders, cX7_orders, 3, none, 1, 22)
theorem mX7_orders : gMi fX7_orders 0 := ⟨gB_mem (k := 902) (by decide +kernel) (by decide +kernel), gB_mem (k := 70) (by decide +kernel) (by decide +kernel), by decide +kernel, by decide +kernel, by decide +kernel⟩
theorem imX7_orders : Cond.instanceMethod yX7_orders ∈ gB := gB_mem (k := 901) (by decide +kernel) (by decide +kernel)
theorem seX7_orders : Cond.selects RX7 yX7_orders yX7_orders ∈ gB := gB_mem (k := 36) (by decide +kernel) (by decide +kernel)
abbrev fX7_outer : gF := (yX7_outer, cX7_outer, 4, some .int, 4, 85)
theorem mX7_outer : gMi fX7_outer 1 := ⟨gB_mem (k := 1011) (by decide +kernel) (by decide +kernel), gB_mem (k := 70) (by decide +kernel) (by decide +kernel), by decide +kernel, by decide +kernel, by decide +kernel⟩
theorem imX7_outer : Cond.instanceMethod yX7_outer ∈ gB := gB_mem (k := 1010) (by decide +kernel) (by decide +kernel)
theorem seX7_outer : Cond.selects RX7 yX7_outer yX7_outer ∈ gB := gB_mem (k := 54) (by decide +kernel) (by decide +kernel)
abbrev fX7_outerWish : gF := (yX7_outerWish, cX7_outerWish, 2, some .int, 3, 64)
theorem mX7_outerWish : gMi fX7_outerWish 1 := ⟨gB_mem (k := 910) (by decide +kernel) (by decide +kernel), gB_mem (k := 70) (by decide +kernel) (by decide +kernel), by decide +kernel, by decide +kernel, by decide +kernel⟩
theorem imX7_outerWish : Cond.instanceMethod yX7_outerWish ∈ gB := gB_mem (k := 909) (by decide +kernel) (by decide +kernel)
theorem seX7_outerWish : Cond.selects RX7 yX7_outerWish yX7_outerWish ∈ gB := gB_mem (k := 38) (by decide +kernel) (by decide +kernel)
abbrev fX7_pass : gF := (yX7_pass, cX7_pass, 10, none, 2, 45)
theorem mX7_pass : gMi fX7_pass 1 := ⟨gB_mem (k := 936) (by decide +kernel) (by decide +kernel), gB_mem (k := 70) (by decide +kernel) (by decide +kernel), by decide +kernel, by decide +kernel, by decide +kernel⟩
theorem imX7_pass : Cond.instanceMethod yX7_pass ∈ gB := gB_mem (k := 935) (by decide +kernel) (by decide +kernel)
theorem seX7_pass : Cond.selects RX7 yX7_pass yX7_pass ∈ gB := gB_mem (k := 43) (by decide +kernel) (by decide +kernel)
abbrev fX7_placeOf : gF := (yX7_placeOf, cX7_placeOf, 3, some .int, 0, 0)
theorem mX7_placeOf : gMi fX7_placeOf 1 := ⟨gB_mem (k := 971) (by decide +kernel) (by decide +kernel), gB_mem (k := 70) (by decide +kernel) (by decide +kernel), by decide +kernel, by decide +kernel, by decide +kernel⟩
theorem imX7_placeOf : Cond.instanceMethod yX7_placeOf ∈ gB := gB_mem (k := 970) (by decide +kernel) (by decide +kernel)
theorem seX7_placeOf : Cond.selects RX7 yX7_placeOf yX7_placeOf ∈ gB := gB_mem (k := 51) (by decide +kernel) (by decide +kernel)
abbrev fX7_readsItem : gF := (yX7_readsItem, cX7_readsItem, 4, none, 3, 67)
theorem mX7_readsItem : gMi fX7_readsItem 0 := ⟨gB_mem (k := 822) (by decide +kernel) (by decide +kernel), gB_mem (k := 70) (by decide +kernel) (by decide +kernel), by decide +kernel, by decide +kernel, by decide +kernel⟩
theorem imX7_readsItem : Cond.instanceMethod yX7_readsItem ∈ gB := gB_mem (k := 821) (by decide +kernel) (by decide +kernel)
theorem seX7_readsItem : Cond.selects RX7 yX7_readsItem yX7_readsItem ∈ gB := gB_mem (k := 22) (by decide +kernel) (by decide +kernel)
abbrev fX7_readsNumber : gF := (yX7_readsNumber, cX7_readsNumber, 6, none, 2, 42)
theorem mX7_readsNumber : gMi fX7_readsNumber 1 := ⟨gB_mem (k := 834) (by decide +kernel) (by decide +kernel), gB_mem (k := 70) (by decide +kernel) (by decide +kernel), by decide +kernel, by decide +kernel, by decide +kernel⟩
theorem imX7_readsNumber : Cond.instanceMethod yX7_readsNumber ∈ gB := gB_mem (k := 833) (by decide +kernel) (by decide +kernel)
theorem seX7_readsNumber : Cond.selects RX7 yX7_readsNumber yX7_readsNumber ∈ gB := gB_mem (k := 25) (by decide +kernel) (by decide +kernel)
abbrev fX7_remove : gF := (yX7_remove, cX7_remove, 3, some .int, 2, 43)
theorem mX7_remove : gMi fX7_remove 1 := ⟨gB_mem (k := 882) (by decide +kernel) (by decide +kernel), gB_mem (k := 70) (by decide +kernel) (by decide +kernel), by decide +kernel, by decide +kernel, by decide +kernel⟩
theorem imX7_remove : Cond.instanceMethod yX7_remove ∈ gB := gB_mem (k := 880) (by decide +kernel) (by decide +kernel)
theorem seX7_remove : Cond.selects RX7 yX7_remove yX7_remove ∈ gB := gB_mem (k := 881) (by decide +kernel) (by decide +kernel)
abbrev fX7_set : gF := (yX7_set, cX7_set, 5, some .int, 1, 22)
theorem mX7_set : gMi fX7_set 2 := ⟨gB_mem (k := 983) (by decide +kernel) (by decide +kernel), gB_mem (k := 70) (by decide +kernel) (by decide +kernel), by decide +kernel, by decide +kernel, by decide +kernel⟩
theorem imX7_set : Cond.instanceMethod yX7_set ∈ gB := gB_mem (k := 981) (by decide +kernel) (by decide +kernel)
theorem seX7_set : Cond.selects RX7 yX7_set yX7_set ∈ gB := gB_mem (k := 982) (by decide +kernel) (by decide +kernel)
abbrev fX7_share : gF := (yX7_share, cX7_share, 4, some .int, 1, 22)
theorem mX7_share : gMi fX7_share 1 := ⟨gB_mem (k := 940) (by decide +kernel) (by decide +kernel), gB_mem (k := 70) (by decide +kernel) (by decide +kernel), by decide +kernel, by decide +kernel, by decide +kernel⟩
theorem imX7_share : Cond.instanceMethod yX7_share ∈ gB := gB_mem (k := 939) (by decide +kernel) (by decide +kernel)
theorem seX7_share : Cond.selects RX7 yX7_share yX7_share ∈ gB := gB_mem (k := 44) (by decide +kernel) (by decide +kernel)
abbrev fX7_shift : gF := (yX7_shift, cX7_shift, 6, some .int, 1, 21)
theorem mX7_shift : gMi fX7_shift 2 := ⟨gB_mem (k := 952) (by decide +kernel) (by decide +kernel), gB_mem (k := 70) (by decide +kernel) (by decide +kernel), by decide +kernel, by decide +kernel, by decide +kernel⟩
theorem imX7_shift : Cond.instanceMethod yX7_shift ∈ gB := gB_mem (k := 951) (by decide +kernel) (by decide +kernel)
theorem seX7_shift : Cond.selects RX7 yX7_shift yX7_shift ∈ gB := gB_mem (k := 47) (by decide +kernel) (by decide +kernel)
abbrev fX7_sizes : gF := (yX7_sizes, cX7_sizes, 6, none, 3, 74)
theorem mX7_sizes : gMi fX7_sizes 2 := ⟨gB_mem (k := 928) (by decide +kernel) (by decide +kernel), gB_mem (k := 70) (by decide +kernel) (by decide +kernel), by decide +kernel, by decide +kernel, by decide +kernel⟩
theorem imX7_sizes : Cond.instanceMethod yX7_sizes ∈ gB := gB_mem (k := 927) (by decide +kernel) (by decide +kernel)
theorem seX7_sizes : Cond.selects RX7 yX7_sizes yX7_sizes ∈ gB := gB_mem (k := 41) (by decide +kernel) (by decide +kernel)
abbrev fX7_skips : gF := (yX7_skips, cX7_skips, 1, none, 1, 20)
theorem mX7_skips : gMi fX7_skips 0 := ⟨gB_mem (k := 826) (by decide +kernel) (by decide +kernel), gB_mem (k := 70) (by decide +kernel) (by decide +kernel), by decide +kernel, by decide +kernel, by decide +kernel⟩
theorem imX7_skips : Cond.instanceMethod yX7_skips ∈ gB := gB_mem (k := 825) (by decide +kernel) (by decide +kernel)
theorem seX7_skips : Cond.selects RX7 yX7_skips yX7_skips ∈ gB := gB_mem (k := 23) (by decide +kernel) (by decide +kernel)
abbrev fX7_type : gF := (yX7_type, cX7_type, 2, some .int, 1, 22)
theorem mX7_type : gMi fX7_type 1 := ⟨gB_mem (k := 807) (by decide +kernel) (by decide +kernel), gB_mem (k := 70) (by decide +kernel) (by decide +kernel), by decide +kernel, by decide +kernel, by decide +kernel⟩
theorem imX7_type : Cond.instanceMethod yX7_type ∈ gB := gB_mem (k := 805) (by decide +kernel) (by decide +kernel)
theorem seX7_type : Cond.selects RX7 yX7_type yX7_type ∈ gB := gB_mem (k := 806) (by decide +kernel) (by decide +kernel)
abbrev fX7_undo : gF := (yX7_undo, cX7_undo, 2, some .int, 0, 0)
theorem mX7_undo : gMi fX7_undo 0 := ⟨gB_mem (k := 803) (by decide +kernel) (by decide +kernel), gB_mem (k := 70) (by decide +kernel) (by decide +kernel), by decide +kernel, by decide +kernel, by decide +kernel⟩
theorem imX7_undo : Cond.instanceMethod yX7_undo ∈ gB := gB_mem (k := 801) (by decide +kernel) (by decide +kernel)
theorem seX7_undo : Cond.selects RX7 yX7_undo yX7_undo ∈ gB := gB_mem (k := 802) (by decide +kernel) (by decide +kernel)
abbrev fX7_wayOf : gF := (yX7_wayOf, cX7_wayOf, 3, some .int, 1, 22)
theorem mX7_wayOf : gMi fX7_wayOf 1 := ⟨gB_mem (k := 963) (by decide +kernel) (by decide +kernel), gB_mem (k := 70) (by decide +kernel) (by decide +kernel), by decide +kernel, by decide +kernel, by decide +kernel⟩
theorem imX7_wayOf : Cond.instanceMethod yX7_wayOf ∈ gB := gB_mem (k := 962) (by decide +kernel) (by decide +kernel)
theorem seX7_wayOf : Cond.selects RX7 yX7_wayOf yX7_wayOf ∈ gB := gB_mem (k := 49) (by decide +kernel) (by decide +kernel)
abbrev fX7_weight : gF := (yX7_weight, cX7_weight, 3, some .int, 1, 22)
theorem mX7_weight : gMi fX7_weight 2 := ⟨gB_mem (k := 944) (by decide +kernel) (by decide +kernel), gB_mem (k := 70) (by decide +kernel) (by decide +kernel), by decide +kernel, by decide +kernel, by decide +kernel⟩
theorem imX7_weight : Cond.instanceMethod yX7_weight ∈ gB := gB_mem (k := 943) (by decide +kernel) (by decide +kernel)
theorem seX7_weight : Cond.selects RX7 yX7_weight yX7_weight ∈ gB := gB_mem (k := 45) (by decide +kernel) (by decide +kernel)
abbrev fX7_wish : gF := (yX7_wish, cX7_wish, 2, some .int, 2, 43)
theorem mX7_wish : gMi fX7_wish 1 := ⟨gB_mem (k := 914) (by decide +kernel) (by decide +kernel), gB_mem (k := 70) (by decide +kernel) (by decide +kernel), by decide +kernel, by decide +kernel, by decide +kernel⟩
theorem imX7_wish : Cond.instanceMethod yX7_wish ∈ gB := gB_mem (k := 913) (by decide +kernel) (by decide +kernel)
theorem seX7_wish : Cond.selects RX7 yX7_wish yX7_wish ∈ gB := gB_mem (k := 39) (by decide +kernel) (by decide +kernel)
abbrev fX7_wordOf : gF := (yX7_wordOf, cX7_wordOf, 2, some .int, 1, 26)
theorem mX7_wordOf : gMi fX7_wordOf 1 := ⟨gB_mem (k := 852) (by decide +kernel) (by decide +kernel), gB_mem (k := 70) (by decide +kernel) (by decide +kernel), by decide +kernel, by decide +kernel, by decide +kernel⟩
theorem imX7_wordOf : Cond.instanceMethod yX7_wordOf ∈ gB := gB_mem (k := 851) (by decide +kernel) (by decide +kernel)
theorem seX7_wordOf : Cond.selects RX7 yX7_wordOf yX7_wordOf ∈ gB := gB_mem (k := 28) (by decide +kernel) (by decide +kernel)
abbrev fX7_wraps : gF := (yX7_wraps, cX7_wraps, 4, none, 4, 85)
theorem mX7_wraps : gMi fX7_wraps 1 := ⟨gB_mem (k := 906) (by decide +kernel) (by decide +kernel), gB_mem (k := 70) (by decide +kernel) (by decide +kernel), by decide +kernel, by decide +kernel, by decide +kernel⟩
theorem imX7_wraps : Cond.instanceMethod yX7_wraps ∈ gB := gB_mem (k := 905) (by decide +kernel) (by decide +kernel)
theorem seX7_wraps : Cond.selects RX7 yX7_wraps yX7_wraps ∈ gB := gB_mem (k := 37) (by decide +kernel) (by decide +kernel)
theorem k_X0_25 : Cond.methodLink RX0 25 yJ9_floorMod_7cf53 ∈ gB := gB_mem (k := 440) (by decide +kernel) (by decide +kernel)
theorem k_X0_3 : Cond.methodLink RX0 3 objectInit ∈ gB := gB_mem (k := 141) (by decide +kernel) (by decide +kernel)
theorem k_X0_38 : Cond.methodLink RX0 38 arraycopyName ∈ gB := gB_mem (k := 443) (by decide +kernel) (by decide +kernel)
theorem k_X0_48 : Cond.methodLink RX0 48 Lib.Math.min.name ∈ gB := gB_mem (k := 444) (by decide +kernel) (by decide +kernel)
theorem k_X1_101 : Cond.methodLink RX1 101 yX2_weight ∈ gB := gB_mem (k := 546) (by decide +kernel) (by decide +kernel)
theorem k_X1_105 : Cond.methodLink RX1 105 Lib.Math.max.name ∈ gB := gB_mem (k := 550) (by decide +kernel) (by decide +kernel)
theorem k_X1_111 : Cond.methodLink RX1 111 yX1_part ∈ gB := gB_mem (k := 551) (by decide +kernel) (by decide +kernel)
theorem k_X1_115 : Cond.methodLink RX1 115 yJ9_floorDiv_7cf53 ∈ gB := gB_mem (k := 554) (by decide +kernel) (by decide +kernel)
theorem k_X1_124 : Cond.methodLink RX1 124 Lib.Math.min.name ∈ gB := gB_mem (k := 561) (by decide +kernel) (by decide +kernel)
theorem k_X1_3 : Cond.methodLink RX1 3 objectInit ∈ gB := gB_mem (k := 207) (by decide +kernel) (by decide +kernel)
theorem k_X1_52 : Cond.methodLink RX1 52 yX4_number ∈ gB := gB_mem (k := 513) (by decide +kernel) (by decide +kernel)
theorem k_X1_62 : Cond.methodLink RX1 62 yX2_outerWish ∈ gB := gB_mem (k := 514) (by decide +kernel) (by decide +kernel)
theorem k_X1_65 : Cond.methodLink RX1 65 yX1_shareLine ∈ gB := gB_mem (k := 522) (by decide +kernel) (by decide +kernel)
theorem k_X1_69 : Cond.methodLink RX1 69 yX1_end ∈ gB := gB_mem (k := 526) (by decide +kernel) (by decide +kernel)
theorem k_X1_78 : Cond.methodLink RX1 78 yX1_freezeStiff ∈ gB := gB_mem (k := 530) (by decide +kernel) (by decide +kernel)
theorem k_X1_82 : Cond.methodLink RX1 82 yX1_hasOpen ∈ gB := gB_mem (k := 538) (by decide +kernel) (by decide +kernel)
theorem k_X1_86 : Cond.methodLink RX1 86 yX1_shareOut ∈ gB := gB_mem (k := 542) (by decide +kernel) (by decide +kernel)
theorem k_X1_90 : Cond.methodLink RX1 90 yX1_freezeCorrected ∈ gB := gB_mem (k := 557) (by decide +kernel) (by decide +kernel)
theorem k_X1_94 : Cond.methodLink RX1 94 yX2_isStiff ∈ gB := gB_mem (k := 534) (by decide +kernel) (by decide +kernel)
theorem k_X2_3 : Cond.methodLink RX2 3 objectInit ∈ gB := gB_mem (k := 164) (by decide +kernel) (by decide +kernel)
theorem k_X2_42 : Cond.methodLink RX2 42 yX4_property ∈ gB := gB_mem (k := 487) (by decide +kernel) (by decide +kernel)
theorem k_X2_46 : Cond.methodLink RX2 46 yX2_enter ∈ gB := gB_mem (k := 488) (by decide +kernel) (by decide +kernel)
theorem k_X2_50 : Cond.methodLink RX2 50 yX4_greatest ∈ gB := gB_mem (k := 492) (by decide +kernel) (by decide +kernel)
theorem k_X2_53 : Cond.methodLink RX2 53 yX4_wish ∈ gB := gB_mem (k := 499) (by decide +kernel) (by decide +kernel)
theorem k_X3_101 : Cond.methodLink RX3 101 yX4_above ∈ gB := gB_mem (k := 588) (by decide +kernel) (by decide +kernel)
theorem k_X3_104 : Cond.methodLink RX3 104 yX3_lowered ∈ gB := gB_mem (k := 592) (by decide +kernel) (by decide +kernel)
theorem k_X3_3 : Cond.methodLink RX3 3 objectInit ∈ gB := gB_mem (k := 263) (by decide +kernel) (by decide +kernel)
theorem k_X3_45 : Cond.methodLink RX3 45 yX3_setAlong ∈ gB := gB_mem (k := 566) (by decide +kernel) (by decide +kernel)
theorem k_X3_49 : Cond.methodLink RX3 49 yX4_number ∈ gB := gB_mem (k := 571) (by decide +kernel) (by decide +kernel)
theorem k_X3_54 : Cond.methodLink RX3 54 yX3_setAcross ∈ gB := gB_mem (k := 577) (by decide +kernel) (by decide +kernel)
theorem k_X3_69 : Cond.methodLink RX3 69 yX4_property ∈ gB := gB_mem (k := 581) (by decide +kernel) (by decide +kernel)
theorem k_X3_73 : Cond.methodLink RX3 73 yX3_end ∈ gB := gB_mem (k := 675) (by decide +kernel) (by decide +kernel)
theorem k_X3_79 : Cond.methodLink RX3 79 yX1_end ∈ gB := gB_mem (k := 570) (by decide +kernel) (by decide +kernel)
theorem k_X3_86 : Cond.methodLink RX3 86 yX3_shift ∈ gB := gB_mem (k := 572) (by decide +kernel) (by decide +kernel)
theorem k_X3_90 : Cond.methodLink RX3 90 yJ9_floorDiv_7cf53 ∈ gB := gB_mem (k := 576) (by decide +kernel) (by decide +kernel)
theorem k_X3_95 : Cond.methodLink RX3 95 Lib.Math.max.name ∈ gB := gB_mem (k := 582) (by decide +kernel) (by decide +kernel)
theorem k_X3_98 : Cond.methodLink RX3 98 yX4_wayAcross ∈ gB := gB_mem (k := 583) (by decide +kernel) (by decide +kernel)
theorem k_X4_21 : Cond.methodLink RX4 21 arraycopyName ∈ gB := gB_mem (k := 118) (by decide +kernel) (by decide +kernel)
theorem k_X4_3 : Cond.methodLink RX4 3 objectInit ∈ gB := gB_mem (k := 115) (by decide +kernel) (by decide +kernel)
theorem k_X4_31 : Cond.methodLink RX4 31 yX4_property ∈ gB := gB_mem (k := 463) (by decide +kernel) (by decide +kernel)
theorem k_X4_35 : Cond.methodLink RX4 35 Lib.Math.max.name ∈ gB := gB_mem (k := 496) (by decide +kernel) (by decide +kernel)
theorem k_X4_40 : Cond.methodLink RX4 40 yX4_greatest ∈ gB := gB_mem (k := 503) (by decide +kernel) (by decide +kernel)
theorem k_X4_44 : Cond.methodLink RX4 44 Lib.Math.min.name ∈ gB := gB_mem (k := 504) (by decide +kernel) (by decide +kernel)
theorem k_X4_47 : Cond.methodLink RX4 47 yX4_number ∈ gB := gB_mem (k := 587) (by decide +kernel) (by decide +kernel)
theorem k_X4_50 : Cond.methodLink RX4 50 yX4_put ∈ gB := gB_mem (k := 451) (by decide +kernel) (by decide +kernel)
theorem k_X4_54 : Cond.methodLink RX4 54 yX4_swap ∈ gB := gB_mem (k := 459) (by decide +kernel) (by decide +kernel)
theorem k_X5_26 : Cond.methodLink RX5 26 arraycopyName ∈ gB := gB_mem (k := 341) (by decide +kernel) (by decide +kernel)
theorem k_X5_3 : Cond.methodLink RX5 3 objectInit ∈ gB := gB_mem (k := 89) (by decide +kernel) (by decide +kernel)
theorem k_X5_38 : Cond.methodLink RX5 38 yX5_readNumber ∈ gB := gB_mem (k := 342) (by decide +kernel) (by decide +kernel)
theorem k_X5_42 : Cond.methodLink RX5 42 yX5_readWord ∈ gB := gB_mem (k := 361) (by decide +kernel) (by decide +kernel)
theorem k_X5_46 : Cond.methodLink RX5 46 yX5_skipBlanks ∈ gB := gB_mem (k := 346) (by decide +kernel) (by decide +kernel)
theorem k_X5_49 : Cond.methodLink RX5 49 yX5_byteAt ∈ gB := gB_mem (k := 350) (by decide +kernel) (by decide +kernel)
theorem k_X5_52 : Cond.methodLink RX5 52 yX5_isDigit ∈ gB := gB_mem (k := 354) (by decide +kernel) (by decide +kernel)
theorem k_X5_62 : Cond.methodLink RX5 62 yX5_isLetter ∈ gB := gB_mem (k := 365) (by decide +kernel) (by decide +kernel)
theorem k_X5_65 : Cond.methodLink RX5 65 yX5_word ∈ gB := gB_mem (k := 368) (by decide +kernel) (by decide +kernel)
theorem k_X5_69 : Cond.methodLink RX5 69 yX5_stands ∈ gB := gB_mem (k := 380) (by decide +kernel) (by decide +kernel)
theorem k_X5_73 : Cond.methodLink RX5 73 yJ0_length_8abf5 ∈ gB := gB_mem (k := 384) (by decide +kernel) (by decide +kernel)
theorem k_X5_77 : Cond.methodLink RX5 77 yJ0_charAt_5068e ∈ gB := gB_mem (k := 394) (by decide +kernel) (by decide +kernel)
theorem k_X6_1 : Cond.methodLink RX6 1 objectInit ∈ gB := gB_mem (k := 81) (by decide +kernel) (by decide +kernel)
theorem k_X6_109 : Cond.methodLink RX6 109 yX4_property ∈ gB := gB_mem (k := 606) (by decide +kernel) (by decide +kernel)
theorem k_X6_113 : Cond.methodLink RX6 113 yX4_put ∈ gB := gB_mem (k := 607) (by decide +kernel) (by decide +kernel)
theorem k_X6_123 : Cond.methodLink RX6 123 yX4_number ∈ gB := gB_mem (k := 505) (by decide +kernel) (by decide +kernel)
theorem k_X6_126 : Cond.methodLink RX6 126 yX4_setNumber ∈ gB := gB_mem (k := 620) (by decide +kernel) (by decide +kernel)
theorem k_X6_132 : Cond.methodLink RX6 132 yX0_restore ∈ gB := gB_mem (k := 628) (by decide +kernel) (by decide +kernel)
theorem k_X6_135 : Cond.methodLink RX6 135 yX4_wish ∈ gB := gB_mem (k := 636) (by decide +kernel) (by decide +kernel)
theorem k_X6_138 : Cond.methodLink RX6 138 yX6_lieAt ∈ gB := gB_mem (k := 641) (by decide +kernel) (by decide +kernel)
theorem k_X6_144 : Cond.methodLink RX6 144 yX2_itemAt ∈ gB := gB_mem (k := 654) (by decide +kernel) (by decide +kernel)
theorem k_X6_149 : Cond.methodLink RX6 149 yX6_lineTells ∈ gB := gB_mem (k := 662) (by decide +kernel) (by decide +kernel)
theorem k_X6_152 : Cond.methodLink RX6 152 yX3_covers ∈ gB := gB_mem (k := 671) (by decide +kernel) (by decide +kernel)
theorem k_X6_156 : Cond.methodLink RX6 156 yX2_sort ∈ gB := gB_mem (k := 483) (by decide +kernel) (by decide +kernel)
theorem k_X6_159 : Cond.methodLink RX6 159 yX1_breakUp ∈ gB := gB_mem (k := 509) (by decide +kernel) (by decide +kernel)
theorem k_X6_163 : Cond.methodLink RX6 163 yX1_allHaveRoom ∈ gB := gB_mem (k := 683) (by decide +kernel) (by decide +kernel)
theorem k_X6_167 : Cond.methodLink RX6 167 yX6_counted ∈ gB := gB_mem (k := 691) (by decide +kernel) (by decide +kernel)
theorem k_X6_174 : Cond.methodLink RX6 174 yX6_withItem ∈ gB := gB_mem (k := 707) (by decide +kernel) (by decide +kernel)
theorem k_X6_178 : Cond.methodLink RX6 178 yX5_byteAt ∈ gB := gB_mem (k := 711) (by decide +kernel) (by decide +kernel)
theorem k_X6_18 : Cond.methodLink RX6 18 yX4_init ∈ gB := gB_mem (k := 112) (by decide +kernel) (by decide +kernel)
theorem k_X6_181 : Cond.methodLink RX6 181 yX0_record ∈ gB := gB_mem (k := 436) (by decide +kernel) (by decide +kernel)
theorem k_X6_184 : Cond.methodLink RX6 184 yX1_share ∈ gB := gB_mem (k := 518) (by decide +kernel) (by decide +kernel)
theorem k_X6_187 : Cond.methodLink RX6 187 yX3_find ∈ gB := gB_mem (k := 562) (by decide +kernel) (by decide +kernel)
theorem k_X6_192 : Cond.methodLink RX6 192 yX1_lineOf ∈ gB := gB_mem (k := 645) (by decide +kernel) (by decide +kernel)
theorem k_X6_204 : Cond.methodLink RX6 204 yX4_above ∈ gB := gB_mem (k := 649) (by decide +kernel) (by decide +kernel)
theorem k_X6_212 : Cond.methodLink RX6 212 yX1_end ∈ gB := gB_mem (k := 666) (by decide +kernel) (by decide +kernel)
theorem k_X6_240 : Cond.methodLink RX6 240 yX6_greatestEnd ∈ gB := gB_mem (k := 695) (by decide +kernel) (by decide +kernel)
theorem k_X6_243 : Cond.methodLink RX6 243 yX3_end ∈ gB := gB_mem (k := 699) (by decide +kernel) (by decide +kernel)
theorem k_X6_244 : Cond.methodLink RX6 244 Lib.Math.max.name ∈ gB := gB_mem (k := 700) (by decide +kernel) (by decide +kernel)
theorem k_X6_32 : Cond.methodLink RX6 32 yX2_init ∈ gB := gB_mem (k := 161) (by decide +kernel) (by decide +kernel)
theorem k_X6_41 : Cond.methodLink RX6 41 yX1_init ∈ gB := gB_mem (k := 204) (by decide +kernel) (by decide +kernel)
theorem k_X6_50 : Cond.methodLink RX6 50 yX3_init ∈ gB := gB_mem (k := 260) (by decide +kernel) (by decide +kernel)
theorem k_X6_64 : Cond.methodLink RX6 64 yX5_append ∈ gB := gB_mem (k := 323) (by decide +kernel) (by decide +kernel)
theorem k_X6_75 : Cond.methodLink RX6 75 yX5_read ∈ gB := gB_mem (k := 335) (by decide +kernel) (by decide +kernel)
theorem k_X6_79 : Cond.methodLink RX6 79 yX6_beforeChange ∈ gB := gB_mem (k := 432) (by decide +kernel) (by decide +kernel)
theorem k_X6_86 : Cond.methodLink RX6 86 yX4_append ∈ gB := gB_mem (k := 447) (by decide +kernel) (by decide +kernel)
theorem k_X6_89 : Cond.methodLink RX6 89 yX4_carry ∈ gB := gB_mem (k := 455) (by decide +kernel) (by decide +kernel)
theorem k_X6_93 : Cond.methodLink RX6 93 yX4_has ∈ gB := gB_mem (k := 471) (by decide +kernel) (by decide +kernel)
theorem k_X6_96 : Cond.methodLink RX6 96 yX6_layOut ∈ gB := gB_mem (k := 479) (by decide +kernel) (by decide +kernel)
theorem k_X6_99 : Cond.methodLink RX6 99 yX2_placeOf ∈ gB := gB_mem (k := 596) (by decide +kernel) (by decide +kernel)
theorem k_L_12 : Cond.methodLink x.cls 12 yX7_init ∈ gB := gB_mem (k := 714) (by decide +kernel) (by decide +kernel)
theorem k_L_13 : Cond.methodLink x.cls 13 yX6_type ∈ gB := gB_mem (k := 319) (by decide +kernel) (by decide +kernel)
theorem k_L_17 : Cond.methodLink x.cls 17 yX7_type ∈ gB := gB_mem (k := 804) (by decide +kernel) (by decide +kernel)
theorem k_L_18 : Cond.methodLink x.cls 18 yX6_clear ∈ gB := gB_mem (k := 327) (by decide +kernel) (by decide +kernel)
theorem k_L_22 : Cond.methodLink x.cls 22 yX7_clear ∈ gB := gB_mem (k := 811) (by decide +kernel) (by decide +kernel)
theorem k_L_23 : Cond.methodLink x.cls 23 yX6_insert ∈ gB := gB_mem (k := 331) (by decide +kernel) (by decide +kernel)
theorem k_L_26 : Cond.methodLink x.cls 26 yX7_insert ∈ gB := gB_mem (k := 815) (by decide +kernel) (by decide +kernel)
theorem k_L_27 : Cond.methodLink x.cls 27 yX6_remove ∈ gB := gB_mem (k := 467) (by decide +kernel) (by decide +kernel)
theorem k_L_30 : Cond.methodLink x.cls 30 yX7_remove ∈ gB := gB_mem (k := 879) (by decide +kernel) (by decide +kernel)
theorem k_L_31 : Cond.methodLink x.cls 31 yX6_move ∈ gB := gB_mem (k := 475) (by decide +kernel) (by decide +kernel)
theorem k_L_35 : Cond.methodLink x.cls 35 yX7_move ∈ gB := gB_mem (k := 887) (by decide +kernel) (by decide +kernel)
theorem k_L_36 : Cond.methodLink x.cls 36 yX6_change ∈ gB := gB_mem (k := 600) (by decide +kernel) (by decide +kernel)
theorem k_L_40 : Cond.methodLink x.cls 40 yX7_change ∈ gB := gB_mem (k := 972) (by decide +kernel) (by decide +kernel)
theorem k_L_41 : Cond.methodLink x.cls 41 yX6_hide ∈ gB := gB_mem (k := 608) (by decide +kernel) (by decide +kernel)
theorem k_L_44 : Cond.methodLink x.cls 44 yX7_hide ∈ gB := gB_mem (k := 976) (by decide +kernel) (by decide +kernel)
theorem k_L_45 : Cond.methodLink x.cls 45 yX6_set ∈ gB := gB_mem (k := 612) (by decide +kernel) (by decide +kernel)
theorem k_L_48 : Cond.methodLink x.cls 48 yX7_set ∈ gB := gB_mem (k := 980) (by decide +kernel) (by decide +kernel)
theorem k_L_49 : Cond.methodLink x.cls 49 yX6_undo ∈ gB := gB_mem (k := 624) (by decide +kernel) (by decide +kernel)
theorem k_L_52 : Cond.methodLink x.cls 52 yX7_undo ∈ gB := gB_mem (k := 800) (by decide +kernel) (by decide +kernel)
theorem k_L_53 : Cond.methodLink x.cls 53 yX6_item ∈ gB := gB_mem (k := 632) (by decide +kernel) (by decide +kernel)
theorem k_L_56 : Cond.methodLink x.cls 56 yX7_item ∈ gB := gB_mem (k := 984) (by decide +kernel) (by decide +kernel)
theorem k_L_57 : Cond.methodLink x.cls 57 yX6_lies ∈ gB := gB_mem (k := 637) (by decide +kernel) (by decide +kernel)
theorem k_L_60 : Cond.methodLink x.cls 60 yX7_lies ∈ gB := gB_mem (k := 988) (by decide +kernel) (by decide +kernel)
theorem k_L_61 : Cond.methodLink x.cls 61 yX6_ordered ∈ gB := gB_mem (k := 650) (by decide +kernel) (by decide +kernel)
theorem k_L_64 : Cond.methodLink x.cls 64 yX7_ordered ∈ gB := gB_mem (k := 996) (by decide +kernel) (by decide +kernel)
theorem k_L_65 : Cond.methodLink x.cls 65 yX6_line ∈ gB := gB_mem (k := 658) (by decide +kernel) (by decide +kernel)
theorem k_L_68 : Cond.methodLink x.cls 68 yX7_line ∈ gB := gB_mem (k := 1000) (by decide +kernel) (by decide +kernel)
theorem k_L_69 : Cond.methodLink x.cls 69 yX6_at ∈ gB := gB_mem (k := 667) (by decide +kernel) (by decide +kernel)
theorem k_L_72 : Cond.methodLink x.cls 72 yX7_at ∈ gB := gB_mem (k := 1012) (by decide +kernel) (by decide +kernel)
theorem k_L_73 : Cond.methodLink x.cls 73 yX6_leastWidth ∈ gB := gB_mem (k := 679) (by decide +kernel) (by decide +kernel)
theorem k_L_76 : Cond.methodLink x.cls 76 yX7_leastWidth ∈ gB := gB_mem (k := 1016) (by decide +kernel) (by decide +kernel)
theorem k_L_77 : Cond.methodLink x.cls 77 yX6_count ∈ gB := gB_mem (k := 687) (by decide +kernel) (by decide +kernel)
theorem k_L_80 : Cond.methodLink x.cls 80 yX7_count ∈ gB := gB_mem (k := 1024) (by decide +kernel) (by decide +kernel)
theorem k_L_81 : Cond.methodLink x.cls 81 yX6_digest ∈ gB := gB_mem (k := 701) (by decide +kernel) (by decide +kernel)
theorem k_L_85 : Cond.methodLink x.cls 85 yX7_digest ∈ gB := gB_mem (k := 1040) (by decide +kernel) (by decide +kernel)
theorem k_L_9 : Cond.methodLink x.cls 9 yX6_init ∈ gB := gB_mem (k := 78) (by decide +kernel) (by decide +kernel)
theorem k_X7_1 : Cond.methodLink RX7 1 objectInit ∈ gB := gB_mem (k := 717) (by decide +kernel) (by decide +kernel)
theorem k_X7_100 : Cond.methodLink RX7 100 yX7_leastOf ∈ gB := gB_mem (k := 843) (by decide +kernel) (by decide +kernel)
theorem k_X7_104 : Cond.methodLink RX7 104 yX7_mostOf ∈ gB := gB_mem (k := 846) (by decide +kernel) (by decide +kernel)
theorem k_X7_107 : Cond.methodLink RX7 107 yX7_skips ∈ gB := gB_mem (k := 823) (by decide +kernel) (by decide +kernel)
theorem k_X7_114 : Cond.methodLink RX7 114 yX7_isWord ∈ gB := gB_mem (k := 854) (by decide +kernel) (by decide +kernel)
theorem k_X7_134 : Cond.methodLink RX7 134 yX7_readsNumber ∈ gB := gB_mem (k := 831) (by decide +kernel) (by decide +kernel)
theorem k_X7_137 : Cond.methodLink RX7 137 yX7_wordOf ∈ gB := gB_mem (k := 849) (by decide +kernel) (by decide +kernel)
theorem k_X7_140 : Cond.methodLink RX7 140 yX7_readsItem ∈ gB := gB_mem (k := 819) (by decide +kernel) (by decide +kernel)
theorem k_X7_143 : Cond.methodLink RX7 143 yX7_keeps ∈ gB := gB_mem (k := 867) (by decide +kernel) (by decide +kernel)
theorem k_X7_146 : Cond.methodLink RX7 146 yX7_copies ∈ gB := gB_mem (k := 871) (by decide +kernel) (by decide +kernel)
theorem k_X7_150 : Cond.methodLink RX7 150 yX7_lays ∈ gB := gB_mem (k := 875) (by decide +kernel) (by decide +kernel)
theorem k_X7_153 : Cond.methodLink RX7 153 yX7_isItem ∈ gB := gB_mem (k := 883) (by decide +kernel) (by decide +kernel)
theorem k_X7_157 : Cond.methodLink RX7 157 yX7_of ∈ gB := gB_mem (k := 891) (by decide +kernel) (by decide +kernel)
theorem k_X7_161 : Cond.methodLink RX7 161 yX7_draws ∈ gB := gB_mem (k := 895) (by decide +kernel) (by decide +kernel)
theorem k_X7_164 : Cond.methodLink RX7 164 yX7_placeOf ∈ gB := gB_mem (k := 968) (by decide +kernel) (by decide +kernel)
theorem k_X7_167 : Cond.methodLink RX7 167 yX7_greater ∈ gB := gB_mem (k := 915) (by decide +kernel) (by decide +kernel)
theorem k_X7_170 : Cond.methodLink RX7 170 yX7_greatest ∈ gB := gB_mem (k := 918) (by decide +kernel) (by decide +kernel)
theorem k_X7_173 : Cond.methodLink RX7 173 yX7_lesser ∈ gB := gB_mem (k := 922) (by decide +kernel) (by decide +kernel)
theorem k_X7_179 : Cond.methodLink RX7 179 yX7_wish ∈ gB := gB_mem (k := 911) (by decide +kernel) (by decide +kernel)
theorem k_X7_185 : Cond.methodLink RX7 185 yX7_outerWish ∈ gB := gB_mem (k := 907) (by decide +kernel) (by decide +kernel)
theorem k_X7_188 : Cond.methodLink RX7 188 yX7_share ∈ gB := gB_mem (k := 937) (by decide +kernel) (by decide +kernel)
theorem k_X7_191 : Cond.methodLink RX7 191 yX7_weight ∈ gB := gB_mem (k := 941) (by decide +kernel) (by decide +kernel)
theorem k_X7_195 : Cond.methodLink RX7 195 yX7_isLeft ∈ gB := gB_mem (k := 929) (by decide +kernel) (by decide +kernel)
theorem k_X7_198 : Cond.methodLink RX7 198 yX7_pass ∈ gB := gB_mem (k := 933) (by decide +kernel) (by decide +kernel)
theorem k_X7_201 : Cond.methodLink RX7 201 yX7_down ∈ gB := gB_mem (k := 953) (by decide +kernel) (by decide +kernel)
theorem k_X7_204 : Cond.methodLink RX7 204 yX7_shift ∈ gB := gB_mem (k := 949) (by decide +kernel) (by decide +kernel)
theorem k_X7_207 : Cond.methodLink RX7 207 yX7_wayOf ∈ gB := gB_mem (k := 960) (by decide +kernel) (by decide +kernel)
theorem k_X7_210 : Cond.methodLink RX7 210 yX7_above ∈ gB := gB_mem (k := 964) (by decide +kernel) (by decide +kernel)
theorem k_X7_213 : Cond.methodLink RX7 213 yX7_orders ∈ gB := gB_mem (k := 899) (by decide +kernel) (by decide +kernel)
theorem k_X7_216 : Cond.methodLink RX7 216 yX7_wraps ∈ gB := gB_mem (k := 903) (by decide +kernel) (by decide +kernel)
theorem k_X7_219 : Cond.methodLink RX7 219 yX7_sizes ∈ gB := gB_mem (k := 925) (by decide +kernel) (by decide +kernel)
theorem k_X7_222 : Cond.methodLink RX7 222 yX7_along ∈ gB := gB_mem (k := 945) (by decide +kernel) (by decide +kernel)
theorem k_X7_225 : Cond.methodLink RX7 225 yX7_across ∈ gB := gB_mem (k := 956) (by decide +kernel) (by decide +kernel)
theorem k_X7_228 : Cond.methodLink RX7 228 yX7_liesAt ∈ gB := gB_mem (k := 992) (by decide +kernel) (by decide +kernel)
theorem k_X7_231 : Cond.methodLink RX7 231 yX7_outer ∈ gB := gB_mem (k := 1008) (by decide +kernel) (by decide +kernel)
theorem k_X7_234 : Cond.methodLink RX7 234 yX7_linePart ∈ gB := gB_mem (k := 1004) (by decide +kernel) (by decide +kernel)
theorem k_X7_237 : Cond.methodLink RX7 237 yX7_fits ∈ gB := gB_mem (k := 1020) (by decide +kernel) (by decide +kernel)
theorem k_X7_241 : Cond.methodLink RX7 241 yX7_hidden ∈ gB := gB_mem (k := 1032) (by decide +kernel) (by decide +kernel)
theorem k_X7_244 : Cond.methodLink RX7 244 yX7_farthest ∈ gB := gB_mem (k := 1036) (by decide +kernel) (by decide +kernel)
theorem k_X7_247 : Cond.methodLink RX7 247 yX7_number ∈ gB := gB_mem (k := 1028) (by decide +kernel) (by decide +kernel)
theorem k_X7_256 : Cond.methodLink RX7 256 yX7_item ∈ gB := gB_mem (k := 1054) (by decide +kernel) (by decide +kernel)
theorem k_X7_259 : Cond.methodLink RX7 259 yX7_mixes ∈ gB := gB_mem (k := 1045) (by decide +kernel) (by decide +kernel)
theorem k_X7_265 : Cond.methodLink RX7 265 yX7_mixesItem ∈ gB := gB_mem (k := 1050) (by decide +kernel) (by decide +kernel)
theorem k_X7_75 : Cond.methodLink RX7 75 yX7_in ∈ gB := gB_mem (k := 808) (by decide +kernel) (by decide +kernel)
theorem k_X7_85 : Cond.methodLink RX7 85 yX7_next ∈ gB := gB_mem (k := 827) (by decide +kernel) (by decide +kernel)
theorem k_X7_92 : Cond.methodLink RX7 92 yX7_isDigit ∈ gB := gB_mem (k := 835) (by decide +kernel) (by decide +kernel)
theorem k_X7_96 : Cond.methodLink RX7 96 yX7_fails ∈ gB := gB_mem (k := 839) (by decide +kernel) (by decide +kernel)
theorem kl_X6_16 : Cond.classLink RX6 16 "FlexRows$State" ∈ gB := gB_mem (k := 110) (by decide +kernel) (by decide +kernel)
theorem kl_X6_23 : Cond.classLink RX6 23 "FlexRows$History" ∈ gB := gB_mem (k := 136) (by decide +kernel) (by decide +kernel)
theorem kl_X6_30 : Cond.classLink RX6 30 "FlexRows$Order" ∈ gB := gB_mem (k := 159) (by decide +kernel) (by decide +kernel)
theorem kl_X6_39 : Cond.classLink RX6 39 "FlexRows$Lines" ∈ gB := gB_mem (k := 202) (by decide +kernel) (by decide +kernel)
theorem kl_X6_48 : Cond.classLink RX6 48 "FlexRows$Places" ∈ gB := gB_mem (k := 258) (by decide +kernel) (by decide +kernel)
theorem kl_X6_7 : Cond.classLink RX6 7 "FlexRows$Text" ∈ gB := gB_mem (k := 84) (by decide +kernel) (by decide +kernel)
theorem kl_L_10 : Cond.classLink RL 10 "FlexRowsModel" ∈ gB := gB_mem (k := 712) (by decide +kernel) (by decide +kernel)
theorem kl_L_7 : Cond.classLink RL 7 "FlexRows" ∈ gB := gB_mem (k := 76) (by decide +kernel) (by decide +kernel)
theorem k_J0_1059 : Cond.methodLink RJ0 1059 yJ3_checkIndex_8e157 ∈ gB := gB_mem (k := 410) (by decide +kernel) (by decide +kernel)
theorem k_J0_335 : Cond.methodLink RJ0 335 yJ0_coder_7d493 ∈ gB := gB_mem (k := 388) (by decide +kernel) (by decide +kernel)
theorem k_J0_492 : Cond.methodLink RJ0 492 yJ0_isLatin1_aae02 ∈ gB := gB_mem (k := 398) (by decide +kernel) (by decide +kernel)
theorem k_J0_495 : Cond.methodLink RJ0 495 yJ1_charAt_3b067 ∈ gB := gB_mem (k := 402) (by decide +kernel) (by decide +kernel)
theorem k_J0_498 : Cond.methodLink RJ0 498 yJ2_charAt_3b067 ∈ gB := gB_mem (k := 413) (by decide +kernel) (by decide +kernel)
theorem k_J1_9 : Cond.methodLink RJ1 9 yJ0_checkIndex_df160 ∈ gB := gB_mem (k := 405) (by decide +kernel) (by decide +kernel)
theorem k_J2_414 : Cond.methodLink RJ2 414 yJ0_checkIndex_df160 ∈ gB := gB_mem (k := 422) (by decide +kernel) (by decide +kernel)
theorem k_J2_48 : Cond.methodLink RJ2 48 yJ2_length_9d52b ∈ gB := gB_mem (k := 419) (by decide +kernel) (by decide +kernel)
theorem k_J2_67 : Cond.methodLink RJ2 67 yJ2_checkIndex_2214a ∈ gB := gB_mem (k := 416) (by decide +kernel) (by decide +kernel)
theorem k_J2_71 : Cond.methodLink RJ2 71 yJ2_getChar_3b067 ∈ gB := gB_mem (k := 423) (by decide +kernel) (by decide +kernel)
theorem kc_X6_170 : Cond.constantLong RX6 170 148 ∈ gB := gB_mem (k := 705) (by decide +kernel) (by decide +kernel)
theorem kc_X6_172 : Cond.constantLong RX6 172 31 ∈ gB := gB_mem (k := 706) (by decide +kernel) (by decide +kernel)
theorem kc_X7_110 : Cond.constantLong RX7 110 127 ∈ gB := gB_mem (k := 858) (by decide +kernel) (by decide +kernel)
theorem kc_X7_112 : Cond.constantLong RX7 112 1735552887 ∈ gB := gB_mem (k := 853) (by decide +kernel) (by decide +kernel)
theorem kc_X7_118 : Cond.constantLong RX7 118 126892433305195 ∈ gB := gB_mem (k := 859) (by decide +kernel) (by decide +kernel)
theorem kc_X7_120 : Cond.constantLong RX7 120 7170414 ∈ gB := gB_mem (k := 860) (by decide +kernel) (by decide +kernel)
theorem kc_X7_122 : Cond.constantLong RX7 122 7168376 ∈ gB := gB_mem (k := 861) (by decide +kernel) (by decide +kernel)
theorem kc_X7_124 : Cond.constantLong RX7 124 120265298635118 ∈ gB := gB_mem (k := 862) (by decide +kernel) (by decide +kernel)
theorem kc_X7_126 : Cond.constantLong RX7 126 1918987883 ∈ gB := gB_mem (k := 863) (by decide +kernel) (by decide +kernel)
theorem kc_X7_128 : Cond.constantLong RX7 128 114784769370228 ∈ gB := gB_mem (k := 864) (by decide +kernel) (by decide +kernel)
theorem kc_X7_130 : Cond.constantLong RX7 130 431198598248 ∈ gB := gB_mem (k := 865) (by decide +kernel) (by decide +kernel)
theorem kc_X7_132 : Cond.constantLong RX7 132 107079749563251 ∈ gB := gB_mem (k := 866) (by decide +kernel) (by decide +kernel)
theorem kc_X7_250 : Cond.constantLong RX7 250 31 ∈ gB := gB_mem (k := 1049) (by decide +kernel) (by decide +kernel)
theorem kc_X7_263 : Cond.constantLong RX7 263 148 ∈ gB := gB_mem (k := 1044) (by decide +kernel) (by decide +kernel)
theorem ki_X0 : Cond.instantiable RX0 5 ∈ gB := gB_mem (k := 137) (by decide +kernel) (by decide +kernel)
theorem kn_X0 : Cond.initialized RX0 ∈ gB := gB_mem (k := 66) (by decide +kernel) (by decide +kernel)
theorem ki_X1 : Cond.instantiable RX1 12 ∈ gB := gB_mem (k := 203) (by decide +kernel) (by decide +kernel)
theorem kn_X1 : Cond.initialized RX1 ∈ gB := gB_mem (k := 68) (by decide +kernel) (by decide +kernel)
theorem ki_X2 : Cond.instantiable RX2 8 ∈ gB := gB_mem (k := 160) (by decide +kernel) (by decide +kernel)
theorem kn_X2 : Cond.initialized RX2 ∈ gB := gB_mem (k := 67) (by decide +kernel) (by decide +kernel)
theorem ki_X3 : Cond.instantiable RX3 8 ∈ gB := gB_mem (k := 259) (by decide +kernel) (by decide +kernel)
theorem kn_X3 : Cond.initialized RX3 ∈ gB := gB_mem (k := 69) (by decide +kernel) (by decide +kernel)
theorem ki_X4 : Cond.instantiable RX4 3 ∈ gB := gB_mem (k := 111) (by decide +kernel) (by decide +kernel)
theorem kn_X4 : Cond.initialized RX4 ∈ gB := gB_mem (k := 64) (by decide +kernel) (by decide +kernel)
theorem ki_X5 : Cond.instantiable RX5 5 ∈ gB := gB_mem (k := 85) (by decide +kernel) (by decide +kernel)
theorem kn_X5 : Cond.initialized RX5 ∈ gB := gB_mem (k := 63) (by decide +kernel) (by decide +kernel)
theorem ki_X6 : Cond.instantiable RX6 8 ∈ gB := gB_mem (k := 77) (by decide +kernel) (by decide +kernel)
theorem kn_X6 : Cond.initialized RX6 ∈ gB := gB_mem (k := 62) (by decide +kernel) (by decide +kernel)
theorem ki_X7 : Cond.instantiable RX7 27 ∈ gB := gB_mem (k := 713) (by decide +kernel) (by decide +kernel)
theorem kn_X7 : Cond.initialized RX7 ∈ gB := gB_mem (k := 70) (by decide +kernel) (by decide +kernel)
theorem ka_int : Cond.arrayClass .int ∈ gB := gB_mem (k := 109) (by decide +kernel) (by decide +kernel)
theorem ka_byte : Cond.arrayClass .byte ∈ gB := gB_mem (k := 108) (by decide +kernel) (by decide +kernel)
theorem ka_boolean : Cond.arrayClass .boolean ∈ gB := gB_mem (k := 257) (by decide +kernel) (by decide +kernel)
theorem k_oi1 : Cond.instanceMethod objectInit ∈ gB := gB_mem (k := 82) (by decide +kernel) (by decide +kernel)
theorem k_oi2 : Cond.code objectInit ⟨#[0xb1]⟩ 1 none ∈ gB := gB_mem (k := 83) (by decide +kernel) (by decide +kernel)
theorem k_ac1 : Cond.native arraycopyName ∈ gB := gB_mem (k := 120) (by decide +kernel) (by decide +kernel)
theorem k_ac2 : Cond.static arraycopyName ∈ gB := gB_mem (k := 119) (by decide +kernel) (by decide +kernel)
theorem k_ac3 : Cond.initialized "java/lang/System" ∈ gB := gB_mem (k := 65) (by decide +kernel) (by decide +kernel)
theorem k_ma3 : Cond.initialized "java/lang/Math" ∈ gB := gB_mem (k := 75) (by decide +kernel) (by decide +kernel)
theorem k_max2 : Cond.static Lib.Math.max.name ∈ gB := gB_mem (k := 497) (by decide +kernel) (by decide +kernel)
theorem k_max4 : Cond.code Lib.Math.max.name Lib.Math.max.code 2 (some .int) ∈ gB := gB_mem (k := 498) (by decide +kernel) (by decide +kernel)
theorem k_min2 : Cond.static Lib.Math.min.name ∈ gB := gB_mem (k := 445) (by decide +kernel) (by decide +kernel)
theorem k_min4 : Cond.code Lib.Math.min.name Lib.Math.min.code 2 (some .int) ∈ gB := gB_mem (k := 446) (by decide +kernel) (by decide +kernel)
theorem kf_X6_103 : Cond.fieldLink RX6 103 "FlexRows" "LOWEST" "[I" ∈ gB := gB_mem (k := 604) (by decide +kernel) (by decide +kernel)
theorem kf_X6_106 : Cond.fieldLink RX6 106 "FlexRows" "HIGHEST" "[I" ∈ gB := gB_mem (k := 605) (by decide +kernel) (by decide +kernel)
theorem kf_X6_117 : Cond.fieldLink RX6 117 "FlexRows" "LOWEST_NUMBER" "[I" ∈ gB := gB_mem (k := 616) (by decide +kernel) (by decide +kernel)
theorem kf_X6_120 : Cond.fieldLink RX6 120 "FlexRows" "HIGHEST_NUMBER" "[I" ∈ gB := gB_mem (k := 618) (by decide +kernel) (by decide +kernel)
theorem kf_J0_9 : Cond.fieldLink RJ0 9 "java/lang/String" "value" "[B" ∈ gB := gB_mem (k := 1055) (by decide +kernel) (by decide +kernel)
theorem kf_J0_15 : Cond.fieldLink RJ0 15 "java/lang/String" "coder" "B" ∈ gB := gB_mem (k := 1056) (by decide +kernel) (by decide +kernel)
theorem kf_J0_38 : Cond.fieldLink RJ0 38 "java/lang/String" "COMPACT_STRINGS" "Z" ∈ gB := gB_mem (k := 392) (by decide +kernel) (by decide +kernel)
theorem kf_J0_1053 : Cond.fieldLink RJ0 1053 "jdk/internal/util/Preconditions" "SIOOBE_FORMATTER" "Ljava/util/function/BiFunction;" ∈ gB := gB_mem (k := 408) (by decide +kernel) (by decide +kernel)
theorem kf_J2_44 : Cond.fieldLink RJ2 44 "java/lang/StringUTF16" "$assertionsDisabled" "Z" ∈ gB := gB_mem (k := 426) (by decide +kernel) (by decide +kernel)
theorem kf_J2_59 : Cond.fieldLink RJ2 59 "java/lang/StringUTF16" "HI_BYTE_SHIFT" "I" ∈ gB := gB_mem (k := 428) (by decide +kernel) (by decide +kernel)
theorem kf_J2_63 : Cond.fieldLink RJ2 63 "java/lang/StringUTF16" "LO_BYTE_SHIFT" "I" ∈ gB := gB_mem (k := 430) (by decide +kernel) (by decide +kernel)
