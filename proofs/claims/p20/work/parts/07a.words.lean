theorem gclw0 : ∀ w ∈ u_ws RX0 TX0 5, w ∈ gB := by
  intro w h
  obtain ⟨k, hk, rfl⟩ := List.mem_map.mp h
  have hk := List.mem_range.mp hk
  rcases (show k = 0 ∨ k = 1 ∨ k = 2 ∨ k = 3 ∨ k = 4 by omega) with rfl | rfl | rfl | rfl | rfl
  · exact gB_mem (k := 107) (by decide +kernel) (by decide +kernel)
  · exact gB_mem (k := 109) (by decide +kernel) (by decide +kernel)
  · exact gB_mem (k := 111) (by decide +kernel) (by decide +kernel)
  · exact gB_mem (k := 113) (by decide +kernel) (by decide +kernel)
  · exact gB_mem (k := 115) (by decide +kernel) (by decide +kernel)
theorem gcl0 : gCl 0 RX0 TX0 5 := ⟨rfl, gclw0, by decide +kernel, nmX0, tyX0, fun k hk => ⟨tyX0_ok k hk, (show ∀ k, k < 5 → defaultValue (tyX0 k) = (match gfk 0 k with
  | 0 => .int 0
  | 1 => .null
  | _ => .long 0) by decide +kernel) k hk⟩⟩
theorem gclw1 : ∀ w ∈ u_ws RX1 TX1 12, w ∈ gB := by
  intro w h
  obtain ⟨k, hk, rfl⟩ := List.mem_map.mp h
  have hk := List.mem_range.mp hk
  rcases (show k = 0 ∨ k = 1 ∨ k = 2 ∨ k = 3 ∨ k = 4 ∨ k = 5 ∨ k = 6 ∨ k = 7 ∨ k = 8 ∨ k = 9 ∨ k = 10 ∨ k = 11 by omega) with rfl | rfl | rfl | rfl | rfl | rfl | rfl | rfl | rfl | rfl | rfl | rfl
  · exact gB_mem (k := 190) (by decide +kernel) (by decide +kernel)
  · exact gB_mem (k := 192) (by decide +kernel) (by decide +kernel)
  · exact gB_mem (k := 194) (by decide +kernel) (by decide +kernel)
  · exact gB_mem (k := 196) (by decide +kernel) (by decide +kernel)
  · exact gB_mem (k := 198) (by decide +kernel) (by decide +kernel)
  · exact gB_mem (k := 200) (by decide +kernel) (by decide +kernel)
  · exact gB_mem (k := 202) (by decide +kernel) (by decide +kernel)
  · exact gB_mem (k := 204) (by decide +kernel) (by decide +kernel)
  · exact gB_mem (k := 206) (by decide +kernel) (by decide +kernel)
  · exact gB_mem (k := 208) (by decide +kernel) (by decide +kernel)
  · exact gB_mem (k := 210) (by decide +kernel) (by decide +kernel)
  · exact gB_mem (k := 212) (by decide +kernel) (by decide +kernel)
theorem gcl1 : gCl 1 RX1 TX1 12 := ⟨rfl, gclw1, by decide +kernel, nmX1, tyX1, fun k hk => ⟨tyX1_ok k hk, (show ∀ k, k < 12 → defaultValue (tyX1 k) = (match gfk 1 k with
  | 0 => .int 0
  | 1 => .null
  | _ => .long 0) by decide +kernel) k hk⟩⟩
theorem gclw2 : ∀ w ∈ u_ws RX2 TX2 8, w ∈ gB := by
  intro w h
  obtain ⟨k, hk, rfl⟩ := List.mem_map.mp h
  have hk := List.mem_range.mp hk
  rcases (show k = 0 ∨ k = 1 ∨ k = 2 ∨ k = 3 ∨ k = 4 ∨ k = 5 ∨ k = 6 ∨ k = 7 by omega) with rfl | rfl | rfl | rfl | rfl | rfl | rfl | rfl
  · exact gB_mem (k := 143) (by decide +kernel) (by decide +kernel)
  · exact gB_mem (k := 145) (by decide +kernel) (by decide +kernel)
  · exact gB_mem (k := 147) (by decide +kernel) (by decide +kernel)
  · exact gB_mem (k := 149) (by decide +kernel) (by decide +kernel)
  · exact gB_mem (k := 151) (by decide +kernel) (by decide +kernel)
  · exact gB_mem (k := 153) (by decide +kernel) (by decide +kernel)
  · exact gB_mem (k := 155) (by decide +kernel) (by decide +kernel)
  · exact gB_mem (k := 157) (by decide +kernel) (by decide +kernel)
theorem gcl2 : gCl 2 RX2 TX2 8 := ⟨rfl, gclw2, by decide +kernel, nmX2, tyX2, fun k hk => ⟨tyX2_ok k hk, (show ∀ k, k < 8 → defaultValue (tyX2 k) = (match gfk 2 k with
  | 0 => .int 0
  | 1 => .null
  | _ => .long 0) by decide +kernel) k hk⟩⟩
theorem gclw3 : ∀ w ∈ u_ws RX3 TX3 8, w ∈ gB := by
  intro w h
  obtain ⟨k, hk, rfl⟩ := List.mem_map.mp h
  have hk := List.mem_range.mp hk
  rcases (show k = 0 ∨ k = 1 ∨ k = 2 ∨ k = 3 ∨ k = 4 ∨ k = 5 ∨ k = 6 ∨ k = 7 by omega) with rfl | rfl | rfl | rfl | rfl | rfl | rfl | rfl
  · exact gB_mem (k := 235) (by decide +kernel) (by decide +kernel)
  · exact gB_mem (k := 237) (by decide +kernel) (by decide +kernel)
  · exact gB_mem (k := 239) (by decide +kernel) (by decide +kernel)
  · exact gB_mem (k := 241) (by decide +kernel) (by decide +kernel)
  · exact gB_mem (k := 243) (by decide +kernel) (by decide +kernel)
  · exact gB_mem (k := 245) (by decide +kernel) (by decide +kernel)
  · exact gB_mem (k := 247) (by decide +kernel) (by decide +kernel)
  · exact gB_mem (k := 249) (by decide +kernel) (by decide +kernel)
theorem gcl3 : gCl 3 RX3 TX3 8 := ⟨rfl, gclw3, by decide +kernel, nmX3, tyX3, fun k hk => ⟨tyX3_ok k hk, (show ∀ k, k < 8 → defaultValue (tyX3 k) = (match gfk 3 k with
  | 0 => .int 0
  | 1 => .null
  | _ => .long 0) by decide +kernel) k hk⟩⟩
theorem gclw4 : ∀ w ∈ u_ws RX4 TX4 3, w ∈ gB := by
  intro w h
  obtain ⟨k, hk, rfl⟩ := List.mem_map.mp h
  have hk := List.mem_range.mp hk
  rcases (show k = 0 ∨ k = 1 ∨ k = 2 by omega) with rfl | rfl | rfl
  · exact gB_mem (k := 88) (by decide +kernel) (by decide +kernel)
  · exact gB_mem (k := 90) (by decide +kernel) (by decide +kernel)
  · exact gB_mem (k := 92) (by decide +kernel) (by decide +kernel)
theorem gcl4 : gCl 4 RX4 TX4 3 := ⟨rfl, gclw4, by decide +kernel, nmX4, tyX4, fun k hk => ⟨tyX4_ok k hk, (show ∀ k, k < 3 → defaultValue (tyX4 k) = (match gfk 4 k with
  | 0 => .int 0
  | 1 => .null
  | _ => .long 0) by decide +kernel) k hk⟩⟩
theorem gclw5 : ∀ w ∈ u_ws RX5 TX5 5, w ∈ gB := by
  intro w h
  obtain ⟨k, hk, rfl⟩ := List.mem_map.mp h
  have hk := List.mem_range.mp hk
  rcases (show k = 0 ∨ k = 1 ∨ k = 2 ∨ k = 3 ∨ k = 4 by omega) with rfl | rfl | rfl | rfl | rfl
  · exact gB_mem (k := 56) (by decide +kernel) (by decide +kernel)
  · exact gB_mem (k := 58) (by decide +kernel) (by decide +kernel)
  · exact gB_mem (k := 60) (by decide +kernel) (by decide +kernel)
  · exact gB_mem (k := 62) (by decide +kernel) (by decide +kernel)
  · exact gB_mem (k := 64) (by decide +kernel) (by decide +kernel)
theorem gcl5 : gCl 5 RX5 TX5 5 := ⟨rfl, gclw5, by decide +kernel, nmX5, tyX5, fun k hk => ⟨tyX5_ok k hk, (show ∀ k, k < 5 → defaultValue (tyX5 k) = (match gfk 5 k with
  | 0 => .int 0
  | 1 => .null
  | _ => .long 0) by decide +kernel) k hk⟩⟩
theorem gclw6 : ∀ w ∈ u_ws RX6 TX6 8, w ∈ gB := by
  intro w h
  obtain ⟨k, hk, rfl⟩ := List.mem_map.mp h
  have hk := List.mem_range.mp hk
  rcases (show k = 0 ∨ k = 1 ∨ k = 2 ∨ k = 3 ∨ k = 4 ∨ k = 5 ∨ k = 6 ∨ k = 7 by omega) with rfl | rfl | rfl | rfl | rfl | rfl | rfl | rfl
  · exact gB_mem (k := 260) (by decide +kernel) (by decide +kernel)
  · exact gB_mem (k := 262) (by decide +kernel) (by decide +kernel)
  · exact gB_mem (k := 264) (by decide +kernel) (by decide +kernel)
  · exact gB_mem (k := 266) (by decide +kernel) (by decide +kernel)
  · exact gB_mem (k := 268) (by decide +kernel) (by decide +kernel)
  · exact gB_mem (k := 270) (by decide +kernel) (by decide +kernel)
  · exact gB_mem (k := 272) (by decide +kernel) (by decide +kernel)
  · exact gB_mem (k := 274) (by decide +kernel) (by decide +kernel)
theorem gcl6 : gCl 6 RX6 TX6 8 := ⟨rfl, gclw6, by decide +kernel, nmX6, tyX6, fun k hk => ⟨tyX6_ok k hk, (show ∀ k, k < 8 → defaultValue (tyX6 k) = (match gfk 6 k with
  | 0 => .int 0
  | 1 => .null
  | _ => .long 0) by decide +kernel) k hk⟩⟩
theorem gf_X6_10 : gFL RX6 10 6 0 := ⟨RX6, TX6, 8, gcl6, by decide, gB_mem (k := 252) (by decide +kernel) (by decide +kernel)⟩
theorem gp_X6_10 : gFP RX6 10 6 0 (.object "FlexRows$Text") true := ⟨RX6, TX6, 8, gcl6, by decide, gB_mem (k := 252) (by decide +kernel) (by decide +kernel), rfl, by decide +kernel, fun _ => rfl⟩
theorem gf_X6_19 : gFL RX6 19 6 1 := ⟨RX6, TX6, 8, gcl6, by decide, gB_mem (k := 253) (by decide +kernel) (by decide +kernel)⟩
theorem gp_X6_19 : gFP RX6 19 6 1 (.object "FlexRows$State") true := ⟨RX6, TX6, 8, gcl6, by decide, gB_mem (k := 253) (by decide +kernel) (by decide +kernel), rfl, by decide +kernel, fun _ => rfl⟩
theorem gf_X6_26 : gFL RX6 26 6 2 := ⟨RX6, TX6, 8, gcl6, by decide, gB_mem (k := 254) (by decide +kernel) (by decide +kernel)⟩
theorem gp_X6_26 : gFP RX6 26 6 2 (.object "FlexRows$History") true := ⟨RX6, TX6, 8, gcl6, by decide, gB_mem (k := 254) (by decide +kernel) (by decide +kernel), rfl, by decide +kernel, fun _ => rfl⟩
theorem gf_X6_35 : gFL RX6 35 6 3 := ⟨RX6, TX6, 8, gcl6, by decide, gB_mem (k := 255) (by decide +kernel) (by decide +kernel)⟩
theorem gp_X6_35 : gFP RX6 35 6 3 (.object "FlexRows$Order") true := ⟨RX6, TX6, 8, gcl6, by decide, gB_mem (k := 255) (by decide +kernel) (by decide +kernel), rfl, by decide +kernel, fun _ => rfl⟩
theorem gf_X6_44 : gFL RX6 44 6 4 := ⟨RX6, TX6, 8, gcl6, by decide, gB_mem (k := 256) (by decide +kernel) (by decide +kernel)⟩
theorem gp_X6_44 : gFP RX6 44 6 4 (.object "FlexRows$Lines") true := ⟨RX6, TX6, 8, gcl6, by decide, gB_mem (k := 256) (by decide +kernel) (by decide +kernel), rfl, by decide +kernel, fun _ => rfl⟩
theorem gf_X6_53 : gFL RX6 53 6 5 := ⟨RX6, TX6, 8, gcl6, by decide, gB_mem (k := 257) (by decide +kernel) (by decide +kernel)⟩
theorem gp_X6_53 : gFP RX6 53 6 5 (.object "FlexRows$Places") true := ⟨RX6, TX6, 8, gcl6, by decide, gB_mem (k := 257) (by decide +kernel) (by decide +kernel), rfl, by decide +kernel, fun _ => rfl⟩
theorem gf_X6_57 : gFL RX6 57 6 6 := ⟨RX6, TX6, 8, gcl6, by decide, gB_mem (k := 258) (by decide +kernel) (by decide +kernel)⟩
theorem gp_X6_57 : gFP RX6 57 6 6 (.object "FlexRows$Lines") true := ⟨RX6, TX6, 8, gcl6, by decide, gB_mem (k := 258) (by decide +kernel) (by decide +kernel), rfl, by decide +kernel, fun _ => rfl⟩
theorem gf_X6_60 : gFL RX6 60 6 7 := ⟨RX6, TX6, 8, gcl6, by decide, gB_mem (k := 259) (by decide +kernel) (by decide +kernel)⟩
theorem gp_X6_60 : gFP RX6 60 6 7 .boolean false := ⟨RX6, TX6, 8, gcl6, by decide, gB_mem (k := 259) (by decide +kernel) (by decide +kernel), rfl, by decide +kernel, fun h => by cases h⟩
theorem gf_X6_68 : gFL RX6 68 5 2 := ⟨RX5, TX5, 5, gcl5, by decide, gB_mem (k := 53) (by decide +kernel) (by decide +kernel)⟩
theorem gp_X6_68 : gFP RX6 68 5 2 .int false := ⟨RX5, TX5, 5, gcl5, by decide, gB_mem (k := 53) (by decide +kernel) (by decide +kernel), rfl, by decide +kernel, fun h => by cases h⟩
theorem gf_X6_72 : gFL RX6 72 4 0 := ⟨RX4, TX4, 3, gcl4, by decide, gB_mem (k := 83) (by decide +kernel) (by decide +kernel)⟩
theorem gp_X6_72 : gFP RX6 72 4 0 .int false := ⟨RX4, TX4, 3, gcl4, by decide, gB_mem (k := 83) (by decide +kernel) (by decide +kernel), rfl, by decide +kernel, fun h => by cases h⟩
theorem gf_X6_82 : gFL RX6 82 5 1 := ⟨RX5, TX5, 5, gcl5, by decide, gB_mem (k := 51) (by decide +kernel) (by decide +kernel)⟩
theorem gf_X6_129 : gFL RX6 129 0 0 := ⟨RX0, TX0, 5, gcl0, by decide, gB_mem (k := 102) (by decide +kernel) (by decide +kernel)⟩
theorem gf_X6_141 : gFL RX6 141 2 0 := ⟨RX2, TX2, 8, gcl2, by decide, gB_mem (k := 126) (by decide +kernel) (by decide +kernel)⟩
theorem gf_X6_147 : gFL RX6 147 1 0 := ⟨RX1, TX1, 12, gcl1, by decide, gB_mem (k := 168) (by decide +kernel) (by decide +kernel)⟩
theorem gf_X6_190 : gFL RX6 190 2 1 := ⟨RX2, TX2, 8, gcl2, by decide, gB_mem (k := 129) (by decide +kernel) (by decide +kernel)⟩
theorem gf_X6_195 : gFL RX6 195 3 1 := ⟨RX3, TX3, 8, gcl3, by decide, gB_mem (k := 225) (by decide +kernel) (by decide +kernel)⟩
theorem gf_X6_198 : gFL RX6 198 1 6 := ⟨RX1, TX1, 12, gcl1, by decide, gB_mem (k := 183) (by decide +kernel) (by decide +kernel)⟩
theorem gf_X6_201 : gFL RX6 201 3 2 := ⟨RX3, TX3, 8, gcl3, by decide, gB_mem (k := 227) (by decide +kernel) (by decide +kernel)⟩
theorem gf_X6_207 : gFL RX6 207 2 6 := ⟨RX2, TX2, 8, gcl2, by decide, gB_mem (k := 141) (by decide +kernel) (by decide +kernel)⟩
theorem gf_X6_209 : gFL RX6 209 1 7 := ⟨RX1, TX1, 12, gcl1, by decide, gB_mem (k := 185) (by decide +kernel) (by decide +kernel)⟩
theorem gf_X6_215 : gFL RX6 215 1 1 := ⟨RX1, TX1, 12, gcl1, by decide, gB_mem (k := 171) (by decide +kernel) (by decide +kernel)⟩
theorem gf_X6_218 : gFL RX6 218 3 3 := ⟨RX3, TX3, 8, gcl3, by decide, gB_mem (k := 229) (by decide +kernel) (by decide +kernel)⟩
theorem gf_X6_221 : gFL RX6 221 3 4 := ⟨RX3, TX3, 8, gcl3, by decide, gB_mem (k := 231) (by decide +kernel) (by decide +kernel)⟩
theorem gf_X6_224 : gFL RX6 224 1 3 := ⟨RX1, TX1, 12, gcl1, by decide, gB_mem (k := 176) (by decide +kernel) (by decide +kernel)⟩
theorem gf_X6_227 : gFL RX6 227 1 5 := ⟨RX1, TX1, 12, gcl1, by decide, gB_mem (k := 180) (by decide +kernel) (by decide +kernel)⟩
theorem gf_X6_231 : gFL RX6 231 1 4 := ⟨RX1, TX1, 12, gcl1, by decide, gB_mem (k := 178) (by decide +kernel) (by decide +kernel)⟩
theorem gf_X6_234 : gFL RX6 234 1 2 := ⟨RX1, TX1, 12, gcl1, by decide, gB_mem (k := 173) (by decide +kernel) (by decide +kernel)⟩
theorem gf_X6_237 : gFL RX6 237 3 0 := ⟨RX3, TX3, 8, gcl3, by decide, gB_mem (k := 223) (by decide +kernel) (by decide +kernel)⟩
theorem gf_X0_9 : gFL RX0 9 0 2 := ⟨RX0, TX0, 5, gcl0, by decide, gB_mem (k := 104) (by decide +kernel) (by decide +kernel)⟩
theorem gp_X0_9 : gFP RX0 9 0 2 (.array .int) true := ⟨RX0, TX0, 5, gcl0, by decide, gB_mem (k := 104) (by decide +kernel) (by decide +kernel), rfl, by decide +kernel, fun _ => rfl⟩
theorem gf_X0_15 : gFL RX0 15 0 3 := ⟨RX0, TX0, 5, gcl0, by decide, gB_mem (k := 105) (by decide +kernel) (by decide +kernel)⟩
theorem gp_X0_15 : gFP RX0 15 0 3 (.array .int) true := ⟨RX0, TX0, 5, gcl0, by decide, gB_mem (k := 105) (by decide +kernel) (by decide +kernel), rfl, by decide +kernel, fun _ => rfl⟩
theorem gf_X0_18 : gFL RX0 18 0 4 := ⟨RX0, TX0, 5, gcl0, by decide, gB_mem (k := 106) (by decide +kernel) (by decide +kernel)⟩
theorem gp_X0_18 : gFP RX0 18 0 4 (.array .int) true := ⟨RX0, TX0, 5, gcl0, by decide, gB_mem (k := 106) (by decide +kernel) (by decide +kernel), rfl, by decide +kernel, fun _ => rfl⟩
theorem gf_X0_21 : gFL RX0 21 0 1 := ⟨RX0, TX0, 5, gcl0, by decide, gB_mem (k := 103) (by decide +kernel) (by decide +kernel)⟩
theorem gp_X0_21 : gFP RX0 21 0 1 .int false := ⟨RX0, TX0, 5, gcl0, by decide, gB_mem (k := 103) (by decide +kernel) (by decide +kernel), rfl, by decide +kernel, fun h => by cases h⟩
theorem gf_X0_31 : gFL RX0 31 4 0 := ⟨RX4, TX4, 3, gcl4, by decide, gB_mem (k := 82) (by decide +kernel) (by decide +kernel)⟩
theorem gp_X0_31 : gFP RX0 31 4 0 .int false := ⟨RX4, TX4, 3, gcl4, by decide, gB_mem (k := 82) (by decide +kernel) (by decide +kernel), rfl, by decide +kernel, fun h => by cases h⟩
theorem gf_X0_35 : gFL RX0 35 4 1 := ⟨RX4, TX4, 3, gcl4, by decide, gB_mem (k := 85) (by decide +kernel) (by decide +kernel)⟩
theorem gf_X0_44 : gFL RX0 44 4 2 := ⟨RX4, TX4, 3, gcl4, by decide, gB_mem (k := 87) (by decide +kernel) (by decide +kernel)⟩
theorem gf_X0_45 : gFL RX0 45 0 0 := ⟨RX0, TX0, 5, gcl0, by decide, gB_mem (k := 101) (by decide +kernel) (by decide +kernel)⟩
theorem gp_X0_45 : gFP RX0 45 0 0 .int false := ⟨RX0, TX0, 5, gcl0, by decide, gB_mem (k := 101) (by decide +kernel) (by decide +kernel), rfl, by decide +kernel, fun h => by cases h⟩
theorem gf_X1_9 : gFL RX1 9 1 1 := ⟨RX1, TX1, 12, gcl1, by decide, gB_mem (k := 169) (by decide +kernel) (by decide +kernel)⟩
theorem gp_X1_9 : gFP RX1 9 1 1 (.array .int) true := ⟨RX1, TX1, 12, gcl1, by decide, gB_mem (k := 169) (by decide +kernel) (by decide +kernel), rfl, by decide +kernel, fun _ => rfl⟩
theorem gf_X1_15 : gFL RX1 15 1 2 := ⟨RX1, TX1, 12, gcl1, by decide, gB_mem (k := 172) (by decide +kernel) (by decide +kernel)⟩
theorem gp_X1_15 : gFP RX1 15 1 2 (.array .int) true := ⟨RX1, TX1, 12, gcl1, by decide, gB_mem (k := 172) (by decide +kernel) (by decide +kernel), rfl, by decide +kernel, fun _ => rfl⟩
theorem gf_X1_18 : gFL RX1 18 1 3 := ⟨RX1, TX1, 12, gcl1, by decide, gB_mem (k := 174) (by decide +kernel) (by decide +kernel)⟩
theorem gp_X1_18 : gFP RX1 18 1 3 (.array .int) true := ⟨RX1, TX1, 12, gcl1, by decide, gB_mem (k := 174) (by decide +kernel) (by decide +kernel), rfl, by decide +kernel, fun _ => rfl⟩
theorem gf_X1_21 : gFL RX1 21 1 4 := ⟨RX1, TX1, 12, gcl1, by decide, gB_mem (k := 177) (by decide +kernel) (by decide +kernel)⟩
theorem gp_X1_21 : gFP RX1 21 1 4 (.array .int) true := ⟨RX1, TX1, 12, gcl1, by decide, gB_mem (k := 177) (by decide +kernel) (by decide +kernel), rfl, by decide +kernel, fun _ => rfl⟩
theorem gf_X1_24 : gFL RX1 24 1 5 := ⟨RX1, TX1, 12, gcl1, by decide, gB_mem (k := 179) (by decide +kernel) (by decide +kernel)⟩
theorem gp_X1_24 : gFP RX1 24 1 5 (.array .boolean) true := ⟨RX1, TX1, 12, gcl1, by decide, gB_mem (k := 179) (by decide +kernel) (by decide +kernel), rfl, by decide +kernel, fun _ => rfl⟩
theorem gf_X1_28 : gFL RX1 28 1 6 := ⟨RX1, TX1, 12, gcl1, by decide, gB_mem (k := 181) (by decide +kernel) (by decide +kernel)⟩
theorem gp_X1_28 : gFP RX1 28 1 6 (.array .int) true := ⟨RX1, TX1, 12, gcl1, by decide, gB_mem (k := 181) (by decide +kernel) (by decide +kernel), rfl, by decide +kernel, fun _ => rfl⟩
theorem gf_X1_31 : gFL RX1 31 1 7 := ⟨RX1, TX1, 12, gcl1, by decide, gB_mem (k := 184) (by decide +kernel) (by decide +kernel)⟩
theorem gp_X1_31 : gFP RX1 31 1 7 (.array .int) true := ⟨RX1, TX1, 12, gcl1, by decide, gB_mem (k := 184) (by decide +kernel) (by decide +kernel), rfl, by decide +kernel, fun _ => rfl⟩
theorem gf_X1_34 : gFL RX1 34 1 8 := ⟨RX1, TX1, 12, gcl1, by decide, gB_mem (k := 186) (by decide +kernel) (by decide +kernel)⟩
theorem gp_X1_34 : gFP RX1 34 1 8 (.array .int) true := ⟨RX1, TX1, 12, gcl1, by decide, gB_mem (k := 186) (by decide +kernel) (by decide +kernel), rfl, by decide +kernel, fun _ => rfl⟩
theorem gf_X1_37 : gFL RX1 37 1 9 := ⟨RX1, TX1, 12, gcl1, by decide, gB_mem (k := 187) (by decide +kernel) (by decide +kernel)⟩
theorem gp_X1_37 : gFP RX1 37 1 9 (.object "FlexRows$State") true := ⟨RX1, TX1, 12, gcl1, by decide, gB_mem (k := 187) (by decide +kernel) (by decide +kernel), rfl, by decide +kernel, fun _ => rfl⟩
theorem gf_X1_41 : gFL RX1 41 1 10 := ⟨RX1, TX1, 12, gcl1, by decide, gB_mem (k := 188) (by decide +kernel) (by decide +kernel)⟩
theorem gp_X1_41 : gFP RX1 41 1 10 (.object "FlexRows$Order") true := ⟨RX1, TX1, 12, gcl1, by decide, gB_mem (k := 188) (by decide +kernel) (by decide +kernel), rfl, by decide +kernel, fun _ => rfl⟩
