/-! the lines' sizes, whole -/
section SIZB
variable {E : gE} {I : Nat → Nat → Int32} {h hl : gX} {S : sT} {z l : Nat}
/-- the line itself -/
theorem siz_ln {J : Nat → Nat → Int32} {v9 : Value} (hA : aX I S) (hzX : zX hl z) (hle : gn hl ≤ gn h + 6) (hl5 : l < nln (sQ S.1) (sC S.1)) (kk : ∀ (J : Nat → Nat → Int32) (v6 v7 v8 v9 : Value), lJ I J S → arG E h hl 9 [.ref 0, .ref 41, .ref 42, .ref 43, .ref z, .int (nI (l + 1)), v6, v7, v8, v9] [] I J S) (hJ : lJ I J S) (hP : shP J z S l) : arG E h hl 197 [.ref 0, .ref 41, .ref 42, .ref 43, .ref z, .int (nI l), .int (nI (sA S l).2.2), .int (fiK S l (sA S l).2.2), .int (ouK S l (sA S l).2.2), v9] [] I J S := by
  obtain ⟨l6_z, l9_z, s_z, hz4⟩ := id hzX
  obtain ⟨a1, a2, a3, a4⟩ := id hA
  have hc5 : sC S.1 ≤ S.1.1 := ordS_le S.1.2.1 S.1.1
  have hnl := nln_le (sQ S.1) (sC S.1)
  have h16 : S.1.1 ≤ 16 := by omega
  obtain ⟨g1, g2, g3, g4⟩ := id hP
  have hn0 : 0 < (sA S l).2.2 := by
    have := frC_pos (sQ S.1) (sC S.1) l hl5
    show 0 < frC _ _ _ - frC _ _ _
    omega
  have efi : lnV S.1 l 1 = fiK S l (sA S l).2.2 := by
    unfold fiK
    rw [if_neg (by omega)]
    rfl
  have eou : lnV S.1 l 7 = ouK S l (sA S l).2.2 := by
    obtain ⟨m, hm⟩ : ∃ m, (sA S l).2.2 = m + 1 := ⟨(sA S l).2.2 - 1, by omega⟩
    rw [hm]
    show lsm (sQ S.1) (frC (sQ S.1) (sC S.1) (l + 1) - 1) = lsm (sQ S.1) (frC (sQ S.1) (sC S.1) l + m)
    have hm : frC (sQ S.1) (sC S.1) (l + 1) - frC (sQ S.1) (sC S.1) l = m + 1 := hm
    exact congrArg (lsm (sQ S.1)) (by omega)
  refine g_aload_n (i := 0) (r := 0) (t := 198) dL_areSizes_197 rfl rfl (Or.inl l9_0) rfl ?_
  refine g_iload (i := 5) (t := 200) dL_areSizes_198 rfl rfl ?_
  refine g_iconst (t := 201) dL_areSizes_200 c_iconst_0 rfl ?_
  refine g_cVi (o := 0) (t := 204) mX6_line k_L_99 imX6_line seX6_line l6_0 l9_0 s_0 rfl dL_areSizes_201 (x6_line hJ.1) rfl rfl (by decide) (by decide) (Nat.le_of_ble_eq_true rfl) rfl hle (fun v201 J201 q201 => ?_)
  obtain ⟨zq1, zq2, zq3⟩ := q201
  have e201 := ln_y h16 hl5 (by decide) zq3
  have zJ1 := hJ.cl zq1 zq2
  have zz1 := cl_z zq1 hz4
  refine g_iload (i := 6) (t := 206) dL_areSizes_204 rfl rfl ?_
  refine g_icmp_ne (t1 := 289) (t2 := 209) dL_areSizes_206 (by decide) rfl (fun h206 => ?_) (fun h206 => ?_)
  · exact absurd e201 h206
  · refine g_aload_n (i := 0) (r := 0) (t := 210) dL_areSizes_209 rfl rfl (Or.inl l9_0) rfl ?_
    refine g_iload (i := 5) (t := 212) dL_areSizes_210 rfl rfl ?_
    refine g_iconst (t := 213) dL_areSizes_212 c_iconst_1 rfl ?_
    refine g_cVi (o := 0) (t := 216) mX6_line k_L_99 imX6_line seX6_line l6_0 l9_0 s_0 rfl dL_areSizes_213 (x6_line zJ1.1) rfl rfl (by decide) (by decide) (Nat.le_of_ble_eq_true rfl) rfl hle (fun v213 J213 q213 => ?_)
    obtain ⟨zq4, zq5, zq6⟩ := q213
    have e213 := (ln_y h16 hl5 (by decide) zq6).trans efi
    have zJ2 := zJ1.cl zq4 zq5
    have zz2 := (cl_z zq4 hz4).trans zz1
    refine g_iload (i := 7) (t := 218) dL_areSizes_216 rfl rfl ?_
    refine g_icmp_ne (t1 := 289) (t2 := 221) dL_areSizes_218 (by decide) rfl (fun h218 => ?_) (fun h218 => ?_)
    · exact absurd e213 h218
    · refine g_aload_n (i := 0) (r := 0) (t := 222) dL_areSizes_221 rfl rfl (Or.inl l9_0) rfl ?_
      refine g_iload (i := 5) (t := 224) dL_areSizes_222 rfl rfl ?_
      refine g_iconst (t := 225) dL_areSizes_224 c_iconst_4 rfl ?_
      refine g_cVi (o := 0) (t := 228) mX6_line k_L_99 imX6_line seX6_line l6_0 l9_0 s_0 rfl dL_areSizes_225 (x6_line zJ2.1) rfl rfl (by decide) (by decide) (Nat.le_of_ble_eq_true rfl) rfl hle (fun v225 J225 q225 => ?_)
      obtain ⟨zr1, zr2, zr3⟩ := q225
      have e225 := ln_y h16 hl5 (by decide) zr3
      have zJ3 := zJ2.cl zr1 zr2
      have zz3 := (cl_z zr1 hz4).trans zz2
      refine g_aload (i := 4) (r := z) (t := 230) dL_areSizes_228 rfl (Or.inl l9_z) rfl ?_
      refine g_bipush (t := 232) dL_areSizes_230 c_bipush_24 rfl ?_
      refine g_iload (i := 5) (t := 234) dL_areSizes_232 rfl rfl ?_
      refine g_iadd (t := 235) dL_areSizes_234 rfl ?_
      refine gm_iald_x (a := z) (n := 48) (t := 236) l6_z l9_z s_z dL_areSizes_235 (ix_a _ _) (by omega) (by decide) rfl ?_
      rw [zz3, g2]
      refine g_icmp_ne (t1 := 289) (t2 := 239) dL_areSizes_236 (by decide) rfl (fun h236 => ?_) (fun h236 => ?_)
      · exact absurd e225 h236
      · refine g_aload_n (i := 0) (r := 0) (t := 240) dL_areSizes_239 rfl rfl (Or.inl l9_0) rfl ?_
        refine g_iload (i := 5) (t := 242) dL_areSizes_240 rfl rfl ?_
        refine g_iconst (t := 243) dL_areSizes_242 c_iconst_5 rfl ?_
        refine g_cVi (o := 0) (t := 246) mX6_line k_L_99 imX6_line seX6_line l6_0 l9_0 s_0 rfl dL_areSizes_243 (x6_line zJ3.1) rfl rfl (by decide) (by decide) (Nat.le_of_ble_eq_true rfl) rfl hle (fun v243 J243 q243 => ?_)
        obtain ⟨zr4, zr5, zr6⟩ := q243
        have e243 := ln_y h16 hl5 (by decide) zr6
        have zJ4 := zJ3.cl zr4 zr5
        have zz4 := (cl_z zr4 hz4).trans zz3
        refine g_aload (i := 4) (r := z) (t := 248) dL_areSizes_246 rfl (Or.inl l9_z) rfl ?_
        refine g_bipush (t := 250) dL_areSizes_248 c_bipush_32 rfl ?_
        refine g_iload (i := 5) (t := 252) dL_areSizes_250 rfl rfl ?_
        refine g_iadd (t := 253) dL_areSizes_252 rfl ?_
        refine gm_iald_x (a := z) (n := 48) (t := 254) l6_z l9_z s_z dL_areSizes_253 (ix_a _ _) (by omega) (by decide) rfl ?_
        rw [zz4, g3]
        refine g_icmp_ne (t1 := 289) (t2 := 257) dL_areSizes_254 (by decide) rfl (fun h254 => ?_) (fun h254 => ?_)
        · exact absurd e243 h254
        · refine g_aload_n (i := 0) (r := 0) (t := 258) dL_areSizes_257 rfl rfl (Or.inl l9_0) rfl ?_
          refine g_iload (i := 5) (t := 260) dL_areSizes_258 rfl rfl ?_
          refine g_bipush (t := 262) dL_areSizes_260 c_bipush_6 rfl ?_
          refine g_cVi (o := 0) (t := 265) mX6_line k_L_99 imX6_line seX6_line l6_0 l9_0 s_0 rfl dL_areSizes_262 (x6_line zJ4.1) rfl rfl (by decide) (by decide) (Nat.le_of_ble_eq_true rfl) rfl hle (fun v262 J262 q262 => ?_)
          obtain ⟨zs1, zs2, zs3⟩ := q262
          have e262 := ln_y h16 hl5 (by decide) zs3
          have zJ5 := zJ4.cl zs1 zs2
          have zz5 := (cl_z zs1 hz4).trans zz4
          refine g_aload (i := 4) (r := z) (t := 267) dL_areSizes_265 rfl (Or.inl l9_z) rfl ?_
          refine g_bipush (t := 269) dL_areSizes_267 c_bipush_40 rfl ?_
          refine g_iload (i := 5) (t := 271) dL_areSizes_269 rfl rfl ?_
          refine g_iadd (t := 272) dL_areSizes_271 rfl ?_
          refine gm_iald_x (a := z) (n := 48) (t := 273) l6_z l9_z s_z dL_areSizes_272 (ix_a _ _) (by omega) (by decide) rfl ?_
          rw [zz5, g4]
          refine g_icmp_ne (t1 := 289) (t2 := 276) dL_areSizes_273 (by decide) rfl (fun h273 => ?_) (fun h273 => ?_)
          · exact absurd e262 h273
          · refine g_aload_n (i := 0) (r := 0) (t := 277) dL_areSizes_276 rfl rfl (Or.inl l9_0) rfl ?_
            refine g_iload (i := 5) (t := 279) dL_areSizes_277 rfl rfl ?_
            refine g_bipush (t := 281) dL_areSizes_279 c_bipush_7 rfl ?_
            refine g_cVi (o := 0) (t := 284) mX6_line k_L_99 imX6_line seX6_line l6_0 l9_0 s_0 rfl dL_areSizes_281 (x6_line zJ5.1) rfl rfl (by decide) (by decide) (Nat.le_of_ble_eq_true rfl) rfl hle (fun v281 J281 q281 => ?_)
            obtain ⟨zs4, zs5, zs6⟩ := q281
            have e281 := (ln_y h16 hl5 (by decide) zs6).trans eou
            have zJ6 := zJ5.cl zs4 zs5
            refine g_iload (i := 8) (t := 286) dL_areSizes_284 rfl rfl ?_
            refine g_icmp_eq (t1 := 291) (t2 := 289) dL_areSizes_286 (by decide) rfl (fun h286 => ?_) (fun h286 => ?_)
            · refine g_iinc (i := 5) (t := 294) (L1 := [_, _, _, _, _, _, _, _, _, _]) dL_areSizes_291 rfl (gi_1 _) (by decide) rfl rfl rfl ?_
              refine g_goto (t := 9) dL_areSizes_294 (by decide) ?_
              exact kk J281 _ _ _ _ zJ6
            · exact absurd e281 h286
theorem siz_out (hA : aX I S) (hO : orX I S) (hV : vT S) (h900 : 44 + h.2.length < 900) : ∀ (d l : Nat) (J : Nat → Nat → Int32) (hl : gX) (v6 v7 v8 v9 : Value), l + d = nln (sQ S.1) (sC S.1) → gn hl = gn h + 1 + l → hl.2.length = h.2.length + 1 + l → zX hl z → lJ I J S → arG E h hl 9 [.ref 0, .ref 41, .ref 42, .ref 43, .ref z, .int (nI l), v6, v7, v8, v9] [] I J S := by
  obtain ⟨a1, a2, a3, a4⟩ := id hA
  obtain ⟨o1, o2, o3⟩ := id hO
  have hc5 : sC S.1 ≤ S.1.1 := ordS_le S.1.2.1 S.1.1
  have hnl := nln_le (sQ S.1) (sC S.1)
  have h16 : S.1.1 ≤ 16 := by omega
  intro d
  induction d with
  | zero =>
    intro l J hl v6 v7 v8 v9 hll hgn hlen hzX hJ
    have hll : l = nln (sQ S.1) (sC S.1) := by omega
    subst hll
    have hle : gn hl ≤ gn h + 6 := by omega
    have hpad : gn ((hl.1 + (5 - nln (sQ S.1) (sC S.1)), hl.2) : gX) = gn h + 6 := by
      show 44 + hl.2.length + (hl.1 + (5 - nln (sQ S.1) (sC S.1))) = gn h + 6
      have : 44 + hl.2.length + hl.1 = gn h + 1 + nln (sQ S.1) (sC S.1) := hgn
      omega
    refine g_iload (i := 5) (t := 11) dL_areSizes_9 rfl rfl ?_
    refine g_aload_n (i := 3) (r := 43) (t := 12) dL_areSizes_11 rfl rfl (Or.inl l9_43) rfl ?_
    refine g_bipush (t := 14) dL_areSizes_12 c_bipush_17 rfl ?_
    refine gm_iald_x (a := 43) (n := 24) (t := 15) l6_43 l9_43 s_43 dL_areSizes_14 rfl (by omega) (by decide) rfl ?_
    rw [hJ.2.2.2, o3]
    refine g_icmp_ge_n (t1 := 297) (t2 := 18) dL_areSizes_15 (by decide) rfl (by omega) (by omega) (fun h15 => ?_) (fun h15 => ?_)
    · refine g_aload_n (i := 0) (r := 0) (t := 298) dL_areSizes_297 rfl rfl (Or.inl l9_0) rfl ?_
      refine g_aload_n (i := 3) (r := 43) (t := 299) dL_areSizes_298 rfl rfl (Or.inl l9_43) rfl ?_
      refine g_bipush (t := 301) dL_areSizes_299 c_bipush_17 rfl ?_
      refine gm_iald_x (a := 43) (n := 24) (t := 302) l6_43 l9_43 s_43 dL_areSizes_301 rfl (by omega) (by decide) rfl ?_
      rw [hJ.2.2.2, o3]
      refine g_iconst (t := 303) dL_areSizes_302 c_iconst_0 rfl ?_
      refine g_cVi (o := 0) (t := 306) mX6_line k_L_99 imX6_line seX6_line l6_0 l9_0 s_0 rfl dL_areSizes_303 (x6_line hJ.1) rfl rfl (by decide) (by decide) (Nat.le_of_ble_eq_true rfl) rfl hle (fun v303 J303 q303 => ?_)
      obtain ⟨zq1, zq2, zq3⟩ := q303
      have e303 := ln_c h16 zq3
      have zJ1 := hJ.cl zq1 zq2
      refine g_sipush (t := 309) dL_areSizes_306 c_sipush_m1001 rfl ?_
      refine g_icmp_ne (t1 := 341) (t2 := 312) dL_areSizes_309 (by decide) rfl (fun h309 => ?_) (fun h309 => ?_)
      · exact absurd e303 h309
      · refine g_aload_n (i := 0) (r := 0) (t := 313) dL_areSizes_312 rfl rfl (Or.inl l9_0) rfl ?_
        refine g_iconst (t := 314) dL_areSizes_313 c_iconst_m1 rfl ?_
        refine g_iconst (t := 315) dL_areSizes_314 c_iconst_0 rfl ?_
        refine g_cVi (o := 0) (t := 318) mX6_line k_L_99 imX6_line seX6_line l6_0 l9_0 s_0 rfl dL_areSizes_315 (x6_line zJ1.1) rfl rfl (by decide) (by decide) (Nat.le_of_ble_eq_true rfl) rfl hle (fun v315 J315 q315 => ?_)
        obtain ⟨zq4, zq5, zq6⟩ := q315
        have e315 := ln_m h16 zq6
        have zJ2 := zJ1.cl zq4 zq5
        refine g_sipush (t := 321) dL_areSizes_318 c_sipush_m1002 rfl ?_
        refine g_icmp_ne (t1 := 341) (t2 := 324) dL_areSizes_321 (by decide) rfl (fun h321 => ?_) (fun h321 => ?_)
        · exact absurd e315 h321
        · refine g_aload_n (i := 0) (r := 0) (t := 325) dL_areSizes_324 rfl rfl (Or.inl l9_0) rfl ?_
          refine g_iconst (t := 326) dL_areSizes_325 c_iconst_0 rfl ?_
          refine g_bipush (t := 328) dL_areSizes_326 c_bipush_8 rfl ?_
          refine g_cVi (o := 0) (t := 331) mX6_line k_L_99 imX6_line seX6_line l6_0 l9_0 s_0 rfl dL_areSizes_328 (x6_line zJ2.1) rfl rfl (by decide) (by decide) (Nat.le_of_ble_eq_true rfl) rfl hle (fun v328 J328 q328 => ?_)
          obtain ⟨zq7, zq8, zq9⟩ := q328
          have e328 := ln_8 zq9
          have zJ3 := zJ2.cl zq7 zq8
          refine g_sipush (t := 334) dL_areSizes_331 c_sipush_m1002 rfl ?_
          refine g_icmp_ne (t1 := 341) (t2 := 337) dL_areSizes_334 (by decide) rfl (fun h334 => ?_) (fun h334 => ?_)
          · exact absurd e328 h334
          · refine g_iconst (t := 338) dL_areSizes_337 c_iconst_1 rfl ?_
            refine g_goto (t := 342) dL_areSizes_338 (by decide) ?_
            refine gm_pad (5 - nln (sQ S.1) (sC S.1)) (by omega) ?_
            exact g_retNi (P := fun r I' h' => r = some (.int (nI 1)) ∧ rX I' S ∧ I' 41 = I 41 ∧ I' 42 = I 42 ∧ I' 43 = I 43) dL_areSizes_342 rfl (by decide +kernel) hpad ⟨rfl, zJ3⟩
    · exfalso; omega
  | succ d ih =>
    intro l J hl v6 v7 v8 v9 hll hgn hlen hzX hJ
    obtain ⟨l6_z, l9_z, s_z, hz4⟩ := id hzX
    have hz44 : z < 44 + hl.2.length := by
      have : z + hl.1 < 44 + hl.2.length + hl.1 := l6_z
      omega
    have T28 : ∀ (J2 : Nat → Nat → Int32), gn ((hl.1, hl.2 ++ [16]) : gX) = gn hl + 1 → gSame [z, 44 + hl.2.length] J J2 → shP J2 z S l → arG E h (hl.1, hl.2 ++ [16]) 28 [.ref 0, .ref 41, .ref 42, .ref 43, .ref z, .int (nI l), v6, v7, v8, v9] [] I J2 S := by
      intro J2 hn2 hs2 hP2
      have hzX2 : zX (hl.1, hl.2 ++ [16]) z := ⟨by rw [hn2]; show z + hl.1 < gn hl + 1; omega, l9_z, by rw [gsh_app hz44]; exact s_z, hz4⟩
      have hlen2 : ((hl.1, hl.2 ++ [16]) : gX).2.length = h.2.length + 1 + (l + 1) := by
        show (hl.2 ++ [16]).length = _
        rw [List.length_append, List.length_singleton]
        omega
      have hgn2 : gn ((hl.1, hl.2 ++ [16]) : gX) = gn h + 1 + (l + 1) := by omega
      have hJ2 : lJ I J2 S := ⟨hJ.1.upLs hs2 (fun c hc => by simp; omega), (hs2 41 (by simp; omega)).trans hJ.2.1, (hs2 42 (by simp; omega)).trans hJ.2.2.1, (hs2 43 (by simp; omega)).trans hJ.2.2.2⟩
      have hle2 : gn ((hl.1, hl.2 ++ [16]) : gX) ≤ gn h + 6 := by omega
      have H := siz_in (E := E) (h := h) (hl := (hl.1, hl.2 ++ [16])) (v4 := .null) hA hO hzX2 hle2 (fun J3 v9 hJ3 hP3 => siz_ln hA hzX2 hle2 (show l < nln (sQ S.1) (sC S.1) by omega) (fun J4 v6 v7 v8 v9 hJ4 => ih (l + 1) J4 (hl.1, hl.2 ++ [16]) v6 v7 v8 v9 (by omega) hgn2 hlen2 hzX2 hJ4) hJ3 hP3) (show l < 16 by omega) (sC S.1) 0 J2 (Nat.zero_add _) hJ2 hP2
      rw [mA_0] at H
      refine g_iconst (t := 29) dL_areSizes_28 c_iconst_0 rfl ?_
      refine g_istore (i := 6) (t := 31) (L1 := [_, _, _, _, _, _, _, _, _, _]) dL_areSizes_29 (by decide) rfl rfl rfl ?_
      refine g_iconst (t := 32) dL_areSizes_31 c_iconst_m1 rfl ?_
      refine g_istore (i := 7) (t := 34) (L1 := [_, _, _, _, _, _, _, _, _, _]) dL_areSizes_32 (by decide) rfl rfl rfl ?_
      refine g_iconst (t := 35) dL_areSizes_34 c_iconst_0 rfl ?_
      refine g_istore (i := 8) (t := 37) (L1 := [_, _, _, _, _, _, _, _, _, _]) dL_areSizes_35 (by decide) rfl rfl rfl ?_
      refine g_iconst (t := 38) dL_areSizes_37 c_iconst_0 rfl ?_
      refine g_istore (i := 9) (t := 40) (L1 := [_, _, _, _, _, _, _, _, _, _]) dL_areSizes_38 (by decide) rfl rfl rfl ?_
      exact H
    refine g_iload (i := 5) (t := 11) dL_areSizes_9 rfl rfl ?_
    refine g_aload_n (i := 3) (r := 43) (t := 12) dL_areSizes_11 rfl rfl (Or.inl l9_43) rfl ?_
    refine g_bipush (t := 14) dL_areSizes_12 c_bipush_17 rfl ?_
    refine gm_iald_x (a := 43) (n := 24) (t := 15) l6_43 l9_43 s_43 dL_areSizes_14 rfl (by omega) (by decide) rfl ?_
    rw [hJ.2.2.2, o3]
    refine g_icmp_ge_n (t1 := 297) (t2 := 18) dL_areSizes_15 (by decide) rfl (by omega) (by omega) (fun h15 => ?_) (fun h15 => ?_)
    · exfalso; omega
    · refine g_aload_n (i := 1) (r := 41) (t := 19) dL_areSizes_18 rfl rfl (Or.inl l9_41) rfl ?_
      refine g_aload_n (i := 2) (r := 42) (t := 20) dL_areSizes_19 rfl rfl (Or.inl l9_42) rfl ?_
      refine g_aload_n (i := 3) (r := 43) (t := 21) dL_areSizes_20 rfl rfl (Or.inl l9_43) rfl ?_
      refine g_aload (i := 4) (r := z) (t := 23) dL_areSizes_21 rfl (Or.inl l9_z) rfl ?_
      refine g_iload (i := 5) (t := 25) dL_areSizes_23 rfl rfl ?_
      refine g_cSn (t := 28) mL_shares k_L_95 smL_shares dL_areSizes_25 (l_shares l6_z l9_z s_z hz4 (by omega) (hJ.law hA) hV.1 (hO.keep hJ.2.2.2) (by omega)) rfl rfl (by decide) (by decide) (Nat.le_of_ble_eq_true rfl) rfl (show gn hl + 1 ≤ gn h + 6 by omega) (fun r25 J25 h25 n25 q25 => ?_)
      obtain ⟨rfl, rfl, zq1, zq2⟩ := q25
      exact T28 J25 n25 zq1 zq2
theorem l_areSizes (hX : rX I S) (hA : aX I S) (hO : orX I S) (hV : vT S) (h900 : 44 + h.2.length < 900) : gNV E fL_areSizes 6 [.ref 0, .ref 41, .ref 42, .ref 43] I h (fun r I' h' => r = some (.int (nI 1)) ∧ rX I' S ∧ I' 41 = I 41 ∧ I' 42 = I 42 ∧ I' 43 = I 43) := by
  refine gEv.of rfl (Nat.le_add_right _ _) (Nat.le_of_ble_eq_true rfl) (L := [.ref 0, .ref 41, .ref 42, .ref 43, .null, .null, .null, .null, .null, .null]) rfl ?_
  have hn1 : gn ((h.1, h.2 ++ [48]) : gX) = gn h + 1 := by
    show 44 + (h.2 ++ [48]).length + h.1 = 44 + h.2.length + h.1 + 1
    rw [List.length_append, List.length_singleton]
    omega
  obtain ⟨z, hz⟩ : ∃ z, 44 + h.2.length = z := ⟨_, rfl⟩
  have hzX : zX (h.1, h.2 ++ [48]) z := by
    refine ⟨?_, by omega, by rw [← hz]; exact gsh_new, by omega⟩
    rw [hn1, ← hz]
    show 44 + h.2.length + h.1 < 44 + h.2.length + h.1 + 1
    omega
  have hlen1 : ((h.1, h.2 ++ [48]) : gX).2.length = h.2.length + 1 + 0 := by
    show (h.2 ++ [48]).length = _
    rw [List.length_append, List.length_singleton]
  have hs1 : gSame [z] I (fun q k => if q = z then (0 : Int32) else I q k) := fun c hc => by
    funext k
    show (if c = z then (0 : Int32) else I c k) = I c k
    rw [if_neg (by simpa using hc)]
  have hJ1 : lJ I (fun q k => if q = z then (0 : Int32) else I q k) S := ⟨hX.upLs hs1 (fun c hc => by simp; omega), hs1 41 (by simp; omega), hs1 42 (by simp; omega), hs1 43 (by simp; omega)⟩
  have T4 : arG E h (h.1, h.2 ++ [48]) 4 [.ref 0, .ref 41, .ref 42, .ref 43, .null, .null, .null, .null, .null, .null] [.ref z] I (fun q k => if q = z then (0 : Int32) else I q k) S := by
    obtain ⟨l6_z, l9_z, s_z, hz4⟩ := id hzX
    refine g_astore (i := 4) (t := 6) (L1 := [_, _, _, _, _, _, _, _, _, _]) dL_areSizes_4 l9_z (by decide) rfl rfl rfl ?_
    refine g_iconst (t := 7) dL_areSizes_6 c_iconst_0 rfl ?_
    refine g_istore (i := 5) (t := 9) (L1 := [_, _, _, _, _, _, _, _, _, _]) dL_areSizes_7 (by decide) rfl rfl rfl ?_
    exact siz_out hA hO hV h900 (nln (sQ S.1) (sC S.1)) 0 _ _ _ _ _ _ (Nat.zero_add _) hn1 hlen1 hzX hJ1
  refine g_bipush (t := 2) dL_areSizes_0 c_bipush_48 rfl ?_
  exact gm_newz (o := z) (t := 4) hz (by omega) rfl (by decide) (Nat.add_le_add_left (by decide) _) dL_areSizes_2 rfl T4
end SIZB

