/-! one pass: what is free, the weights -/
theorem ovS_c {q : lZ} (hq : ∀ p t, q.1 p = some t → t ≤ 16) (p : Nat) : (q.1 p = none ∧ ovS (q.1 p) = -1) ∨ (¬ q.1 p = none ∧ ∃ t, t ≤ 16 ∧ ovS (q.1 p) = nI t) := by
  cases e : q.1 p with
  | none => exact Or.inl ⟨rfl, rfl⟩
  | some t => exact Or.inr ⟨by simp, t, hq p t e, rfl⟩
theorem neg1_ge : ¬ (0 : Int32) ≤ -1 := by decide
theorem neg1_lt : (-1 : Int32) < 0 := by decide
theorem nI_ge0 {t : Nat} (h : t < 2 ^ 31) : (0 : Int32) ≤ nI t := Int32.not_lt.mp (nI_pos h)
section SHR3
variable {E : gE} {I : Nat → Nat → Int32} {h : gX} {S : sT} {K : gK} {nE z w l : Nat} {u5 u6 u7 u9 u10 u11 u12 u13 u14 u15 u16 u17 u18 u19 u20 u21 u22 u23 : Value}
theorem sh_f {g : Bool} {p12 : Int32} {q : lZ} {J : Nat → Nat → Int32} (hzw : zwX h z w) (hg : grL (sA S l) = g) (hB : shB J S l w) (hq : ∀ p t, q.1 p = some t → t ≤ 16) (hZ : zS J z S l q (sA S l).2.2) (kk : ∀ u16 : Value, Wp E fL_shares nE 383 [.ref 41, .ref 42, .ref 43, .ref z, .int (nI l), .int (nI (sA S l).2.2), u6, u7, .ref w, u9, .int (bI g), u11, .int p12, .int (feL (sA S l) q), .int (ttL (sA S l) q), .int (nI (sA S l).2.2), u16, u17, u18, u19, u20, u21, u22, u23] [] (gM J h) K) : ∀ (d i : Nat) (u16 : Value), i + d = (sA S l).2.2 → Wp E fL_shares nE 281 [.ref 41, .ref 42, .ref 43, .ref z, .int (nI l), .int (nI (sA S l).2.2), u6, u7, .ref w, u9, .int (bI g), u11, .int p12, .int (sbS (rmL (sA S l)) (fun p => if q.1 p = none then (sA S l).1.1 ((sA S l).1.2.2.2 p) 0 else q.2 p) (sA S l).2.1 i), .int (smS (wgL (sA S l) q) (sA S l).2.1 i), .int (nI i), u16, u17, u18, u19, u20, u21, u22, u23] [] (gM J h) K := by
  obtain ⟨⟨l6_z, l9_z, s_z⟩, ⟨l6_w, l9_w, s_w⟩, hne, hz4, hw4⟩ := id hzw
  obtain ⟨b1, b2, b3, b4⟩ := id hB
  have hsl := sA_le S l
  have hc5 : sC S.1 ≤ S.1.1 := ordS_le S.1.2.1 S.1.1
  intro d
  induction d with
  | zero =>
    intro i u16 hi
    have hi : i = (sA S l).2.2 := by omega
    subst hi
    refine g_iload (i := 15) (t := 283) dL_shares_281 rfl rfl ?_
    refine g_iload (i := 5) (t := 285) dL_shares_283 rfl rfl ?_
    refine g_icmp_ge_n (t1 := 383) (t2 := 288) dL_shares_285 (by decide) rfl (by omega) (by omega) (fun h285 => ?_) (fun h285 => ?_)
    · exact kk _
    · exfalso; omega
  | succ d ih =>
    intro i u16 hi
    have hf : fA S l i < S.1.1 := fA_lt (show i < (sA S l).2.2 by omega)
    have e0 : J 41 (12 * fA S l i) = S.1.2.1 (fA S l i) 0 := b2 _ 0 hf (by decide)
    have e1 := b2 _ 1 hf (by decide)
    have e2 := b2 _ 2 hf (by decide)
    obtain ⟨z1, z2⟩ := hZ i (by omega)
    have ih := ih (i + 1) (.int (nI (fA S l i))) (by omega)
    rw [sbS, smS] at ih
    have ewg : wgL (sA S l) q ((sA S l).2.1 + i) = if q.1 ((sA S l).2.1 + i) = none then wgt S.1.2.1 g (fA S l i) else nI 0 := by
      unfold wgL
      rw [hg]
      rfl
    rw [ewg] at ih
    rcases ovS_c hq ((sA S l).2.1 + i) with ⟨o1, o2⟩ | ⟨o1, t, o2, o3⟩
    · rw [if_pos o1, if_pos o1] at ih
      rw [o2] at z2
      cases g with
      | true =>
        refine g_iload (i := 15) (t := 283) dL_shares_281 rfl rfl ?_
        refine g_iload (i := 5) (t := 285) dL_shares_283 rfl rfl ?_
        refine g_icmp_ge_n (t1 := 383) (t2 := 288) dL_shares_285 (by decide) rfl (by omega) (by omega) (fun h285 => ?_) (fun h285 => ?_)
        · exfalso; omega
        · refine g_aload (i := 8) (r := w) (t := 290) dL_shares_288 rfl (Or.inl l9_w) rfl ?_
          refine g_iload (i := 15) (t := 292) dL_shares_290 rfl rfl ?_
          refine gm_iald_x (a := w) (n := 16) (t := 293) l6_w l9_w s_w dL_shares_292 rfl (by omega) (by decide) rfl ?_
          rw [b4 i (by omega)]
          refine g_istore (i := 16) (t := 295) (L1 := [_, _, _, _, _, _, _, _, _, _, _, _, _, _, _, _, _, _, _, _, _, _, _, _]) dL_shares_293 (by decide) rfl rfl rfl ?_
          refine g_iload (i := 13) (t := 297) dL_shares_295 rfl rfl ?_
          refine g_aload_n (i := 3) (r := z) (t := 298) dL_shares_297 rfl rfl (Or.inl l9_z) rfl ?_
          refine g_bipush (t := 300) dL_shares_298 c_bipush_8 rfl ?_
          refine g_iload (i := 16) (t := 302) dL_shares_300 rfl rfl ?_
          refine g_iadd (t := 303) dL_shares_302 rfl ?_
          refine gm_iald_x (a := z) (n := 48) (t := 304) l6_z l9_z s_z dL_shares_303 (ix_a _ _) (by omega) (by decide) rfl ?_
          rw [z2]
          refine g_if_ge (t1 := 317) (t2 := 307) dL_shares_304 (by decide) rfl (fun h304 => ?_) (fun h304 => ?_)
          · exact absurd h304 neg1_ge
          · refine g_aload_n (i := 0) (r := 41) (t := 308) dL_shares_307 rfl rfl (Or.inl l9_41) rfl ?_
            refine g_bipush (t := 310) dL_shares_308 c_bipush_12 rfl ?_
            refine g_iload (i := 16) (t := 312) dL_shares_310 rfl rfl ?_
            refine g_imul (t := 313) dL_shares_312 rfl ?_
            refine gm_iald_x (a := 41) (n := 64) (t := 314) l6_41 l9_41 s_41 dL_shares_313 (ix_m _ _) (by omega) (by decide) rfl ?_
            rw [e0]
            refine g_goto (t := 321) dL_shares_314 (by decide) ?_
            refine g_isub (t := 322) dL_shares_321 rfl ?_
            refine g_istore (i := 13) (t := 324) (L1 := [_, _, _, _, _, _, _, _, _, _, _, _, _, _, _, _, _, _, _, _, _, _, _, _]) dL_shares_322 (by decide) rfl rfl rfl ?_
            refine g_iload (i := 14) (t := 326) dL_shares_324 rfl rfl ?_
            refine g_aload_n (i := 3) (r := z) (t := 327) dL_shares_326 rfl rfl (Or.inl l9_z) rfl ?_
            refine g_bipush (t := 329) dL_shares_327 c_bipush_8 rfl ?_
            refine g_iload (i := 16) (t := 331) dL_shares_329 rfl rfl ?_
            refine g_iadd (t := 332) dL_shares_331 rfl ?_
            refine gm_iald_x (a := z) (n := 48) (t := 333) l6_z l9_z s_z dL_shares_332 (ix_a _ _) (by omega) (by decide) rfl ?_
            rw [z2]
            refine g_if_lt (t1 := 340) (t2 := 336) dL_shares_333 (by decide) rfl (fun h333 => ?_) (fun h333 => ?_)
            · refine g_iload (i := 10) (t := 342) dL_shares_340 rfl rfl ?_
              refine g_if_eq (t1 := 357) (t2 := 345) dL_shares_342 (by decide) rfl (fun h342 => ?_) (fun h342 => ?_)
              · exact absurd h342 (by decide)
              · refine g_aload_n (i := 0) (r := 41) (t := 346) dL_shares_345 rfl rfl (Or.inl l9_41) rfl ?_
                refine g_bipush (t := 348) dL_shares_346 c_bipush_12 rfl ?_
                refine g_iload (i := 16) (t := 350) dL_shares_348 rfl rfl ?_
                refine g_imul (t := 351) dL_shares_350 rfl ?_
                refine g_iconst (t := 352) dL_shares_351 c_iconst_1 rfl ?_
                refine g_iadd (t := 353) dL_shares_352 rfl ?_
                refine gm_iald_x (a := 41) (n := 64) (t := 354) l6_41 l9_41 s_41 dL_shares_353 (ix_ma _ _ _) (by omega) (by decide) rfl ?_
                rw [e1]
                refine g_goto (t := 374) dL_shares_354 (by decide) ?_
                refine g_iadd (t := 375) dL_shares_374 rfl ?_
                refine g_istore (i := 14) (t := 377) (L1 := [_, _, _, _, _, _, _, _, _, _, _, _, _, _, _, _, _, _, _, _, _, _, _, _]) dL_shares_375 (by decide) rfl rfl rfl ?_
                refine g_iinc (i := 15) (t := 380) (L1 := [_, _, _, _, _, _, _, _, _, _, _, _, _, _, _, _, _, _, _, _, _, _, _, _]) dL_shares_377 rfl (gi_1 _) (by decide) rfl rfl rfl ?_
                refine g_goto (t := 281) dL_shares_380 (by decide) ?_
                exact ih
            · exact absurd neg1_lt h333
      | false =>
        refine g_iload (i := 15) (t := 283) dL_shares_281 rfl rfl ?_
        refine g_iload (i := 5) (t := 285) dL_shares_283 rfl rfl ?_
        refine g_icmp_ge_n (t1 := 383) (t2 := 288) dL_shares_285 (by decide) rfl (by omega) (by omega) (fun h285 => ?_) (fun h285 => ?_)
        · exfalso; omega
        · refine g_aload (i := 8) (r := w) (t := 290) dL_shares_288 rfl (Or.inl l9_w) rfl ?_
          refine g_iload (i := 15) (t := 292) dL_shares_290 rfl rfl ?_
          refine gm_iald_x (a := w) (n := 16) (t := 293) l6_w l9_w s_w dL_shares_292 rfl (by omega) (by decide) rfl ?_
          rw [b4 i (by omega)]
          refine g_istore (i := 16) (t := 295) (L1 := [_, _, _, _, _, _, _, _, _, _, _, _, _, _, _, _, _, _, _, _, _, _, _, _]) dL_shares_293 (by decide) rfl rfl rfl ?_
          refine g_iload (i := 13) (t := 297) dL_shares_295 rfl rfl ?_
          refine g_aload_n (i := 3) (r := z) (t := 298) dL_shares_297 rfl rfl (Or.inl l9_z) rfl ?_
          refine g_bipush (t := 300) dL_shares_298 c_bipush_8 rfl ?_
          refine g_iload (i := 16) (t := 302) dL_shares_300 rfl rfl ?_
          refine g_iadd (t := 303) dL_shares_302 rfl ?_
          refine gm_iald_x (a := z) (n := 48) (t := 304) l6_z l9_z s_z dL_shares_303 (ix_a _ _) (by omega) (by decide) rfl ?_
          rw [z2]
          refine g_if_ge (t1 := 317) (t2 := 307) dL_shares_304 (by decide) rfl (fun h304 => ?_) (fun h304 => ?_)
          · exact absurd h304 neg1_ge
          · refine g_aload_n (i := 0) (r := 41) (t := 308) dL_shares_307 rfl rfl (Or.inl l9_41) rfl ?_
            refine g_bipush (t := 310) dL_shares_308 c_bipush_12 rfl ?_
            refine g_iload (i := 16) (t := 312) dL_shares_310 rfl rfl ?_
            refine g_imul (t := 313) dL_shares_312 rfl ?_
            refine gm_iald_x (a := 41) (n := 64) (t := 314) l6_41 l9_41 s_41 dL_shares_313 (ix_m _ _) (by omega) (by decide) rfl ?_
            rw [e0]
            refine g_goto (t := 321) dL_shares_314 (by decide) ?_
            refine g_isub (t := 322) dL_shares_321 rfl ?_
            refine g_istore (i := 13) (t := 324) (L1 := [_, _, _, _, _, _, _, _, _, _, _, _, _, _, _, _, _, _, _, _, _, _, _, _]) dL_shares_322 (by decide) rfl rfl rfl ?_
            refine g_iload (i := 14) (t := 326) dL_shares_324 rfl rfl ?_
            refine g_aload_n (i := 3) (r := z) (t := 327) dL_shares_326 rfl rfl (Or.inl l9_z) rfl ?_
            refine g_bipush (t := 329) dL_shares_327 c_bipush_8 rfl ?_
            refine g_iload (i := 16) (t := 331) dL_shares_329 rfl rfl ?_
            refine g_iadd (t := 332) dL_shares_331 rfl ?_
            refine gm_iald_x (a := z) (n := 48) (t := 333) l6_z l9_z s_z dL_shares_332 (ix_a _ _) (by omega) (by decide) rfl ?_
            rw [z2]
            refine g_if_lt (t1 := 340) (t2 := 336) dL_shares_333 (by decide) rfl (fun h333 => ?_) (fun h333 => ?_)
            · refine g_iload (i := 10) (t := 342) dL_shares_340 rfl rfl ?_
              refine g_if_eq (t1 := 357) (t2 := 345) dL_shares_342 (by decide) rfl (fun h342 => ?_) (fun h342 => ?_)
              · refine g_aload_n (i := 0) (r := 41) (t := 358) dL_shares_357 rfl rfl (Or.inl l9_41) rfl ?_
                refine g_bipush (t := 360) dL_shares_358 c_bipush_12 rfl ?_
                refine g_iload (i := 16) (t := 362) dL_shares_360 rfl rfl ?_
                refine g_imul (t := 363) dL_shares_362 rfl ?_
                refine g_iconst (t := 364) dL_shares_363 c_iconst_2 rfl ?_
                refine g_iadd (t := 365) dL_shares_364 rfl ?_
                refine gm_iald_x (a := 41) (n := 64) (t := 366) l6_41 l9_41 s_41 dL_shares_365 (ix_ma _ _ _) (by omega) (by decide) rfl ?_
                rw [e2]
                refine g_aload_n (i := 0) (r := 41) (t := 367) dL_shares_366 rfl rfl (Or.inl l9_41) rfl ?_
                refine g_bipush (t := 369) dL_shares_367 c_bipush_12 rfl ?_
                refine g_iload (i := 16) (t := 371) dL_shares_369 rfl rfl ?_
                refine g_imul (t := 372) dL_shares_371 rfl ?_
                refine gm_iald_x (a := 41) (n := 64) (t := 373) l6_41 l9_41 s_41 dL_shares_372 (ix_m _ _) (by omega) (by decide) rfl ?_
                rw [e0]
                refine g_imul (t := 374) dL_shares_373 rfl ?_
                refine g_iadd (t := 375) dL_shares_374 rfl ?_
                refine g_istore (i := 14) (t := 377) (L1 := [_, _, _, _, _, _, _, _, _, _, _, _, _, _, _, _, _, _, _, _, _, _, _, _]) dL_shares_375 (by decide) rfl rfl rfl ?_
                refine g_iinc (i := 15) (t := 380) (L1 := [_, _, _, _, _, _, _, _, _, _, _, _, _, _, _, _, _, _, _, _, _, _, _, _]) dL_shares_377 rfl (gi_1 _) (by decide) rfl rfl rfl ?_
                refine g_goto (t := 281) dL_shares_380 (by decide) ?_
                exact ih
              · exact absurd rfl h342
            · exact absurd neg1_lt h333
    · rw [if_neg o1, if_neg o1] at ih
      rw [o3] at z2
      refine g_iload (i := 15) (t := 283) dL_shares_281 rfl rfl ?_
      refine g_iload (i := 5) (t := 285) dL_shares_283 rfl rfl ?_
      refine g_icmp_ge_n (t1 := 383) (t2 := 288) dL_shares_285 (by decide) rfl (by omega) (by omega) (fun h285 => ?_) (fun h285 => ?_)
      · exfalso; omega
      · refine g_aload (i := 8) (r := w) (t := 290) dL_shares_288 rfl (Or.inl l9_w) rfl ?_
        refine g_iload (i := 15) (t := 292) dL_shares_290 rfl rfl ?_
        refine gm_iald_x (a := w) (n := 16) (t := 293) l6_w l9_w s_w dL_shares_292 rfl (by omega) (by decide) rfl ?_
        rw [b4 i (by omega)]
        refine g_istore (i := 16) (t := 295) (L1 := [_, _, _, _, _, _, _, _, _, _, _, _, _, _, _, _, _, _, _, _, _, _, _, _]) dL_shares_293 (by decide) rfl rfl rfl ?_
        refine g_iload (i := 13) (t := 297) dL_shares_295 rfl rfl ?_
        refine g_aload_n (i := 3) (r := z) (t := 298) dL_shares_297 rfl rfl (Or.inl l9_z) rfl ?_
        refine g_bipush (t := 300) dL_shares_298 c_bipush_8 rfl ?_
        refine g_iload (i := 16) (t := 302) dL_shares_300 rfl rfl ?_
        refine g_iadd (t := 303) dL_shares_302 rfl ?_
        refine gm_iald_x (a := z) (n := 48) (t := 304) l6_z l9_z s_z dL_shares_303 (ix_a _ _) (by omega) (by decide) rfl ?_
        rw [z2]
        refine g_if_ge (t1 := 317) (t2 := 307) dL_shares_304 (by decide) rfl (fun h304 => ?_) (fun h304 => ?_)
        · refine g_aload_n (i := 3) (r := z) (t := 318) dL_shares_317 rfl rfl (Or.inl l9_z) rfl ?_
          refine g_iload (i := 16) (t := 320) dL_shares_318 rfl rfl ?_
          refine gm_iald_x (a := z) (n := 48) (t := 321) l6_z l9_z s_z dL_shares_320 rfl (by omega) (by decide) rfl ?_
          rw [z1]
          refine g_isub (t := 322) dL_shares_321 rfl ?_
          refine g_istore (i := 13) (t := 324) (L1 := [_, _, _, _, _, _, _, _, _, _, _, _, _, _, _, _, _, _, _, _, _, _, _, _]) dL_shares_322 (by decide) rfl rfl rfl ?_
          refine g_iload (i := 14) (t := 326) dL_shares_324 rfl rfl ?_
          refine g_aload_n (i := 3) (r := z) (t := 327) dL_shares_326 rfl rfl (Or.inl l9_z) rfl ?_
          refine g_bipush (t := 329) dL_shares_327 c_bipush_8 rfl ?_
          refine g_iload (i := 16) (t := 331) dL_shares_329 rfl rfl ?_
          refine g_iadd (t := 332) dL_shares_331 rfl ?_
          refine gm_iald_x (a := z) (n := 48) (t := 333) l6_z l9_z s_z dL_shares_332 (ix_a _ _) (by omega) (by decide) rfl ?_
          rw [z2]
          refine g_if_lt (t1 := 340) (t2 := 336) dL_shares_333 (by decide) rfl (fun h333 => ?_) (fun h333 => ?_)
          · exact absurd h333 (nI_pos (by omega))
          · refine g_iconst (t := 337) dL_shares_336 c_iconst_0 rfl ?_
            refine g_goto (t := 374) dL_shares_337 (by decide) ?_
            refine g_iadd (t := 375) dL_shares_374 rfl ?_
            refine g_istore (i := 14) (t := 377) (L1 := [_, _, _, _, _, _, _, _, _, _, _, _, _, _, _, _, _, _, _, _, _, _, _, _]) dL_shares_375 (by decide) rfl rfl rfl ?_
            refine g_iinc (i := 15) (t := 380) (L1 := [_, _, _, _, _, _, _, _, _, _, _, _, _, _, _, _, _, _, _, _, _, _, _, _]) dL_shares_377 rfl (gi_1 _) (by decide) rfl rfl rfl ?_
            refine g_goto (t := 281) dL_shares_380 (by decide) ?_
            exact ih
        · exact absurd (nI_ge0 (by omega)) h304
theorem sh_given {g : Bool} {p14 : Int32} {q : lZ} {J : Nat → Nat → Int32} (hg : grL (sA S l) = g) (kk : Wp E fL_shares nE 411 [.ref 41, .ref 42, .ref 43, .ref z, .int (nI l), u5, u6, u7, .ref w, u9, .int (bI g), u11, u12, .int (feL (sA S l) q), .int p14, .int (shL (sA S l) q), u16, u17, u18, u19, u20, u21, u22, u23] [] (gM J h) K) : Wp E fL_shares nE 383 [.ref 41, .ref 42, .ref 43, .ref z, .int (nI l), u5, u6, u7, .ref w, u9, .int (bI g), u11, u12, .int (feL (sA S l) q), .int p14, u15, u16, u17, u18, u19, u20, u21, u22, u23] [] (gM J h) K := by
  have es : shL (sA S l) q = mx (if g then feL (sA S l) q else -feL (sA S l) q) (nI 0) := by rw [← hg]; rfl
  rw [es] at kk
  unfold mx at kk
  have e0 : nI 0 = 0 := nI_0
  cases g with
  | true =>
    rw [if_pos rfl] at kk
    refine g_iload (i := 10) (t := 385) dL_shares_383 rfl rfl ?_
    refine g_if_eq (t1 := 393) (t2 := 388) dL_shares_385 (by decide) rfl (fun h385 => ?_) (fun h385 => ?_)
    · exact absurd h385 (by decide)
    · refine g_iload (i := 13) (t := 390) dL_shares_388 rfl rfl ?_
      refine g_goto (t := 396) dL_shares_390 (by decide) ?_
      refine g_istore (i := 15) (t := 398) (L1 := [_, _, _, _, _, _, _, _, _, _, _, _, _, _, _, _, _, _, _, _, _, _, _, _]) dL_shares_396 (by decide) rfl rfl rfl ?_
      refine g_iload (i := 15) (t := 400) dL_shares_398 rfl rfl ?_
      refine g_if_ge (t1 := 407) (t2 := 403) dL_shares_400 (by decide) rfl (fun h400 => ?_) (fun h400 => ?_)
      · refine g_iload (i := 15) (t := 409) dL_shares_407 rfl rfl ?_
        refine g_istore (i := 15) (t := 411) (L1 := [_, _, _, _, _, _, _, _, _, _, _, _, _, _, _, _, _, _, _, _, _, _, _, _]) dL_shares_409 (by decide) rfl rfl rfl ?_
        first
        | (rw [if_neg (by rw [e0]; exact Int32.not_lt.mpr h400)] at kk
           exact kk)
        | (rw [if_pos (by rw [e0]; exact Int32.not_le.mp h400)] at kk
           exact kk)
        | done
      · refine g_iconst (t := 404) dL_shares_403 c_iconst_0 rfl ?_
        refine g_goto (t := 409) dL_shares_404 (by decide) ?_
        refine g_istore (i := 15) (t := 411) (L1 := [_, _, _, _, _, _, _, _, _, _, _, _, _, _, _, _, _, _, _, _, _, _, _, _]) dL_shares_409 (by decide) rfl rfl rfl ?_
        first
        | (rw [if_neg (by rw [e0]; exact Int32.not_lt.mpr h400)] at kk
           exact kk)
        | (rw [if_pos (by rw [e0]; exact Int32.not_le.mp h400)] at kk
           exact kk)
        | done
  | false =>
    rw [if_neg (show ¬ false = true by decide)] at kk
    refine g_iload (i := 10) (t := 385) dL_shares_383 rfl rfl ?_
    refine g_if_eq (t1 := 393) (t2 := 388) dL_shares_385 (by decide) rfl (fun h385 => ?_) (fun h385 => ?_)
    · refine g_iload (i := 13) (t := 395) dL_shares_393 rfl rfl ?_
      refine g_ineg (t := 396) dL_shares_395 rfl ?_
      refine g_istore (i := 15) (t := 398) (L1 := [_, _, _, _, _, _, _, _, _, _, _, _, _, _, _, _, _, _, _, _, _, _, _, _]) dL_shares_396 (by decide) rfl rfl rfl ?_
      refine g_iload (i := 15) (t := 400) dL_shares_398 rfl rfl ?_
      refine g_if_ge (t1 := 407) (t2 := 403) dL_shares_400 (by decide) rfl (fun h400 => ?_) (fun h400 => ?_)
      · refine g_iload (i := 15) (t := 409) dL_shares_407 rfl rfl ?_
        refine g_istore (i := 15) (t := 411) (L1 := [_, _, _, _, _, _, _, _, _, _, _, _, _, _, _, _, _, _, _, _, _, _, _, _]) dL_shares_409 (by decide) rfl rfl rfl ?_
        first
        | (rw [if_neg (by rw [e0]; exact Int32.not_lt.mpr h400)] at kk
           exact kk)
        | (rw [if_pos (by rw [e0]; exact Int32.not_le.mp h400)] at kk
           exact kk)
        | done
      · refine g_iconst (t := 404) dL_shares_403 c_iconst_0 rfl ?_
        refine g_goto (t := 409) dL_shares_404 (by decide) ?_
        refine g_istore (i := 15) (t := 411) (L1 := [_, _, _, _, _, _, _, _, _, _, _, _, _, _, _, _, _, _, _, _, _, _, _, _]) dL_shares_409 (by decide) rfl rfl rfl ?_
        first
        | (rw [if_neg (by rw [e0]; exact Int32.not_lt.mpr h400)] at kk
           exact kk)
        | (rw [if_pos (by rw [e0]; exact Int32.not_le.mp h400)] at kk
           exact kk)
        | done
    · exact absurd rfl h385
end SHR3

