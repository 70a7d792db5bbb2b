/-! the law's calls, one after another -/
theorem rd_empty (γ : Nat → Int32) : (rdT (0, γ)).1 = some 0 := by
  have e0 : skp (0, γ) 0 = 0 := rfl
  have eb : isD (byt (0, γ) 0) = false := by rw [byt_out (Nat.le_refl _)]; decide
  have ef : ftN (0, γ) 0 0 = some 0 := by
    have hng : ngN (0, γ) 0 0 = false := decide_eq_false (fun z => absurd z.1 (by decide))
    have hfd : fdN (0, γ) 0 0 = 0 := by
      unfold fdN
      rw [hng]
      rfl
    unfold ftN dgN
    rw [hfd, dgs_n eb, if_pos rfl]
  unfold rdT
  rw [e0, ef]
section LAW
variable {E : gE} {I : Nat → Nat → Int32} {h : gX} {S : sT} {K : gK}
def bgV (k : Nat) : Int32 := if k = 0 then nI 300 else if k = 3 then nI 1 else nI 0
theorem bg_loop {I0 : Nat → Nat → Int32} : ∀ (d k : Nat) (J : Nat → Nat → Int32), k + d = 7 → gSame [42] I0 J → (∀ w, w < k → J 42 w = bgV w) → Wp E fL_begins (gn h) 2 [.ref 42, .int (nI k)] [] (gM J h) (gRet fL_begins (gn h) (fun r σ' => ∃ I' : Nat → Nat → Int32, r = none ∧ σ' = gM I' h ∧ gSame [42] I0 I' ∧ ∀ w, w < 7 → I' 42 w = bgV w)) := by
  intro d
  induction d with
  | zero =>
    intro k J hk hs hJ
    have hk : k = 7 := by omega
    subst hk
    refine g_iload_n (i := 1) (t := 3) dL_begins_2 rfl rfl rfl ?_
    refine g_bipush (t := 5) dL_begins_3 c_bipush_7 rfl ?_
    refine g_icmp_ge_n (t1 := 37) (t2 := 8) dL_begins_5 (by decide) rfl (by omega) (by omega) (fun h5 => ?_) (fun h5 => ?_)
    · exact g_retV dL_begins_37 rfl (⟨hs, hJ⟩)
    · exfalso; omega
  | succ d ih =>
    intro k J hk hs hJ
    have T30 : ∀ v : Int32, v = bgV k → Wp E fL_begins (gn h) 30 [.ref 42, .int (nI k)] [.int v, .int (nI k), .ref 42] (gM J h) (gRet fL_begins (gn h) (fun r σ' => ∃ I' : Nat → Nat → Int32, r = none ∧ σ' = gM I' h ∧ gSame [42] I0 I' ∧ ∀ w, w < 7 → I' 42 w = bgV w)) := by
      intro v hv
      refine gm_iast_x (a := 42) (n := 8) (t := 31) l6_42 l9_42 s_42 dL_begins_30 rfl (by omega) (by decide) rfl ?_
      refine g_iinc (i := 1) (t := 34) (L1 := [_, _]) dL_begins_31 rfl (gi_1 _) (by decide) rfl rfl rfl ?_
      refine g_goto (t := 2) dL_begins_34 (by decide) ?_
      refine ih (k + 1) _ (by omega) (hs.up rfl) (fun w hw => ?_)
      rw [gup_at]
      by_cases y : w = k
      · rw [if_pos y, hv, y]
      · rw [if_neg y]; exact hJ w (by omega)
    have hz : nI k = 0 ↔ k = 0 := (show ∀ k, k < 7 → (nI k = 0 ↔ k = 0) by decide +kernel) k (by omega)
    refine g_iload_n (i := 1) (t := 3) dL_begins_2 rfl rfl rfl ?_
    refine g_bipush (t := 5) dL_begins_3 c_bipush_7 rfl ?_
    refine g_icmp_ge_n (t1 := 37) (t2 := 8) dL_begins_5 (by decide) rfl (by omega) (by omega) (fun h5 => ?_) (fun h5 => ?_)
    · exfalso; omega
    · refine g_aload_n (i := 0) (r := 42) (t := 9) dL_begins_8 rfl rfl (Or.inl l9_42) rfl ?_
      refine g_iload_n (i := 1) (t := 10) dL_begins_9 rfl rfl rfl ?_
      refine g_iload_n (i := 1) (t := 11) dL_begins_10 rfl rfl rfl ?_
      refine g_if_ne (t1 := 20) (t2 := 14) dL_begins_11 (by decide) rfl (fun h11 => ?_) (fun h11 => ?_)
      · refine g_iload_n (i := 1) (t := 21) dL_begins_20 rfl rfl rfl ?_
        refine g_iconst (t := 22) dL_begins_21 c_iconst_3 rfl ?_
        refine g_icmp_ne_n (t1 := 29) (t2 := 25) dL_begins_22 (by decide) rfl (by omega) (by omega) (fun h22 => ?_) (fun h22 => ?_)
        · refine g_iconst (t := 30) dL_begins_29 c_iconst_0 rfl ?_
          refine T30 _ ?_
          unfold bgV
          first
          | (rw [if_pos (hz.mp h11)]; done)
          | (rw [if_neg (fun z => h11 (hz.mpr z)), if_pos h22]; done)
          | rw [if_neg (fun z => h11 (hz.mpr z)), if_neg h22]
          | done
        · refine g_iconst (t := 26) dL_begins_25 c_iconst_1 rfl ?_
          refine g_goto (t := 30) dL_begins_26 (by decide) ?_
          refine T30 _ ?_
          unfold bgV
          first
          | (rw [if_pos (hz.mp h11)]; done)
          | (rw [if_neg (fun z => h11 (hz.mpr z)), if_pos h22]; done)
          | rw [if_neg (fun z => h11 (hz.mpr z)), if_neg h22]
          | done
      · refine g_sipush (t := 17) dL_begins_14 c_sipush_300 rfl ?_
        refine g_goto (t := 30) dL_begins_17 (by decide) ?_
        refine T30 _ ?_
        unfold bgV
        first
        | (rw [if_pos (hz.mp h11)]; done)
        | (rw [if_neg (fun z => h11 (hz.mpr z)), if_pos h22]; done)
        | rw [if_neg (fun z => h11 (hz.mpr z)), if_neg h22]
        | done
theorem l_begins : gQV E fL_begins [.ref 42] I h (fun I' => gSame [42] I I' ∧ ∀ w, w < 7 → I' 42 w = bgV w) := by
  refine gEv.of rfl (Nat.le_refl _) (Nat.le_of_ble_eq_true rfl) (L := [.ref 42, .null]) rfl ?_
  refine g_iconst (t := 1) dL_begins_0 c_iconst_0 rfl ?_
  refine g_istore_n (i := 1) (t := 2) (L1 := [_, _]) dL_begins_1 rfl (by decide) rfl rfl rfl ?_
  exact bg_loop 7 0 I rfl gSame.rf (fun w hw => absurd hw (Nat.not_lt_zero _))
abbrev lwK : gK := fun pc _ st σ => pc = 364 ∧ st = [.int (nI 1)] ∧ σ.1 = 194
abbrev lwG (E : gE) (pc : Nat) (L st : List Value) (J : Nat → Nat → Int32) (h : gX) : Prop := Wp E fL_law 194 pc L st (gM J h) lwK
/-- behind a step -/
theorem law_321 {k : Nat} {u6 u7 u8 : Value} (hk : k < 24) (hg : gn h = 50 + 6 * k) (hP : lawP I) (kk : ∀ (J : Nat → Nat → Int32) (h' : gX) (v6 v7 v8 v9 : Value), gn h' = 50 + 6 * (k + 1) → lawP J → lwG E 140 [.ref 1000, .ref 0, .ref 41, .ref 42, .ref 43, .int (nI (k + 1)), v6, v7, v8, v9] [] J h') : lwG E 321 [.ref 1000, .ref 0, .ref 41, .ref 42, .ref 43, .int (nI k), u6, u7, u8, .int (nI 1)] [] I h := by
  obtain ⟨S, hX, hA, hV⟩ := hP
  have hlen : 44 + h.2.length < 900 := by
    have : 44 + h.2.length + h.1 = 50 + 6 * k := hg
    omega
  have hle : gn h ≤ 194 := by omega
  have T357 : ∀ (J : Nat → Nat → Int32) (h' : gX), gn h' = gn h + 6 → rX J S → aX J S → lwG E 357 [.ref 1000, .ref 0, .ref 41, .ref 42, .ref 43, .int (nI k), u6, u7, u8, .int (nI 1)] [] J h' := by
    intro J h' hn hXJ hAJ
    refine g_iinc (i := 5) (t := 360) (L1 := [_, _, _, _, _, _, _, _, _, _]) dL_law_357 rfl (gi_1 _) (by decide) rfl rfl rfl ?_
    refine g_goto (t := 140) dL_law_360 (by decide) ?_
    exact kk J h' _ _ _ _ (by omega) ⟨S, hXJ, hAJ, hV⟩
  have T352 : ∀ (J : Nat → Nat → Int32) (h' : gX), gn h' = gn h + 6 → rX J S → aX J S → lwG E 352 [.ref 1000, .ref 0, .ref 41, .ref 42, .ref 43, .int (nI k), u6, u7, u8, .int (nI 1)] [.int (nI 1)] J h' := by
    intro J h' hn hXJ hAJ
    refine g_if_ne (t1 := 357) (t2 := 355) dL_law_352 (by decide) rfl (fun h352 => ?_) (fun h352 => ?_)
    · exact T357 J h' hn hXJ hAJ
    · exact absurd h352 (by decide)
  refine g_aload_n (i := 2) (r := 41) (t := 322) dL_law_321 rfl rfl (Or.inl l9_41) rfl ?_
  refine g_aload_n (i := 3) (r := 42) (t := 323) dL_law_322 rfl rfl (Or.inl l9_42) rfl ?_
  refine g_aload (i := 4) (r := 43) (t := 325) dL_law_323 rfl (Or.inl l9_43) rfl ?_
  refine g_cSv (t := 328) mL_orders k_L_107 smL_orders dL_law_325 (l_orders hA hV.1) rfl rfl (by decide) (by decide) (Nat.le_of_ble_eq_true rfl) rfl hle (fun J325 q325 => ?_)
  obtain ⟨zq1, zq2⟩ := q325
  have zX1 := hX.keep (cs := [43]) zq1 rfl
  have zA1 : aX J325 S := hA.keep zq1 rfl rfl rfl
  refine g_iload (i := 9) (t := 330) dL_law_328 rfl rfl ?_
  refine g_if_eq (t1 := 355) (t2 := 333) dL_law_330 (by decide) rfl (fun h330 => ?_) (fun h330 => ?_)
  · exact absurd h330 (by decide)
  · refine g_aload_n (i := 1) (r := 0) (t := 334) dL_law_333 rfl rfl (Or.inl l9_0) rfl ?_
    refine g_aload_n (i := 2) (r := 41) (t := 335) dL_law_334 rfl rfl (Or.inl l9_41) rfl ?_
    refine g_aload_n (i := 3) (r := 42) (t := 336) dL_law_335 rfl rfl (Or.inl l9_42) rfl ?_
    refine g_aload (i := 4) (r := 43) (t := 338) dL_law_336 rfl (Or.inl l9_43) rfl ?_
    refine g_cSi (t := 341) mL_areItems k_L_117 smL_areItems dL_law_338 (l_areItems zX1 zA1 zq2 hV) rfl rfl (by decide) (by decide) (Nat.le_of_ble_eq_true rfl) rfl hle (fun v338 J338 q338 => ?_)
    obtain ⟨zq3, rfl, zq5⟩ := q338
    have zA2 : aX J338 S := zA1.keep zq3 rfl rfl rfl
    have zO2 : orX J338 S := zq2.keep (zq3.at 43 rfl)
    refine g_if_eq (t1 := 355) (t2 := 344) dL_law_341 (by decide) rfl (fun h341 => ?_) (fun h341 => ?_)
    · exact absurd h341 (by decide)
    · refine g_aload_n (i := 1) (r := 0) (t := 345) dL_law_344 rfl rfl (Or.inl l9_0) rfl ?_
      refine g_aload_n (i := 2) (r := 41) (t := 346) dL_law_345 rfl rfl (Or.inl l9_41) rfl ?_
      refine g_aload_n (i := 3) (r := 42) (t := 347) dL_law_346 rfl rfl (Or.inl l9_42) rfl ?_
      refine g_aload (i := 4) (r := 43) (t := 349) dL_law_347 rfl (Or.inl l9_43) rfl ?_
      refine g_cSn (t := 352) mL_areSizes k_L_121 smL_areSizes dL_law_349 (l_areSizes zq5 zA2 zO2 hV hlen) rfl rfl (by decide) (by decide) (Nat.le_of_ble_eq_true rfl) rfl (show gn h + 6 ≤ 194 by omega) (fun r349 J349 h349 n349 q349 => ?_)
      obtain ⟨rfl, zq6, zq7, zq8, zq9⟩ := q349
      exact T352 J349 h349 n349 zq6 (by unfold aX; rw [zq7, zq8]; exact zA2)
/-- one step -/
theorem law_step (hL : E.2.2.2.2.1 ≤ 260) {k : Nat} {u6 u7 u8 u9 : Value} (hk : k < 24) (hg : gn h = 50 + 6 * k) (hP : lawP I) (kk : ∀ (J : Nat → Nat → Int32) (h' : gX) (v6 v7 v8 v9 : Value), gn h' = 50 + 6 * (k + 1) → lawP J → lwG E 140 [.ref 1000, .ref 0, .ref 41, .ref 42, .ref 43, .int (nI (k + 1)), v6, v7, v8, v9] [] J h') : lwG E 140 [.ref 1000, .ref 0, .ref 41, .ref 42, .ref 43, .int (nI k), u6, u7, u8, u9] [] I h := by
  obtain ⟨S, hX, hA, hV⟩ := hP
  obtain ⟨a1, a2, a3, a4⟩ := id hA
  have hle : gn h ≤ 194 := by omega
  obtain ⟨x, hx⟩ := l_cell (E := E) (I := I) (h := h) (k := 2 * k) (by omega) hL
  obtain ⟨y, hy⟩ := l_cell (E := E) (I := I) (h := h) (k := 2 * k + 1) (by omega) hL
  have hz : nI S.1.1 = 0 ↔ S.1.1 = 0 := (show ∀ k, k < 6 → (nI k = 0 ↔ k = 0) by decide +kernel) S.1.1 (by omega)
  have T321 : ∀ (J : Nat → Nat → Int32) (v8 : Value), lawP J → lwG E 321 [.ref 1000, .ref 0, .ref 41, .ref 42, .ref 43, .int (nI k), .int x, .int y, v8, .int (nI 1)] [] J h := fun J v8 hPJ => law_321 hk hg hPJ kk
  have T310 : ∀ (at_ : Nat) (v8 v9 : Value), at_ ≤ S.1.1 → (∃ p8 : Int32, v8 = .int p8) → lwG E 310 [.ref 1000, .ref 0, .ref 41, .ref 42, .ref 43, .int (nI k), .int x, .int y, v8, v9] [.int (nI at_), .ref 41, .ref 0] I h := by
    rintro at_ v8 v9 hat ⟨p8, rfl⟩
    refine g_iload (i := 6) (t := 312) dL_law_310 rfl rfl ?_
    refine g_iload (i := 7) (t := 314) dL_law_312 rfl rfl ?_
    refine g_iconst (t := 315) dL_law_314 c_iconst_1 rfl ?_
    refine g_ishr (t := 316) dL_law_315 rfl ?_
    refine g_cSi (t := 319) mL_inserts k_L_138 smL_inserts dL_law_316 (l_inserts hX hA hV hat) rfl rfl (by decide) (by decide) (Nat.le_of_ble_eq_true rfl) rfl hle (fun v316 J316 q316 => ?_)
    obtain ⟨rfl, zq1⟩ := q316
    refine g_istore (i := 9) (t := 321) (L1 := [_, _, _, _, _, _, _, _, _, _]) dL_law_319 (by decide) rfl rfl rfl ?_
    exact T321 J316 _ zq1
  have T213 : ∀ (c it : Nat) (v9 : Value), c < 1000 → (S.1.1 = 0 → c = 9) → (0 < S.1.1 → it < S.1.1) → lwG E 213 [.ref 1000, .ref 0, .ref 41, .ref 42, .ref 43, .int (nI k), .int x, .int y, .int (nI it), v9] [.int (nI c)] I h := by
    intro c it v9 hc h9 hit
    have hn : ∀ j, j < 5 → nI c = nI (0 + j) → it < S.1.1 := fun j hj e => by
      have : c = 0 + j := (nI_eq (by omega) (by omega)).mp e
      refine hit (Nat.pos_of_ne_zero fun z => ?_)
      have := h9 z
      omega
    refine g_sw5 (l := 0) (td := 286) (t0 := 248) (t1 := 260) (t2 := 260) (t3 := 274) (t4 := 274) (by decide) dL_law_213 rfl rfl (by decide) (by decide) (by decide) (by decide) (by decide) (by decide) (fun h213_0 => ?_) (fun h213_1 => ?_) (fun h213_2 => ?_) (fun h213_3 => ?_) (fun h213_4 => ?_) (fun h213_d => ?_)
    · refine g_aload_n (i := 1) (r := 0) (t := 249) dL_law_248 rfl rfl (Or.inl l9_0) rfl ?_
      refine g_aload_n (i := 2) (r := 41) (t := 250) dL_law_249 rfl rfl (Or.inl l9_41) rfl ?_
      refine g_iload (i := 8) (t := 252) dL_law_250 rfl rfl ?_
      refine g_cSi (t := 255) mL_hides k_L_127 smL_hides dL_law_252 (l_hides hX hA hV (hn 0 (by decide) h213_0)) rfl rfl (by decide) (by decide) (Nat.le_of_ble_eq_true rfl) rfl hle (fun v252 J252 q252 => ?_)
      obtain ⟨rfl, zq1⟩ := q252
      refine g_istore (i := 9) (t := 257) (L1 := [_, _, _, _, _, _, _, _, _, _]) dL_law_255 (by decide) rfl rfl rfl ?_
      refine g_goto (t := 321) dL_law_257 (by decide) ?_
      first
      | exact T321 J252 _ zq1
      | exact T321 J266 _ zq1
      | exact T321 J278 _ zq1
      | done
    · refine g_aload_n (i := 1) (r := 0) (t := 261) dL_law_260 rfl rfl (Or.inl l9_0) rfl ?_
      refine g_aload_n (i := 2) (r := 41) (t := 262) dL_law_261 rfl rfl (Or.inl l9_41) rfl ?_
      refine g_iload (i := 8) (t := 264) dL_law_262 rfl rfl ?_
      refine g_iload (i := 6) (t := 266) dL_law_264 rfl rfl ?_
      refine g_cSi (t := 269) mL_changes k_L_131 smL_changes dL_law_266 (l_changes hX hA hV (by first | exact hn 1 (by decide) h213_1 | exact hn 2 (by decide) h213_2)) rfl rfl (by decide) (by decide) (Nat.le_of_ble_eq_true rfl) rfl hle (fun v266 J266 q266 => ?_)
      obtain ⟨rfl, zq1⟩ := q266
      refine g_istore (i := 9) (t := 271) (L1 := [_, _, _, _, _, _, _, _, _, _]) dL_law_269 (by decide) rfl rfl rfl ?_
      refine g_goto (t := 321) dL_law_271 (by decide) ?_
      first
      | exact T321 J252 _ zq1
      | exact T321 J266 _ zq1
      | exact T321 J278 _ zq1
      | done
    · refine g_aload_n (i := 1) (r := 0) (t := 261) dL_law_260 rfl rfl (Or.inl l9_0) rfl ?_
      refine g_aload_n (i := 2) (r := 41) (t := 262) dL_law_261 rfl rfl (Or.inl l9_41) rfl ?_
      refine g_iload (i := 8) (t := 264) dL_law_262 rfl rfl ?_
      refine g_iload (i := 6) (t := 266) dL_law_264 rfl rfl ?_
      refine g_cSi (t := 269) mL_changes k_L_131 smL_changes dL_law_266 (l_changes hX hA hV (by first | exact hn 1 (by decide) h213_1 | exact hn 2 (by decide) h213_2)) rfl rfl (by decide) (by decide) (Nat.le_of_ble_eq_true rfl) rfl hle (fun v266 J266 q266 => ?_)
      obtain ⟨rfl, zq1⟩ := q266
      refine g_istore (i := 9) (t := 271) (L1 := [_, _, _, _, _, _, _, _, _, _]) dL_law_269 (by decide) rfl rfl rfl ?_
      refine g_goto (t := 321) dL_law_271 (by decide) ?_
      first
      | exact T321 J252 _ zq1
      | exact T321 J266 _ zq1
      | exact T321 J278 _ zq1
      | done
    · refine g_aload_n (i := 1) (r := 0) (t := 275) dL_law_274 rfl rfl (Or.inl l9_0) rfl ?_
      refine g_aload_n (i := 3) (r := 42) (t := 276) dL_law_275 rfl rfl (Or.inl l9_42) rfl ?_
      refine g_iload (i := 6) (t := 278) dL_law_276 rfl rfl ?_
      refine g_cSi (t := 281) mL_sets k_L_135 smL_sets dL_law_278 (l_sets hX hA hV) rfl rfl (by decide) (by decide) (Nat.le_of_ble_eq_true rfl) rfl hle (fun v278 J278 q278 => ?_)
      obtain ⟨rfl, zq1⟩ := q278
      refine g_istore (i := 9) (t := 283) (L1 := [_, _, _, _, _, _, _, _, _, _]) dL_law_281 (by decide) rfl rfl rfl ?_
      refine g_goto (t := 321) dL_law_283 (by decide) ?_
      first
      | exact T321 J252 _ zq1
      | exact T321 J266 _ zq1
      | exact T321 J278 _ zq1
      | done
    · refine g_aload_n (i := 1) (r := 0) (t := 275) dL_law_274 rfl rfl (Or.inl l9_0) rfl ?_
      refine g_aload_n (i := 3) (r := 42) (t := 276) dL_law_275 rfl rfl (Or.inl l9_42) rfl ?_
      refine g_iload (i := 6) (t := 278) dL_law_276 rfl rfl ?_
      refine g_cSi (t := 281) mL_sets k_L_135 smL_sets dL_law_278 (l_sets hX hA hV) rfl rfl (by decide) (by decide) (Nat.le_of_ble_eq_true rfl) rfl hle (fun v278 J278 q278 => ?_)
      obtain ⟨rfl, zq1⟩ := q278
      refine g_istore (i := 9) (t := 283) (L1 := [_, _, _, _, _, _, _, _, _, _]) dL_law_281 (by decide) rfl rfl rfl ?_
      refine g_goto (t := 321) dL_law_283 (by decide) ?_
      first
      | exact T321 J252 _ zq1
      | exact T321 J266 _ zq1
      | exact T321 J278 _ zq1
      | done
    · refine g_aload_n (i := 1) (r := 0) (t := 287) dL_law_286 rfl rfl (Or.inl l9_0) rfl ?_
      refine g_aload_n (i := 2) (r := 41) (t := 288) dL_law_287 rfl rfl (Or.inl l9_41) rfl ?_
      refine g_aload_n (i := 2) (r := 41) (t := 289) dL_law_288 rfl rfl (Or.inl l9_41) rfl ?_
      refine g_bipush (t := 291) dL_law_289 c_bipush_60 rfl ?_
      refine gm_iald_x (a := 41) (n := 64) (t := 292) l6_41 l9_41 s_41 dL_law_291 rfl (by omega) (by decide) rfl ?_
      rw [a2]
      refine g_if_ne (t1 := 299) (t2 := 295) dL_law_292 (by decide) rfl (fun h292 => ?_) (fun h292 => ?_)
      · refine g_iload (i := 7) (t := 301) dL_law_299 rfl rfl ?_
        refine g_aload_n (i := 2) (r := 41) (t := 302) dL_law_301 rfl rfl (Or.inl l9_41) rfl ?_
        refine g_bipush (t := 304) dL_law_302 c_bipush_60 rfl ?_
        refine gm_iald_x (a := 41) (n := 64) (t := 305) l6_41 l9_41 s_41 dL_law_304 rfl (by omega) (by decide) rfl ?_
        rw [a2]
        refine g_iconst (t := 306) dL_law_305 c_iconst_1 rfl ?_
        refine g_iadd (t := 307) dL_law_306 rfl ?_
        refine g_top (y := nI (S.1.1 + 1)) (nI_add _ _) ?_
        refine g_cSp (t := 310) mL_low k_L_35 smL_low dL_law_307 (l_low (by rw [← nI_0]; exact fun z => absurd ((nI_eq (by omega) (by decide)).mp z) (Nat.succ_ne_zero _))) rfl rfl (by decide) (by decide) (Nat.le_of_ble_eq_true rfl) rfl hle ?_
        first
        | exact T310 0 _ _ (Nat.zero_le _) ⟨_, rfl⟩
        | (obtain ⟨at_, hat, eat⟩ := lowI_lt y (n := S.1.1 + 1) (by omega) (by omega)
           exact g_top eat (T310 at_ _ _ (by omega) ⟨_, rfl⟩))
        | done
      · refine g_iconst (t := 296) dL_law_295 c_iconst_0 rfl ?_
        refine g_goto (t := 310) dL_law_296 (by decide) ?_
        first
        | exact T310 0 _ _ (Nat.zero_le _) ⟨_, rfl⟩
        | (obtain ⟨at_, hat, eat⟩ := lowI_lt y (n := S.1.1 + 1) (by omega) (by omega)
           exact g_top eat (T310 at_ _ _ (by omega) ⟨_, rfl⟩))
        | done
  have T189 : ∀ (it : Nat) (v8 v9 : Value), (0 < S.1.1 → it < S.1.1) → lwG E 189 [.ref 1000, .ref 0, .ref 41, .ref 42, .ref 43, .int (nI k), .int x, .int y, v8, v9] [.int (nI it)] I h := by
    intro it v8 v9 hit
    refine g_istore (i := 8) (t := 191) (L1 := [_, _, _, _, _, _, _, _, _, _]) dL_law_189 (by decide) rfl rfl rfl ?_
    refine g_aload_n (i := 2) (r := 41) (t := 192) dL_law_191 rfl rfl (Or.inl l9_41) rfl ?_
    refine g_bipush (t := 194) dL_law_192 c_bipush_60 rfl ?_
    refine gm_iald_x (a := 41) (n := 64) (t := 195) l6_41 l9_41 s_41 dL_law_194 rfl (by omega) (by decide) rfl ?_
    rw [a2]
    refine g_if_ne (t1 := 203) (t2 := 198) dL_law_195 (by decide) rfl (fun h195 => ?_) (fun h195 => ?_)
    · refine g_iload (i := 6) (t := 205) dL_law_203 rfl rfl ?_
      refine g_bipush (t := 207) dL_law_205 c_bipush_27 rfl ?_
      refine g_ishr (t := 208) dL_law_207 rfl ?_
      refine g_bipush (t := 210) dL_law_208 c_bipush_8 rfl ?_
      refine g_cSp (t := 213) mL_low k_L_35 smL_low dL_law_210 (l_low (by decide)) rfl rfl (by decide) (by decide) (Nat.le_of_ble_eq_true rfl) rfl hle ?_
      first
      | exact T213 9 it _ (by decide) (fun _ => rfl) hit
      | (obtain ⟨c, hc, ec⟩ := lowI_lt (x >>> (nI 27 &&& 31)) (n := 8) (by decide) (by decide)
         exact g_top ec (T213 c it _ (by omega) (fun z => absurd (hz.mpr z) h195) hit))
      | done
    · refine g_bipush (t := 200) dL_law_198 c_bipush_9 rfl ?_
      refine g_goto (t := 213) dL_law_200 (by decide) ?_
      first
      | exact T213 9 it _ (by decide) (fun _ => rfl) hit
      | (obtain ⟨c, hc, ec⟩ := lowI_lt (x >>> (nI 27 &&& 31)) (n := 8) (by decide) (by decide)
         exact g_top ec (T213 c it _ (by omega) (fun z => absurd (hz.mpr z) h195) hit))
      | done
  refine g_iload (i := 5) (t := 142) dL_law_140 rfl rfl ?_
  refine g_bipush (t := 144) dL_law_142 c_bipush_24 rfl ?_
  refine g_icmp_ge_n (t1 := 363) (t2 := 147) dL_law_144 (by decide) rfl (by omega) (by omega) (fun h144 => ?_) (fun h144 => ?_)
  · exfalso; omega
  · refine g_aload_n (i := 0) (r := 1000) (t := 148) dL_law_147 rfl rfl (Or.inr rfl) rfl ?_
    refine g_iconst (t := 149) dL_law_148 c_iconst_2 rfl ?_
    refine g_iload (i := 5) (t := 151) dL_law_149 rfl rfl ?_
    refine g_imul (t := 152) dL_law_151 rfl ?_
    refine g_top (y := nI (2 * k)) (pk_mul _ _) ?_
    refine g_cSp (t := 155) mL_cell k_L_124 smL_cell dL_law_152 (hx) rfl rfl (by decide) (by decide) (Nat.le_of_ble_eq_true rfl) rfl hle ?_
    refine g_istore (i := 6) (t := 157) (L1 := [_, _, _, _, _, _, _, _, _, _]) dL_law_155 (by decide) rfl rfl rfl ?_
    refine g_aload_n (i := 0) (r := 1000) (t := 158) dL_law_157 rfl rfl (Or.inr rfl) rfl ?_
    refine g_iconst (t := 159) dL_law_158 c_iconst_2 rfl ?_
    refine g_iload (i := 5) (t := 161) dL_law_159 rfl rfl ?_
    refine g_imul (t := 162) dL_law_161 rfl ?_
    refine g_iconst (t := 163) dL_law_162 c_iconst_1 rfl ?_
    refine g_iadd (t := 164) dL_law_163 rfl ?_
    refine g_top (y := nI (2 * k + 1)) (by rw [pk_mul, nI_add]) ?_
    refine g_cSp (t := 167) mL_cell k_L_124 smL_cell dL_law_164 (hy) rfl rfl (by decide) (by decide) (Nat.le_of_ble_eq_true rfl) rfl hle ?_
    refine g_istore (i := 7) (t := 169) (L1 := [_, _, _, _, _, _, _, _, _, _]) dL_law_167 (by decide) rfl rfl rfl ?_
    refine g_aload_n (i := 2) (r := 41) (t := 170) dL_law_169 rfl rfl (Or.inl l9_41) rfl ?_
    refine g_bipush (t := 172) dL_law_170 c_bipush_60 rfl ?_
    refine gm_iald_x (a := 41) (n := 64) (t := 173) l6_41 l9_41 s_41 dL_law_172 rfl (by omega) (by decide) rfl ?_
    rw [a2]
    refine g_if_ne (t1 := 180) (t2 := 176) dL_law_173 (by decide) rfl (fun h173 => ?_) (fun h173 => ?_)
    · refine g_iload (i := 7) (t := 182) dL_law_180 rfl rfl ?_
      refine g_aload_n (i := 2) (r := 41) (t := 183) dL_law_182 rfl rfl (Or.inl l9_41) rfl ?_
      refine g_bipush (t := 185) dL_law_183 c_bipush_60 rfl ?_
      refine gm_iald_x (a := 41) (n := 64) (t := 186) l6_41 l9_41 s_41 dL_law_185 rfl (by omega) (by decide) rfl ?_
      rw [a2]
      refine g_cSp (t := 189) mL_low k_L_35 smL_low dL_law_186 (l_low (fun z => absurd z h173)) rfl rfl (by decide) (by decide) (Nat.le_of_ble_eq_true rfl) rfl hle ?_
      first
      | exact T189 0 _ _ (fun z => z)
      | (obtain ⟨it, hit, eit⟩ := lowI_lt y (n := S.1.1) (Nat.pos_of_ne_zero fun z => h173 (hz.mpr z)) (by omega)
         exact g_top eit (T189 it _ _ (fun _ => hit)))
      | done
    · refine g_iconst (t := 177) dL_law_176 c_iconst_0 rfl ?_
      refine g_goto (t := 189) dL_law_177 (by decide) ?_
      first
      | exact T189 0 _ _ (fun z => z)
      | (obtain ⟨it, hit, eit⟩ := lowI_lt y (n := S.1.1) (Nat.pos_of_ne_zero fun z => h173 (hz.mpr z)) (by omega)
         exact g_top eit (T189 it _ _ (fun _ => hit)))
      | done
theorem law_loop (hL : E.2.2.2.2.1 ≤ 260) : ∀ (d k : Nat) (J : Nat → Nat → Int32) (h : gX) (u6 u7 u8 u9 : Value), k + d = 24 → gn h = 50 + 6 * k → lawP J → lwG E 140 [.ref 1000, .ref 0, .ref 41, .ref 42, .ref 43, .int (nI k), u6, u7, u8, u9] [] J h := by
  intro d
  induction d with
  | zero =>
    intro k J h u6 u7 u8 u9 hk hg hP
    have hk : k = 24 := by omega
    subst hk
    refine g_iload (i := 5) (t := 142) dL_law_140 rfl rfl ?_
    refine g_bipush (t := 144) dL_law_142 c_bipush_24 rfl ?_
    refine g_icmp_ge_n (t1 := 363) (t2 := 147) dL_law_144 (by decide) rfl (by omega) (by omega) (fun h144 => ?_) (fun h144 => ?_)
    · refine g_iconst (t := 364) dL_law_363 c_iconst_1 rfl ?_
      exact Wp.here ⟨rfl, rfl, hg⟩
    · exfalso; omega
  | succ d ih =>
    intro k J h u6 u7 u8 u9 hk hg hP
    exact law_step hL (by omega) hg hP (fun J2 h2 v6 v7 v8 v9 hg2 hP2 => ih (k + 1) J2 h2 v6 v7 v8 v9 (by omega) hg2 hP2)
end LAW

