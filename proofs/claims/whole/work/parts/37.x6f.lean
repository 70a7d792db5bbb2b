/-! FlexRows: the least width -/
theorem ftV_t (s : sS) (k w : Nat) : ftV s true k w = decide (nln (sW s (nI w)) (sC s) ≤ k) := rfl
theorem ftV_f (s : sS) (k w : Nat) : ftV s false k w = allR (sW s (nI w)) (sC s) := rfl
section X6F
variable {E : gE} {I : Nat → Nat → Int32} {h : Int64} {S : sT}
theorem rX.sorted {J : Nat → Nat → Int32} (hX : rX I S) (hs : gSame [11, 12, 13, 14, 15, 16, 17] I J) (hO : xO J S.1.2.1 (sC S.1) (sQ S.1).2.2.2) : rX J S := by
  obtain ⟨hn, h4, hP, hB, hH, hT, hl⟩ := hX
  refine ⟨hn, by rw [hs.at 4 rfl]; exact h4, by rw [← hP]; funext i w; show J 6 _ = I 6 _; rw [hs.at 6 rfl], by rw [hs.at 5 rfl]; exact hB, hH.keep hs rfl, hT.keep hs rfl, ?_⟩
  rw [hs.at 0 rfl]
  refine hl.imp id fun y => ⟨y.1, hO, ?_, ?_, ?_⟩
  · exact y.2.2.1.keepS hs rfl
  · rw [xS, hs.at 21 rfl, hs.at 22 rfl, hs.at 23 rfl, hs.at 24 rfl, hs.at 25 rfl]; exact y.2.2.2.1
  · rw [xW, hs.at 27 rfl, hs.at 28 rfl, hs.at 29 rfl, hs.at 30 rfl, hs.at 31 rfl]; exact y.2.2.2.2
theorem rX.keep {J : Nat → Nat → Int32} {cs : List Nat} (hX : rX I S) (hs : gSame cs I J) (hc : [0, 1, 2, 4, 5, 6, 7, 8, 9, 10, 11, 12, 13, 14, 15, 16, 17, 18, 19, 20, 21, 22, 23, 24, 25, 27, 28, 29, 30, 31].all (fun c => !cs.contains c) = true) : rX J S := by
  obtain ⟨hn, h4, hP, hB, hH, hT, hl⟩ := hX
  have key : ∀ c ∈ [0, 1, 2, 4, 5, 6, 7, 8, 9, 10, 11, 12, 13, 14, 15, 16, 17, 18, 19, 20, 21, 22, 23, 24, 25, 27, 28, 29, 30, 31], J c = I c := fun c hm => hs.at c (by have := List.all_eq_true.mp hc c hm; simpa using this)
  have all2 : ∀ l : List Nat, (∀ c ∈ l, c ∈ [0, 1, 2, 4, 5, 6, 7, 8, 9, 10, 11, 12, 13, 14, 15, 16, 17, 18, 19, 20, 21, 22, 23, 24, 25, 27, 28, 29, 30, 31]) → l.all (fun c => !cs.contains c) = true := fun l hl => List.all_eq_true.mpr fun c hm => List.all_eq_true.mp hc c (hl c hm)
  refine ⟨hn, by rw [key 4 (by decide)]; exact h4, by rw [← hP]; funext i w; show J 6 _ = I 6 _; rw [key 6 (by decide)], by rw [key 5 (by decide)]; exact hB, hH.keep hs (all2 _ (by decide)), hT.keep hs (all2 _ (by decide)), ?_⟩
  rw [key 0 (by decide)]
  exact hl.imp id fun y => ⟨y.1, y.2.keep hs (all2 _ (by decide))⟩
theorem x6_lw_loop {x : Value} {a : Bool} {k : Nat} {y : Int32} {v4 : Int32} {I0 : Nat → Nat → Int32} (ha : a = true → y = nI k ∧ k ≤ 16) : ∀ (d w : Nat) (I : Nat → Nat → Int32), w + d = 1000 → rX I S → xO I S.1.2.1 (sC S.1) (sQ S.1).2.2.2 → gSame CL I0 I → lwV S.1 a k d w = lwV S.1 a k 980 20 → Wp E fX6_leastWidth 62 61 [.ref 0, x, .int y, .int (bI a), .int v4, .int (nI w)] [] (gM I h) (gRet fX6_leastWidth 62 (fun r σ' => ∃ (v : Int32) (I' : Nat → Nat → Int32), r = some (.int v) ∧ σ' = gM I' h ∧ gSame CL I0 I' ∧ rX I' S ∧ v = lwV S.1 a k 980 20)) := by
  intro d
  induction d with
  | zero =>
    intro w I hw hX hO hs hv
    have hw : w = 1000 := by omega
    subst hw
    refine g_iload (i := 5) (t := 63) dX6_leastWidth_61 rfl rfl ?_
    refine g_sipush (t := 66) dX6_leastWidth_63 c_sipush_999 rfl ?_
    refine g_icmp_gt_n (t1 := 115) (t2 := 69) dX6_leastWidth_66 (by decide) rfl (by omega) (by omega) (fun h66 => ?_) (fun h66 => ?_)
    · refine g_sipush (t := 118) dX6_leastWidth_115 c_sipush_m1001 rfl ?_
      exact g_retI dX6_leastWidth_118 rfl rfl (⟨hs, hX, hv⟩)
    · exfalso; omega
  | succ d ih =>
    intro w I hw hX hO hs hv
    have ⟨hn, h4, hP, hB, hH, hT, hl⟩ := hX
    have hc := sC_le hn
    have hnl := nln_le (sW S.1 (nI w)) (sC S.1)
    rw [lwV] at hv
    have TT109 : ∀ (J : Nat → Nat → Int32), gSame [32, 33, 34, 35, 36, 37, 38, 39, 40] I J → lwV S.1 a k d (w + 1) = lwV S.1 a k 980 20 → Wp E fX6_leastWidth 62 109 [.ref 0, x, .int y, .int (bI a), .int v4, .int (nI w)] [] (gM J h) (gRet fX6_leastWidth 62 (fun r σ' => ∃ (v : Int32) (I' : Nat → Nat → Int32), r = some (.int v) ∧ σ' = gM I' h ∧ gSame CL I0 I' ∧ rX I' S ∧ v = lwV S.1 a k 980 20)) := by
      intro J hsJ hv
      refine g_iinc (i := 5) (t := 112) (L1 := [_, _, _, _, _, _]) dX6_leastWidth_109 rfl (gi_1 _) (by decide) rfl rfl rfl ?_
      refine g_goto (t := 61) dX6_leastWidth_112 (by decide) ?_
      exact ih (w + 1) J (by omega) (hX.keep hsJ rfl) (hO.keep hsJ rfl) (hs.trans (hsJ.wk rfl)) hv
    cases a with
    | true =>
      obtain ⟨rfl, hk⟩ := ha rfl
      refine g_iload (i := 5) (t := 63) dX6_leastWidth_61 rfl rfl ?_
      refine g_sipush (t := 66) dX6_leastWidth_63 c_sipush_999 rfl ?_
      refine g_icmp_gt_n (t1 := 115) (t2 := 69) dX6_leastWidth_66 (by decide) rfl (by omega) (by omega) (fun h66 => ?_) (fun h66 => ?_)
      · exfalso; omega
      · refine g_aload_n (i := 0) (r := 0) (t := 70) dX6_leastWidth_69 rfl rfl (Or.inl l9_0) rfl ?_
        refine gm_getR (o := 0) (ci := 6) (k := 6) (r := 32) (t := 73) l6_0 l9_0 s_0 gf_X6_57 rfl r_0_6 l9_32 dX6_leastWidth_70 rfl ?_
        refine g_iload (i := 5) (t := 75) dX6_leastWidth_73 rfl rfl ?_
        refine g_cVv (o := 32) (t := 78) mX1_breakUp k_X6_159 imX1_breakUp seX1_breakUp l6_32 l9_32 s_32 rfl dX6_leastWidth_75 (x1_breakUp_32 hO) rfl rfl (by decide) (by decide) (Nat.le_of_ble_eq_true rfl) rfl (fun J q => ?_)
        refine g_iload_n (i := 3) (t := 79) dX6_leastWidth_78 rfl rfl rfl ?_
        refine g_if_eq (t1 := 96) (t2 := 82) dX6_leastWidth_79 (by decide) rfl (fun h79 => ?_) (fun h79 => ?_)
        · exact absurd h79 (by decide)
        · refine g_aload_n (i := 0) (r := 0) (t := 83) dX6_leastWidth_82 rfl rfl (Or.inl l9_0) rfl ?_
          refine gm_getR (o := 0) (ci := 6) (k := 6) (r := 32) (t := 86) l6_0 l9_0 s_0 gf_X6_57 rfl r_0_6 l9_32 dX6_leastWidth_83 rfl ?_
          refine gm_getI (o := 32) (ci := 1) (k := 0) (t := 89) l6_32 l9_32 s_32 gf_X6_147 rfl dX6_leastWidth_86 rfl ?_
          have hB2 : xB J 32 33 34 (sW S.1 (nI w)) (sC S.1) := by
            have := q.2.2
            rw [hB] at this
            exact this
          rw [hB2.1]
          refine g_iload_n (i := 2) (t := 90) dX6_leastWidth_89 rfl rfl rfl ?_
          refine g_icmp_gt_n (t1 := 109) (t2 := 93) dX6_leastWidth_90 (by decide) rfl (by omega) (by omega) (fun h90 => ?_) (fun h90 => ?_)
          · rw [ftV_t, if_neg (by rw [decide_eq_false (by omega)]; decide)] at hv
            exact TT109 J (q.1.wk rfl) hv
          · refine g_goto (t := 106) dX6_leastWidth_93 (by decide) ?_
            refine g_iload (i := 5) (t := 108) dX6_leastWidth_106 rfl rfl ?_
            exact g_retI dX6_leastWidth_108 rfl rfl (⟨hs.trans (q.1.wk rfl), hX.keep q.1 rfl, by rw [← hv, ftV_t, if_pos (decide_eq_true (by omega))]⟩)
    | false =>
      refine g_iload (i := 5) (t := 63) dX6_leastWidth_61 rfl rfl ?_
      refine g_sipush (t := 66) dX6_leastWidth_63 c_sipush_999 rfl ?_
      refine g_icmp_gt_n (t1 := 115) (t2 := 69) dX6_leastWidth_66 (by decide) rfl (by omega) (by omega) (fun h66 => ?_) (fun h66 => ?_)
      · exfalso; omega
      · refine g_aload_n (i := 0) (r := 0) (t := 70) dX6_leastWidth_69 rfl rfl (Or.inl l9_0) rfl ?_
        refine gm_getR (o := 0) (ci := 6) (k := 6) (r := 32) (t := 73) l6_0 l9_0 s_0 gf_X6_57 rfl r_0_6 l9_32 dX6_leastWidth_70 rfl ?_
        refine g_iload (i := 5) (t := 75) dX6_leastWidth_73 rfl rfl ?_
        refine g_cVv (o := 32) (t := 78) mX1_breakUp k_X6_159 imX1_breakUp seX1_breakUp l6_32 l9_32 s_32 rfl dX6_leastWidth_75 (x1_breakUp_32 hO) rfl rfl (by decide) (by decide) (Nat.le_of_ble_eq_true rfl) rfl (fun J q => ?_)
        refine g_iload_n (i := 3) (t := 79) dX6_leastWidth_78 rfl rfl rfl ?_
        refine g_if_eq (t1 := 96) (t2 := 82) dX6_leastWidth_79 (by decide) rfl (fun h79 => ?_) (fun h79 => ?_)
        · refine g_aload_n (i := 0) (r := 0) (t := 97) dX6_leastWidth_96 rfl rfl (Or.inl l9_0) rfl ?_
          refine gm_getR (o := 0) (ci := 6) (k := 6) (r := 32) (t := 100) l6_0 l9_0 s_0 gf_X6_57 rfl r_0_6 l9_32 dX6_leastWidth_97 rfl ?_
          have hB2 : xB J 32 33 34 (sW S.1 (nI w)) (sC S.1) := by
            have := q.2.2
            rw [hB] at this
            exact this
          have eP : xP J = S.1.2.1 := by rw [← hP]; funext i w; show J 6 _ = I 6 _; rw [q.1.at 6 rfl]
          have hOJ : xO J (xP J) (sC S.1) (sQ S.1).2.2.2 := by rw [eP]; exact hO.keep q.1 rfl
          refine g_cVi (o := 32) (t := 103) mX1_allHaveRoom k_X6_163 imX1_allHaveRoom seX1_allHaveRoom l6_32 l9_32 s_32 rfl dX6_leastWidth_100 (x1_allHaveRoom (Q := sW S.1 (nI w)) hOJ (by rw [eP, q.1.at 5 rfl, hB, q.2.1]; rfl) hB2) rfl rfl (by decide) (by decide) (Nat.le_of_ble_eq_true rfl) rfl (fun v J2 q2 => ?_)
          rw [q2.2]
          refine g_if_eq (t1 := 109) (t2 := 106) dX6_leastWidth_103 (by decide) rfl (fun h103 => ?_) (fun h103 => ?_)
          · rw [ftV_f, if_neg (by rw [bI_0 h103]; decide)] at hv
            exact TT109 J2 ((q.1.wk rfl).trans (q2.1.wk rfl)) hv
          · refine g_iload (i := 5) (t := 108) dX6_leastWidth_106 rfl rfl ?_
            exact g_retI dX6_leastWidth_108 rfl rfl (⟨(hs.trans (q.1.wk rfl)).trans (q2.1.wk rfl), (hX.keep q.1 rfl).keep q2.1 rfl, by rw [← hv, ftV_f, if_pos (bI_n0 h103)]⟩)
        · exact absurd (by decide) h79
theorem x6_leastWidth {x y : Int32} (hX : rX I S) : gQI E fX6_leastWidth [.ref 0, .int x, .int y] I h (fun v I' => gSame CL I I' ∧ rX I' S ∧ vLeast S x y v) := by
  refine gEv.of rfl (Nat.le_refl _) (Nat.le_of_ble_eq_true rfl) (L := [.ref 0, .int x, .int y, .null, .null, .null]) rfl ?_
  have ⟨hn, h4, hP, hB, hH, hT, hl⟩ := hX
  have T50 : ∀ (a : Bool) (k : Nat) (v4 : Int32), (a = true → y = nI k ∧ k ≤ 16) → (∀ v, v = lwV S.1 a k 980 20 → vLeast S x y v) → Wp E fX6_leastWidth 62 50 [.ref 0, .int x, .int y, .int (bI a), .int v4, .null] [] (gM I h) (gRet fX6_leastWidth 62 (fun r σ' => ∃ (v : Int32) (I' : Nat → Nat → Int32), r = some (.int v) ∧ σ' = gM I' h ∧ gSame CL I I' ∧ rX I' S ∧ vLeast S x y v)) := by
    intro a k v4 ha hv
    refine g_aload_n (i := 0) (r := 0) (t := 51) dX6_leastWidth_50 rfl rfl (Or.inl l9_0) rfl ?_
    refine gm_getR (o := 0) (ci := 6) (k := 3) (r := 11) (t := 54) l6_0 l9_0 s_0 gf_X6_35 rfl r_0_3 l9_11 dX6_leastWidth_51 rfl ?_
    refine g_cVv (o := 11) (t := 57) mX2_sort k_X6_156 imX2_sort seX2_sort l6_11 l9_11 s_11 rfl dX6_leastWidth_54 (x2_sort hn h4) rfl rfl (by decide) (by decide) (Nat.le_of_ble_eq_true rfl) rfl (fun J q => ?_)
    refine g_bipush (t := 59) dX6_leastWidth_57 c_bipush_20 rfl ?_
    refine g_istore (i := 5) (t := 61) (L1 := [_, _, _, _, _, _]) dX6_leastWidth_59 (by decide) rfl rfl rfl ?_
    have hO : xO J S.1.2.1 (sC S.1) (sQ S.1).2.2.2 := by
      have := q.2
      rw [hP] at this
      exact this
    refine (x6_lw_loop (I0 := I) ha 980 20 J rfl (hX.sorted q.1 hO) hO (q.1.wk rfl) rfl).mono (fun pc' L' st' σ' z => ?_)
    refine ⟨z.1, ?_⟩
    rcases z.2 with ⟨d1, v, ty, d2, d3, d4, v2, I', e1, e2, e3, e4, e5⟩ | ⟨d1, d2, d3, v2, I', e1, e2, e3, e4, e5⟩ | ⟨d1, v, d2, d3, v2, I', e1, e2, e3, e4, e5⟩ | ⟨d1, r, nm, d2, d3, v2, I', e1, e2, e3, e4, e5⟩
    · exact Or.inl ⟨d1, v, ty, d2, d3, d4, v2, I', e1, e2, e3, e4, hv v2 e5⟩
    · exact Or.inr (Or.inl ⟨d1, d2, d3, v2, I', e1, e2, e3, e4, hv v2 e5⟩)
    · exact Or.inr (Or.inr (Or.inl ⟨d1, v, d2, d3, v2, I', e1, e2, e3, e4, hv v2 e5⟩))
    · exact Or.inr (Or.inr (Or.inr ⟨d1, r, nm, d2, d3, v2, I', e1, e2, e3, e4, hv v2 e5⟩))
  have T35 : ∀ (a b : Bool), (a = true ↔ (x = nI 0 ∧ nI 1 ≤ y ∧ y ≤ nI 16)) → (b = true ↔ (x = nI 1 ∧ y = nI 0)) → Wp E fX6_leastWidth 62 35 [.ref 0, .int x, .int y, .int (bI a), .null, .null] [.int (bI b)] (gM I h) (gRet fX6_leastWidth 62 (fun r σ' => ∃ (v : Int32) (I' : Nat → Nat → Int32), r = some (.int v) ∧ σ' = gM I' h ∧ gSame CL I I' ∧ rX I' S ∧ vLeast S x y v)) := by
    intro a b ha hb
    refine g_istore (i := 4) (t := 37) (L1 := [_, _, _, _, _, _]) dX6_leastWidth_35 (by decide) rfl rfl rfl ?_
    refine g_iload_n (i := 3) (t := 38) dX6_leastWidth_37 rfl rfl rfl ?_
    refine g_if_ne (t1 := 50) (t2 := 41) dX6_leastWidth_38 (by decide) rfl (fun h38 => ?_) (fun h38 => ?_)
    · first
      | (obtain ⟨z1, z2, z3⟩ := ha.mp (bI_n0 h38)
         obtain ⟨k, hk, rfl⟩ := nI_of2 (M := nI 16) (n := 16) (by decide +kernel) (fun q => absurd (Int32.le_trans z2 (Int32.le_of_lt q)) (by decide)) z3
         have hk1 : 1 ≤ k := (nI_leI (by decide) (by omega)).mp z2
         refine T50 a k _ (fun _ => ⟨rfl, hk⟩) (fun v hv => Or.inl ⟨k, hk1, hk, z1, rfl, ?_⟩)
         rw [hv, bI_n0 h38])
      | (obtain ⟨z1, z2⟩ := hb.mp (bI_n0 h43)
         refine T50 a 0 _ (fun q => absurd q (by rw [bI_0 h38]; decide)) (fun v hv => Or.inr (Or.inl ⟨z1, z2, ?_⟩))
         rw [hv, bI_0 h38])
    · refine g_iload (i := 4) (t := 43) dX6_leastWidth_41 rfl rfl ?_
      refine g_if_ne (t1 := 50) (t2 := 46) dX6_leastWidth_43 (by decide) rfl (fun h43 => ?_) (fun h43 => ?_)
      · first
        | (obtain ⟨z1, z2, z3⟩ := ha.mp (bI_n0 h38)
           obtain ⟨k, hk, rfl⟩ := nI_of2 (M := nI 16) (n := 16) (by decide +kernel) (fun q => absurd (Int32.le_trans z2 (Int32.le_of_lt q)) (by decide)) z3
           have hk1 : 1 ≤ k := (nI_leI (by decide) (by omega)).mp z2
           refine T50 a k _ (fun _ => ⟨rfl, hk⟩) (fun v hv => Or.inl ⟨k, hk1, hk, z1, rfl, ?_⟩)
           rw [hv, bI_n0 h38])
        | (obtain ⟨z1, z2⟩ := hb.mp (bI_n0 h43)
           refine T50 a 0 _ (fun q => absurd q (by rw [bI_0 h38]; decide)) (fun v hv => Or.inr (Or.inl ⟨z1, z2, ?_⟩))
           rw [hv, bI_0 h38])
      · refine g_sipush (t := 49) dX6_leastWidth_46 c_sipush_m1002 rfl ?_
        exact g_retI dX6_leastWidth_49 rfl rfl (⟨gSame.rf, hX, Or.inr (Or.inr ⟨fun z => absurd (ha.mpr z) (by rw [bI_0 h38]; decide), fun z => absurd (hb.mpr z) (by rw [bI_0 h43]; decide), rfl⟩)⟩)
  have T20 : ∀ (a : Bool), (a = true ↔ (x = nI 0 ∧ nI 1 ≤ y ∧ y ≤ nI 16)) → Wp E fX6_leastWidth 62 20 [.ref 0, .int x, .int y, .null, .null, .null] [.int (bI a)] (gM I h) (gRet fX6_leastWidth 62 (fun r σ' => ∃ (v : Int32) (I' : Nat → Nat → Int32), r = some (.int v) ∧ σ' = gM I' h ∧ gSame CL I I' ∧ rX I' S ∧ vLeast S x y v)) := by
    intro a ha
    refine g_istore_n (i := 3) (t := 21) (L1 := [_, _, _, _, _, _]) dX6_leastWidth_20 rfl (by decide) rfl rfl rfl ?_
    refine g_iload_n (i := 1) (t := 22) dX6_leastWidth_21 rfl rfl rfl ?_
    refine g_iconst (t := 23) dX6_leastWidth_22 c_iconst_1 rfl ?_
    refine g_icmp_ne (t1 := 34) (t2 := 26) dX6_leastWidth_23 (by decide) rfl (fun h23 => ?_) (fun h23 => ?_)
    · refine g_iconst (t := 35) dX6_leastWidth_34 c_iconst_0 rfl ?_
      first
      | exact T35 a true ha ⟨fun _ => ⟨h23, h27⟩, fun _ => rfl⟩
      | exact T35 a false ha ⟨fun q => absurd q (by decide), fun q => absurd q.2 h27⟩
      | exact T35 a false ha ⟨fun q => absurd q (by decide), fun q => absurd q.1 h23⟩
    · refine g_iload_n (i := 2) (t := 27) dX6_leastWidth_26 rfl rfl rfl ?_
      refine g_if_ne (t1 := 34) (t2 := 30) dX6_leastWidth_27 (by decide) rfl (fun h27 => ?_) (fun h27 => ?_)
      · refine g_iconst (t := 35) dX6_leastWidth_34 c_iconst_0 rfl ?_
        first
        | exact T35 a true ha ⟨fun _ => ⟨h23, h27⟩, fun _ => rfl⟩
        | exact T35 a false ha ⟨fun q => absurd q (by decide), fun q => absurd q.2 h27⟩
        | exact T35 a false ha ⟨fun q => absurd q (by decide), fun q => absurd q.1 h23⟩
      · refine g_iconst (t := 31) dX6_leastWidth_30 c_iconst_1 rfl ?_
        refine g_goto (t := 35) dX6_leastWidth_31 (by decide) ?_
        first
        | exact T35 a true ha ⟨fun _ => ⟨h23, h27⟩, fun _ => rfl⟩
        | exact T35 a false ha ⟨fun q => absurd q (by decide), fun q => absurd q.2 h27⟩
        | exact T35 a false ha ⟨fun q => absurd q (by decide), fun q => absurd q.1 h23⟩
  refine g_iload_n (i := 1) (t := 1) dX6_leastWidth_0 rfl rfl rfl ?_
  refine g_if_ne (t1 := 19) (t2 := 4) dX6_leastWidth_1 (by decide) rfl (fun h1 => ?_) (fun h1 => ?_)
  · refine g_iconst (t := 20) dX6_leastWidth_19 c_iconst_0 rfl ?_
    first
    | exact T20 true ⟨fun _ => ⟨h1, Int32.not_lt.mp h6, Int32.not_lt.mp h12⟩, fun _ => rfl⟩
    | exact T20 false ⟨fun q => absurd q (by decide), fun q => absurd h12 (Int32.not_lt.mpr q.2.2)⟩
    | exact T20 false ⟨fun q => absurd q (by decide), fun q => absurd h6 (Int32.not_lt.mpr q.2.1)⟩
    | exact T20 false ⟨fun q => absurd q (by decide), fun q => absurd q.1 h1⟩
  · refine g_iload_n (i := 2) (t := 5) dX6_leastWidth_4 rfl rfl rfl ?_
    refine g_iconst (t := 6) dX6_leastWidth_5 c_iconst_1 rfl ?_
    refine g_icmp_lt (t1 := 19) (t2 := 9) dX6_leastWidth_6 (by decide) rfl (fun h6 => ?_) (fun h6 => ?_)
    · refine g_iconst (t := 20) dX6_leastWidth_19 c_iconst_0 rfl ?_
      first
      | exact T20 true ⟨fun _ => ⟨h1, Int32.not_lt.mp h6, Int32.not_lt.mp h12⟩, fun _ => rfl⟩
      | exact T20 false ⟨fun q => absurd q (by decide), fun q => absurd h12 (Int32.not_lt.mpr q.2.2)⟩
      | exact T20 false ⟨fun q => absurd q (by decide), fun q => absurd h6 (Int32.not_lt.mpr q.2.1)⟩
      | exact T20 false ⟨fun q => absurd q (by decide), fun q => absurd q.1 h1⟩
    · refine g_iload_n (i := 2) (t := 10) dX6_leastWidth_9 rfl rfl rfl ?_
      refine g_bipush (t := 12) dX6_leastWidth_10 c_bipush_16 rfl ?_
      refine g_icmp_gt (t1 := 19) (t2 := 15) dX6_leastWidth_12 (by decide) rfl (fun h12 => ?_) (fun h12 => ?_)
      · refine g_iconst (t := 20) dX6_leastWidth_19 c_iconst_0 rfl ?_
        first
        | exact T20 true ⟨fun _ => ⟨h1, Int32.not_lt.mp h6, Int32.not_lt.mp h12⟩, fun _ => rfl⟩
        | exact T20 false ⟨fun q => absurd q (by decide), fun q => absurd h12 (Int32.not_lt.mpr q.2.2)⟩
        | exact T20 false ⟨fun q => absurd q (by decide), fun q => absurd h6 (Int32.not_lt.mpr q.2.1)⟩
        | exact T20 false ⟨fun q => absurd q (by decide), fun q => absurd q.1 h1⟩
      · refine g_iconst (t := 16) dX6_leastWidth_15 c_iconst_1 rfl ?_
        refine g_goto (t := 20) dX6_leastWidth_16 (by decide) ?_
        first
        | exact T20 true ⟨fun _ => ⟨h1, Int32.not_lt.mp h6, Int32.not_lt.mp h12⟩, fun _ => rfl⟩
        | exact T20 false ⟨fun q => absurd q (by decide), fun q => absurd h12 (Int32.not_lt.mpr q.2.2)⟩
        | exact T20 false ⟨fun q => absurd q (by decide), fun q => absurd h6 (Int32.not_lt.mpr q.2.1)⟩
        | exact T20 false ⟨fun q => absurd q (by decide), fun q => absurd q.1 h1⟩
end X6F

