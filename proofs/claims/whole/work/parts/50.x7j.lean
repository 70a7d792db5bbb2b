/-! FlexRowsModel: lines are broken -/
def mL (I : Nat → Nat → Int32) (Q : lQ) (p : Nat) : Prop := I 41 13 = nI (nln Q p) ∧ (∀ q, q < p → I 47 q = nI (lin Q q)) ∧ ∀ l, l < nln Q p → I 48 l = nI (frC Q p l) ∧ I 49 l = nI (frC Q p (l + 1))
section X7J
variable {E : gE} {I : Nat → Nat → Int32} {h : Int64} {s : sS}
theorem x7_wr_loop {w : Int32} (hn : s.1 ≤ 16) {I0 : Nat → Nat → Int32} (hC : mC I0 s) (hO : mO I0 (sC s) (sQ s).2.2.2) : ∀ (d p : Nat) (I : Nat → Nat → Int32), p + d = sC s → gSame [41, 47, 48, 49] I0 I → (∀ j, j ≠ 13 → I 41 j = I0 41 j) → mL I (sW s w) p → Wp E fX7_wraps 62 9 [.ref 41, .int w, .int (lsa (sW s w) p), .int (nI p)] [] (gM I h) (gRet fX7_wraps 62 (fun r σ' => ∃ I', r = none ∧ σ' = gM I' h ∧ gSame [41, 47, 48, 49] I0 I' ∧ (∀ j, j ≠ 13 → I' 41 j = I0 41 j) ∧ mL I' (sW s w) (sC s))) := by
  intro d
  have hc := sC_le hn
  induction d with
  | zero =>
    intro p I hp hs hj hL
    have hp : p = sC s := by omega
    subst hp
    refine g_iload_n (i := 3) (t := 10) dX7_wraps_9 rfl rfl rfl ?_
    refine g_aload_n (i := 0) (r := 41) (t := 11) dX7_wraps_10 rfl rfl (Or.inl l9_41) rfl ?_
    refine gm_getI (o := 41) (ci := 7) (k := 9) (t := 14) l6_41 l9_41 s_41 gf_X7_176 rfl dX7_wraps_11 rfl ?_
    rw [hj 9 (by decide), hO.1]
    refine g_icmp_ge_n (t1 := 113) (t2 := 17) dX7_wraps_14 (by decide) rfl (by omega) (by omega) (fun h14 => ?_) (fun h14 => ?_)
    · exact g_retV dX7_wraps_113 rfl (⟨hs, hj, hL⟩)
    · exfalso; omega
  | succ d ih =>
    intro p I hp hs hj hL
    have hCI := hC.keep (hs.at 42 rfl)
    have fp : (sQ s).2.2.2 p < s.1 := sQ_le hn (by omega)
    have eob : out s.2.1 ((sQ s).2.2.2 p) = ob (sW s w) p := rfl
    have hnl := nln_le (sW s w) p
    obtain ⟨l1, l2, l3⟩ := hL
    have hOJ : ∀ J : Nat → Nat → Int32, (∀ j, j ≠ 13 → J 41 j = I0 41 j) → J 46 = I0 46 → mO J (sC s) (sQ s).2.2.2 := fun J a b => ⟨by rw [a 9 (by decide)]; exact hO.1, by rw [b]; exact hO.2⟩
    have T81 : ∀ J, gSame [41, 47, 48, 49] I0 J → (∀ j, j ≠ 13 → J 41 j = I0 41 j) → J 41 13 = nI (lin (sW s w) p + 1) → (∀ q, q < p → J 47 q = nI (lin (sW s w) q)) → (∀ l, l < lin (sW s w) p + 1 → J 48 l = nI (frC (sW s w) (p + 1) l)) → (∀ l, l < lin (sW s w) p → J 49 l = nI (frC (sW s w) (p + 1) (l + 1))) → Wp E fX7_wraps 62 81 [.ref 41, .int w, .int (lsm (sW s w) p), .int (nI p)] [] (gM J h) (gRet fX7_wraps 62 (fun r σ' => ∃ I', r = none ∧ σ' = gM I' h ∧ gSame [41, 47, 48, 49] I0 I' ∧ (∀ j, j ≠ 13 → I' 41 j = I0 41 j) ∧ mL I' (sW s w) (sC s))) := by
      intro J hsJ hjJ j13 j47 j48 j49
      have hlp := lin_le (sW s w) p
      refine g_aload_n (i := 0) (r := 41) (t := 82) dX7_wraps_81 rfl rfl (Or.inl l9_41) rfl ?_
      refine gm_getR (o := 41) (ci := 7) (k := 10) (r := 47) (t := 85) l6_41 l9_41 s_41 gf_X7_25 rfl r_41_10 l9_47 dX7_wraps_82 rfl ?_
      refine g_iload_n (i := 3) (t := 86) dX7_wraps_85 rfl rfl rfl ?_
      refine g_aload_n (i := 0) (r := 41) (t := 87) dX7_wraps_86 rfl rfl (Or.inl l9_41) rfl ?_
      refine gm_getI (o := 41) (ci := 7) (k := 13) (t := 90) l6_41 l9_41 s_41 gf_X7_182 rfl dX7_wraps_87 rfl ?_
      rw [j13]
      refine g_iconst (t := 91) dX7_wraps_90 c_iconst_1 rfl ?_
      refine g_isub (t := 92) dX7_wraps_91 rfl ?_
      refine g_top (gi_p _) ?_
      refine gm_iast_n (a := 47) (n := 16) (t := 93) l6_47 l9_47 s_47 dX7_wraps_92 (by omega) (by decide) rfl ?_
      refine g_aload_n (i := 0) (r := 41) (t := 94) dX7_wraps_93 rfl rfl (Or.inl l9_41) rfl ?_
      refine gm_getR (o := 41) (ci := 7) (k := 12) (r := 49) (t := 97) l6_41 l9_41 s_41 gf_X7_31 rfl r_41_12 l9_49 dX7_wraps_94 rfl ?_
      refine g_aload_n (i := 0) (r := 41) (t := 98) dX7_wraps_97 rfl rfl (Or.inl l9_41) rfl ?_
      refine gm_getI (o := 41) (ci := 7) (k := 13) (t := 101) l6_41 l9_41 s_41 gf_X7_182 rfl dX7_wraps_98 rfl ?_
      rw [gup_o _ _ _ _ (by decide), j13]
      refine g_iconst (t := 102) dX7_wraps_101 c_iconst_1 rfl ?_
      refine g_isub (t := 103) dX7_wraps_102 rfl ?_
      refine g_top (gi_p _) ?_
      refine g_iload_n (i := 3) (t := 104) dX7_wraps_103 rfl rfl rfl ?_
      refine g_iconst (t := 105) dX7_wraps_104 c_iconst_1 rfl ?_
      refine g_iadd (t := 106) dX7_wraps_105 rfl ?_
      refine g_top (gi_s _) ?_
      refine gm_iast_n (a := 49) (n := 16) (t := 107) l6_49 l9_49 s_49 dX7_wraps_106 (by omega) (by decide) rfl ?_
      refine g_iinc (i := 3) (t := 110) (L1 := [_, _, _, _]) dX7_wraps_107 rfl (gi_1 _) (by decide) rfl rfl rfl ?_
      refine g_goto (t := 9) dX7_wraps_110 (by decide) ?_
      refine ih (p + 1) _ (by omega) ((hsJ.up rfl).up rfl) (fun j a => ?_) ⟨?_, fun q hq => ?_, fun l hl => ?_⟩
      · rw [gup_o _ _ _ _ (by decide), gup_o _ _ _ _ (by decide)]; exact hjJ j a
      · rw [gup_o _ _ _ _ (by decide), gup_o _ _ _ _ (by decide), j13]; rfl
      · rw [gup_o _ _ _ _ (by decide), gup_at]
        by_cases y : q = p
        · rw [if_pos y, y]
        · rw [if_neg y]; exact j47 q (by omega)
      · have hl : l < lin (sW s w) p + 1 := hl
        refine ⟨by rw [gup_o _ _ _ _ (by decide), gup_o _ _ _ _ (by decide)]; exact j48 l hl, ?_⟩
        rw [gup_at]
        by_cases y : l = lin (sW s w) p
        · rw [if_pos y, y, frC_all (sW s w) (show nln (sW s w) (p + 1) ≤ lin (sW s w) p + 1 from Nat.le_refl _)]
        · rw [if_neg y, gup_o _ _ _ _ (by decide)]; exact j49 l (by omega)
    -- a new line
    have TN : nln (sW s w) p = lin (sW s w) p → lsm (sW s w) p = ob (sW s w) p → ∀ v2, Wp E fX7_wraps 62 55 [.ref 41, .int w, .int v2, .int (nI p)] [] (gM I h) (gRet fX7_wraps 62 (fun r σ' => ∃ I', r = none ∧ σ' = gM I' h ∧ gSame [41, 47, 48, 49] I0 I' ∧ (∀ j, j ≠ 13 → I' 41 j = I0 41 j) ∧ mL I' (sW s w) (sC s))) := by
      intro e1 e2 v2
      refine g_aload_n (i := 0) (r := 41) (t := 56) dX7_wraps_55 rfl rfl (Or.inl l9_41) rfl ?_
      refine gm_getR (o := 41) (ci := 7) (k := 11) (r := 48) (t := 59) l6_41 l9_41 s_41 gf_X7_28 rfl r_41_11 l9_48 dX7_wraps_56 rfl ?_
      refine g_aload_n (i := 0) (r := 41) (t := 60) dX7_wraps_59 rfl rfl (Or.inl l9_41) rfl ?_
      refine gm_getI (o := 41) (ci := 7) (k := 13) (t := 63) l6_41 l9_41 s_41 gf_X7_182 rfl dX7_wraps_60 rfl ?_
      rw [l1, e1]
      refine g_iload_n (i := 3) (t := 64) dX7_wraps_63 rfl rfl rfl ?_
      refine gm_iast_n (a := 48) (n := 16) (t := 65) l6_48 l9_48 s_48 dX7_wraps_64 (by omega) (by decide) rfl ?_
      refine g_aload_n (i := 0) (r := 41) (t := 66) dX7_wraps_65 rfl rfl (Or.inl l9_41) rfl ?_
      refine g_dup (t := 67) dX7_wraps_66 rfl rfl ?_
      refine gm_getI (o := 41) (ci := 7) (k := 13) (t := 70) l6_41 l9_41 s_41 gf_X7_182 rfl dX7_wraps_67 rfl ?_
      rw [gup_o _ _ _ _ (by decide), l1, e1]
      refine g_iconst (t := 71) dX7_wraps_70 c_iconst_1 rfl ?_
      refine g_iadd (t := 72) dX7_wraps_71 rfl ?_
      refine g_top (gi_s _) ?_
      refine gm_putI (o := 41) (ci := 7) (k := 13) (t := 75) l6_41 l9_41 s_41 gp_X7_182 rfl rfl rfl dX7_wraps_72 rfl ?_
      refine g_aload_n (i := 0) (r := 41) (t := 76) dX7_wraps_75 rfl rfl (Or.inl l9_41) rfl ?_
      refine g_iload_n (i := 3) (t := 77) dX7_wraps_76 rfl rfl rfl ?_
      have hs2 : gSame [41, 47, 48, 49] I0 (gup (gup I 48 (lin (sW s w) p) (nI p)) 41 13 (nI (lin (sW s w) p + 1))) := (hs.up rfl).up rfl
      have hj2 : ∀ j, j ≠ 13 → (gup (gup I 48 (lin (sW s w) p) (nI p)) 41 13 (nI (lin (sW s w) p + 1))) 41 j = I0 41 j := fun j a => by rw [gup_k _ _ _ a, gup_o _ _ _ _ (by decide)]; exact hj j a
      refine g_cVp (o := 41) (t := 80) mX7_outerWish k_X7_185 imX7_outerWish seX7_outerWish l6_41 l9_41 s_41 rfl dX7_wraps_77 (x7_outerWish (hC.keep (hs2.at 42 rfl)) hn (hOJ _ hj2 (hs2.at 46 rfl)) hc (by omega) fp) rfl rfl (by decide) (by decide) (Nat.le_of_ble_eq_true rfl) rfl ?_
      rw [eob, ← e2]
      refine g_istore_n (i := 2) (t := 81) (L1 := [_, _, _, _]) dX7_wraps_80 rfl (by decide) rfl rfl rfl ?_
      refine T81 _ hs2 hj2 (gup_self _ _ _ _) (fun q hq => ?_) (fun l hl => ?_) (fun l hl => ?_)
      · rw [gup_o _ _ _ _ (by decide), gup_o _ _ _ _ (by decide)]; exact l2 q hq
      · rw [gup_o _ _ _ _ (by decide), gup_at, frC_out (sW s w) (c := p) (by omega)]
        by_cases y : l = lin (sW s w) p
        · rw [if_pos y, y, frC_all (sW s w) (show nln (sW s w) p ≤ lin (sW s w) p by omega)]
        · rw [if_neg y]; exact (l3 l (by omega)).1
      · rw [gup_o _ _ _ _ (by decide), gup_o _ _ _ _ (by decide), frC_out (sW s w) (c := p) (by omega)]
        exact (l3 l (by omega)).2
    cases p with
    | zero =>
      refine g_iload_n (i := 3) (t := 10) dX7_wraps_9 rfl rfl rfl ?_
      refine g_aload_n (i := 0) (r := 41) (t := 11) dX7_wraps_10 rfl rfl (Or.inl l9_41) rfl ?_
      refine gm_getI (o := 41) (ci := 7) (k := 9) (t := 14) l6_41 l9_41 s_41 gf_X7_176 rfl dX7_wraps_11 rfl ?_
      rw [hj 9 (by decide), hO.1]
      refine g_icmp_ge_n (t1 := 113) (t2 := 17) dX7_wraps_14 (by decide) rfl (by omega) (by omega) (fun h14 => ?_) (fun h14 => ?_)
      · exfalso; omega
      · refine g_iload_n (i := 2) (t := 18) dX7_wraps_17 rfl rfl rfl ?_
        refine g_aload_n (i := 0) (r := 41) (t := 19) dX7_wraps_18 rfl rfl (Or.inl l9_41) rfl ?_
        refine gm_getR (o := 41) (ci := 7) (k := 0) (r := 42) (t := 22) l6_41 l9_41 s_41 gf_X7_7 rfl r_41_0 l9_42 dX7_wraps_19 rfl ?_
        refine g_sipush (t := 25) dX7_wraps_22 c_sipush_178 rfl ?_
        refine gm_iald_n (a := 42) (n := 184) (t := 26) l6_42 l9_42 s_42 dX7_wraps_25 (by omega) (by decide) rfl ?_
        refine g_aload_n (i := 0) (r := 41) (t := 27) dX7_wraps_26 rfl rfl (Or.inl l9_41) rfl ?_
        refine g_iload_n (i := 3) (t := 28) dX7_wraps_27 rfl rfl rfl ?_
        refine g_cVp (o := 41) (t := 31) mX7_outerWish k_X7_185 imX7_outerWish seX7_outerWish l6_41 l9_41 s_41 rfl dX7_wraps_28 (x7_outerWish hCI hn (hOJ I hj (hs.at 46 rfl)) hc (by omega) fp) rfl rfl (by decide) (by decide) (Nat.le_of_ble_eq_true rfl) rfl ?_
        refine g_iadd (t := 32) dX7_wraps_31 rfl ?_
        refine g_iadd (t := 33) dX7_wraps_32 rfl ?_
        refine g_istore_n (i := 2) (t := 34) (L1 := [_, _, _, _]) dX7_wraps_33 rfl (by decide) rfl rfl rfl ?_
        refine g_iload_n (i := 3) (t := 35) dX7_wraps_34 rfl rfl rfl ?_
        refine g_if_eq (t1 := 55) (t2 := 38) dX7_wraps_35 (by decide) rfl (fun h35 => ?_) (fun h35 => ?_)
        · exact TN rfl rfl _
        · exact absurd rfl h35
    | succ p =>
      have egap : I 42 178 = s.2.2 1 := hCI.2.2 1 (by decide)
      have ewr : I 42 180 = s.2.2 3 := hCI.2.2 3 (by decide)
      have KO : ¬ (s.2.2 3 = nI 1 ∧ w < (lnS (sW s w) p).1 + s.2.2 1 + ob (sW s w) (p + 1)) → Wp E fX7_wraps 62 81 [.ref 41, .int w, .int ((lnS (sW s w) p).1 + s.2.2 1 + ob (sW s w) (p + 1)), .int (nI (p + 1))] [] (gM I h) (gRet fX7_wraps 62 (fun r σ' => ∃ I', r = none ∧ σ' = gM I' h ∧ gSame [41, 47, 48, 49] I0 I' ∧ (∀ j, j ≠ 13 → I' 41 j = I0 41 j) ∧ mL I' (sW s w) (sC s))) := by
        intro hno
        have e0 : lnS (sW s w) (p + 1) = _ := if_neg hno
        have e2 : lin (sW s w) (p + 1) = lin (sW s w) p := by unfold lin; rw [e0]
        have e3 : lsm (sW s w) (p + 1) = (lnS (sW s w) p).1 + s.2.2 1 + ob (sW s w) (p + 1) := by unfold lsm; rw [e0]; rfl
        rw [← e3]
        refine T81 I hs hj (by rw [l1, e2]; rfl) l2 (fun l hl => ?_) (fun l hl => ?_)
        · rw [frC_out (sW s w) (c := p + 1) (by omega)]
          exact (l3 l (by rw [e2] at hl; exact hl)).1
        · rw [frC_out (sW s w) (c := p + 1) (by omega)]
          exact (l3 l (by rw [e2] at hl; exact Nat.lt_succ_of_lt hl)).2
      refine g_iload_n (i := 3) (t := 10) dX7_wraps_9 rfl rfl rfl ?_
      refine g_aload_n (i := 0) (r := 41) (t := 11) dX7_wraps_10 rfl rfl (Or.inl l9_41) rfl ?_
      refine gm_getI (o := 41) (ci := 7) (k := 9) (t := 14) l6_41 l9_41 s_41 gf_X7_176 rfl dX7_wraps_11 rfl ?_
      rw [hj 9 (by decide), hO.1]
      refine g_icmp_ge_n (t1 := 113) (t2 := 17) dX7_wraps_14 (by decide) rfl (by omega) (by omega) (fun h14 => ?_) (fun h14 => ?_)
      · exfalso; omega
      · refine g_iload_n (i := 2) (t := 18) dX7_wraps_17 rfl rfl rfl ?_
        refine g_aload_n (i := 0) (r := 41) (t := 19) dX7_wraps_18 rfl rfl (Or.inl l9_41) rfl ?_
        refine gm_getR (o := 41) (ci := 7) (k := 0) (r := 42) (t := 22) l6_41 l9_41 s_41 gf_X7_7 rfl r_41_0 l9_42 dX7_wraps_19 rfl ?_
        refine g_sipush (t := 25) dX7_wraps_22 c_sipush_178 rfl ?_
        refine gm_iald_n (a := 42) (n := 184) (t := 26) l6_42 l9_42 s_42 dX7_wraps_25 (by omega) (by decide) rfl ?_
        rw [egap]
        refine g_aload_n (i := 0) (r := 41) (t := 27) dX7_wraps_26 rfl rfl (Or.inl l9_41) rfl ?_
        refine g_iload_n (i := 3) (t := 28) dX7_wraps_27 rfl rfl rfl ?_
        refine g_cVp (o := 41) (t := 31) mX7_outerWish k_X7_185 imX7_outerWish seX7_outerWish l6_41 l9_41 s_41 rfl dX7_wraps_28 (x7_outerWish hCI hn (hOJ I hj (hs.at 46 rfl)) hc (by omega) fp) rfl rfl (by decide) (by decide) (Nat.le_of_ble_eq_true rfl) rfl ?_
        refine g_iadd (t := 32) dX7_wraps_31 rfl ?_
        refine g_iadd (t := 33) dX7_wraps_32 rfl ?_
        refine g_top (y := (lnS (sW s w) p).1 + s.2.2 1 + ob (sW s w) (p + 1)) (by rw [Int32.add_assoc]; rfl) ?_
        refine g_istore_n (i := 2) (t := 34) (L1 := [_, _, _, _]) dX7_wraps_33 rfl (by decide) rfl rfl rfl ?_
        refine g_iload_n (i := 3) (t := 35) dX7_wraps_34 rfl rfl rfl ?_
        refine g_if_eq (t1 := 55) (t2 := 38) dX7_wraps_35 (by decide) rfl (fun h35 => ?_) (fun h35 => ?_)
        · exact absurd h35 (nI_ne0 (by omega) (by omega))
        · refine g_aload_n (i := 0) (r := 41) (t := 39) dX7_wraps_38 rfl rfl (Or.inl l9_41) rfl ?_
          refine gm_getR (o := 41) (ci := 7) (k := 0) (r := 42) (t := 42) l6_41 l9_41 s_41 gf_X7_7 rfl r_41_0 l9_42 dX7_wraps_39 rfl ?_
          refine g_sipush (t := 45) dX7_wraps_42 c_sipush_180 rfl ?_
          refine gm_iald_n (a := 42) (n := 184) (t := 46) l6_42 l9_42 s_42 dX7_wraps_45 (by omega) (by decide) rfl ?_
          rw [ewr]
          refine g_iconst (t := 47) dX7_wraps_46 c_iconst_1 rfl ?_
          refine g_icmp_ne (t1 := 81) (t2 := 50) dX7_wraps_47 (by decide) rfl (fun h47 => ?_) (fun h47 => ?_)
          · exact KO (fun z => h47 z.1)
          · refine g_iload_n (i := 2) (t := 51) dX7_wraps_50 rfl rfl rfl ?_
            refine g_iload_n (i := 1) (t := 52) dX7_wraps_51 rfl rfl rfl ?_
            refine g_icmp_le (t1 := 81) (t2 := 55) dX7_wraps_52 (by decide) rfl (fun h52 => ?_) (fun h52 => ?_)
            · exact KO (fun z => absurd z.2 (Int32.not_lt.mpr h52))
            · have e0 : lnS (sW s w) (p + 1) = _ := if_pos ⟨h47, Int32.not_le.mp h52⟩
              have e2 : lin (sW s w) (p + 1) = lin (sW s w) p + 1 := by unfold lin; rw [e0]
              exact TN e2.symm (by unfold lsm; rw [e0]) _
theorem x7_wraps {w : Int32} (hC : mC I s) (hn : s.1 ≤ 16) (hO : mO I (sC s) (sQ s).2.2.2) : gQV E fX7_wraps [.ref 41, .int w] I h (fun I' => gSame [41, 47, 48, 49] I I' ∧ (∀ j, j ≠ 13 → I' 41 j = I 41 j) ∧ mL I' (sW s w) (sC s)) := by
  refine gEv.of rfl (Nat.le_refl _) (Nat.le_of_ble_eq_true rfl) (L := [.ref 41, .int w, .null, .null]) rfl ?_
  refine g_aload_n (i := 0) (r := 41) (t := 1) dX7_wraps_0 rfl rfl (Or.inl l9_41) rfl ?_
  refine g_iconst (t := 2) dX7_wraps_1 c_iconst_0 rfl ?_
  refine gm_putI (o := 41) (ci := 7) (k := 13) (t := 5) l6_41 l9_41 s_41 gp_X7_182 rfl rfl rfl dX7_wraps_2 rfl ?_
  refine g_iconst (t := 6) dX7_wraps_5 c_iconst_0 rfl ?_
  refine g_istore_n (i := 2) (t := 7) (L1 := [_, _, _, _]) dX7_wraps_6 rfl (by decide) rfl rfl rfl ?_
  refine g_iconst (t := 8) dX7_wraps_7 c_iconst_0 rfl ?_
  refine g_istore_n (i := 3) (t := 9) (L1 := [_, _, _, _]) dX7_wraps_8 rfl (by decide) rfl rfl rfl ?_
  exact x7_wr_loop hn hC hO (sC s) 0 _ (Nat.zero_add _) (gSame.rf.up rfl) (fun j a => gup_k _ _ _ a) ⟨gup_self _ _ _ _, fun q hq => absurd hq (Nat.not_lt_zero _), fun l hl => absurd hl (Nat.not_lt_zero _)⟩
end X7J

