/-! one pass: the shares, and how far they were held -/
theorem gt_law {A : lA} {q : lZ} (h : aV A) (hz : zV A q) {i : Nat} (hi : i < A.2.2) : gtL A q (A.2.1 + i) = if ttL A q = 0 then nI 0 else shL A q * (smS (wgL A q) A.2.1 i + wgL A q (A.2.1 + i)) / ttL A q - shL A q * smS (wgL A q) A.2.1 i / ttL A q := by
  have a := pt_b (sh_b h hz) (ws_b (z := q) h (n := i + 1) (by omega)) (ws_b (z := q) h (Nat.le_refl _)) (ws_le h (show i + 1 ≤ A.2.2 by omega) (Nat.le_refl _))
  have b := pt_b (sh_b h hz) (ws_b (z := q) h (n := i) (by omega)) (ws_b (z := q) h (Nat.le_refl _)) (ws_le h (show i ≤ A.2.2 by omega) (Nat.le_refl _))
  have et : ttL A q = smS (wgL A q) A.2.1 A.2.2 := rfl
  unfold gtL
  rw [Nat.add_sub_cancel_left, et]
  by_cases t0 : smS (wgL A q) A.2.1 A.2.2 = 0
  · rw [a.2.2 t0, b.2.2 t0, if_pos t0]
    decide +kernel
  · rw [a.2.1 t0, b.2.1 t0, if_neg t0]
    rfl
/-- sizes held in the pass, up to a place; how far -/
def zG (J : Nat → Nat → Int32) (z w : Nat) (S : sT) (l : Nat) (q : lZ) (i : Nat) : Prop := (∀ j, j < (sA S l).2.2 → J z (fA S l j) = (if j < i ∧ q.1 ((sA S l).2.1 + j) = none then czL (sA S l) q ((sA S l).2.1 + j) else q.2 ((sA S l).2.1 + j)) ∧ J z (8 + fA S l j) = ovS (q.1 ((sA S l).2.1 + j))) ∧ ∀ j, j < i → q.1 ((sA S l).2.1 + j) = none → J w (8 + j) = crL (sA S l) q ((sA S l).2.1 + j)
theorem zG.of {J : Nat → Nat → Int32} {z w l : Nat} {S : sT} {q : lZ} (h : zS J z S l q (sA S l).2.2) : zG J z w S l q 0 := ⟨fun j hj => by
  rw [if_neg (fun y => absurd y.1 (Nat.not_lt_zero _))]
  exact h j hj, fun j hj => absurd hj (Nat.not_lt_zero _)⟩
def wrF (S : sT) (l : Nat) (q : lZ) (p : Nat) : Int32 := if q.1 p = none then crL (sA S l) q p else nI 0
section SHR4
variable {E : gE} {I : Nat → Nat → Int32} {h : gX} {S : sT} {K : gK} {nE z w l : Nat} {u5 u6 u7 u9 u10 u11 u12 u13 u14 u15 u16 u17 u18 u19 u20 u21 u22 u23 : Value}
theorem sh_g {g : Bool} {q : lZ} (hzw : zwX h z w) (hg : grL (sA S l) = g) (hA : aV (sA S l)) (hzV : zV (sA S l) q) (hq : ∀ p t, q.1 p = some t → t ≤ 16) (kk : ∀ (J : Nat → Nat → Int32) (u16 u18 u19 u20 u21 u22 u23 : Value), gSame [z, w] I J → shB J S l w → zG J z w S l q (sA S l).2.2 → Wp E fL_shares nE 670 [.ref 41, .ref 42, .ref 43, .ref z, .int (nI l), .int (nI (sA S l).2.2), u6, u7, .ref w, u9, .int (bI g), u11, u12, u13, .int (ttL (sA S l) q), .int (shL (sA S l) q), u16, .int (wrL (sA S l) q), u18, u19, u20, u21, u22, u23] [] (gM J h) K) : ∀ (d i : Nat) (J : Nat → Nat → Int32) (u19 u20 u21 u22 u23 : Value), i + d = (sA S l).2.2 → gSame [z, w] I J → shB J S l w → zG J z w S l q i → Wp E fL_shares nE 420 [.ref 41, .ref 42, .ref 43, .ref z, .int (nI l), .int (nI (sA S l).2.2), u6, u7, .ref w, u9, .int (bI g), u11, u12, u13, .int (ttL (sA S l) q), .int (shL (sA S l) q), .int (smS (wgL (sA S l) q) (sA S l).2.1 i), .int (smS (wrF S l q) (sA S l).2.1 i), .int (nI i), u19, u20, u21, u22, u23] [] (gM J h) K := by
  obtain ⟨⟨l6_z, l9_z, s_z⟩, ⟨l6_w, l9_w, s_w⟩, hne, hz4, hw4⟩ := id hzw
  have hsl := sA_le S l
  have hc5 : sC S.1 ≤ S.1.1 := ordS_le S.1.2.1 S.1.1
  intro d
  induction d with
  | zero =>
    intro i J u19 u20 u21 u22 u23 hi hs hB hG
    have b1 := hB.1
    have hi : i = (sA S l).2.2 := by omega
    subst hi
    refine g_iload (i := 18) (t := 422) dL_shares_420 rfl rfl ?_
    refine g_iload (i := 5) (t := 424) dL_shares_422 rfl rfl ?_
    refine g_icmp_ge_n (t1 := 670) (t2 := 427) dL_shares_424 (by decide) rfl (by omega) (by omega) (fun h424 => ?_) (fun h424 => ?_)
    · exact kk J _ _ _ _ _ _ _ hs hB hG
    · exfalso; omega
  | succ d ih =>
    intro i J u19 u20 u21 u22 u23 hi hs hB hG
    obtain ⟨b1, b2, b3, b4⟩ := id hB
    have hf : fA S l i < S.1.1 := fA_lt (show i < (sA S l).2.2 by omega)
    have e0 : J 41 (12 * fA S l i) = S.1.2.1 (fA S l i) 0 := b2 _ 0 hf (by decide)
    have e1 := b2 _ 1 hf (by decide)
    have e2 := b2 _ 2 hf (by decide)
    have e3 := b2 _ 3 hf (by decide)
    have e4 := b2 _ 4 hf (by decide)
    obtain ⟨g1, g2⟩ := id hG
    obtain ⟨z1, z2⟩ := g1 i (by omega)
    have T664 : ∀ (J2 : Nat → Nat → Int32) (x y : Int32) (u19 u20 u21 u22 u23 : Value), x = smS (wgL (sA S l) q) (sA S l).2.1 (i + 1) → y = smS (wrF S l q) (sA S l).2.1 (i + 1) → gSame [z, w] I J2 → shB J2 S l w → zG J2 z w S l q (i + 1) → Wp E fL_shares nE 664 [.ref 41, .ref 42, .ref 43, .ref z, .int (nI l), .int (nI (sA S l).2.2), u6, u7, .ref w, u9, .int (bI g), u11, u12, u13, .int (ttL (sA S l) q), .int (shL (sA S l) q), .int x, .int y, .int (nI i), u19, u20, u21, u22, u23] [] (gM J2 h) K := by
      intro J2 x y u19 u20 u21 u22 u23 hx hy hs2 hB2 hG2
      subst hx
      subst hy
      refine g_iinc (i := 18) (t := 667) (L1 := [_, _, _, _, _, _, _, _, _, _, _, _, _, _, _, _, _, _, _, _, _, _, _, _]) dL_shares_664 rfl (gi_1 _) (by decide) rfl rfl rfl ?_
      refine g_goto (t := 420) dL_shares_667 (by decide) ?_
      exact ih (i + 1) J2 _ _ _ _ _ (by omega) hs2 hB2 hG2
    rcases ovS_c hq ((sA S l).2.1 + i) with ⟨o1, o2⟩ | ⟨o1, t, o2, o3⟩
    · rw [o2] at z2
      have ewg : wgL (sA S l) q ((sA S l).2.1 + i) = wgt S.1.2.1 g (fA S l i) := by
        unfold wgL
        rw [if_pos o1, hg]
        rfl
      have egt := gt_law hA hzV (show i < (sA S l).2.2 by omega)
      have enz : nzL (sA S l) q ((sA S l).2.1 + i) = S.1.2.1 (fA S l i) 0 + (if g then gtL (sA S l) q ((sA S l).2.1 + i) else -gtL (sA S l) q ((sA S l).2.1 + i)) := by
        unfold nzL
        rw [hg]
        rfl
      have ecz : czL (sA S l) q ((sA S l).2.1 + i) = mn (mx (nzL (sA S l) q ((sA S l).2.1 + i)) (S.1.2.1 (fA S l i) 3)) (mx (S.1.2.1 (fA S l i) 3) (S.1.2.1 (fA S l i) 4)) := rfl
      have T635 : ∀ (v : Int32) (u20 u21 u23 : Value), v = czL (sA S l) q ((sA S l).2.1 + i) → Wp E fL_shares nE 635 [.ref 41, .ref 42, .ref 43, .ref z, .int (nI l), .int (nI (sA S l).2.2), u6, u7, .ref w, u9, .int (bI g), u11, u12, u13, .int (ttL (sA S l) q), .int (shL (sA S l) q), .int (smS (wgL (sA S l) q) (sA S l).2.1 i + wgL (sA S l) q ((sA S l).2.1 + i)), .int (smS (wrF S l q) (sA S l).2.1 i), .int (nI i), .int (nI (fA S l i)), u20, u21, .int (nzL (sA S l) q ((sA S l).2.1 + i)), u23] [.int v, .int (nI (fA S l i)), .ref z] (gM J h) K := by
        intro v u20 u21 u23 hv
        subst hv
        refine gm_iast_x (a := z) (n := 48) (t := 636) l6_z l9_z s_z dL_shares_635 rfl (by omega) (by decide) rfl ?_
        refine g_aload (i := 8) (r := w) (t := 638) dL_shares_636 rfl (Or.inl l9_w) rfl ?_
        refine g_bipush (t := 640) dL_shares_638 c_bipush_8 rfl ?_
        refine g_iload (i := 18) (t := 642) dL_shares_640 rfl rfl ?_
        refine g_iadd (t := 643) dL_shares_642 rfl ?_
        refine g_aload_n (i := 3) (r := z) (t := 644) dL_shares_643 rfl rfl (Or.inl l9_z) rfl ?_
        refine g_iload (i := 19) (t := 646) dL_shares_644 rfl rfl ?_
        refine gm_iald_x (a := z) (n := 48) (t := 647) l6_z l9_z s_z dL_shares_646 rfl (by omega) (by decide) rfl ?_
        rw [gup_self]
        refine g_iload (i := 22) (t := 649) dL_shares_647 rfl rfl ?_
        refine g_isub (t := 650) dL_shares_649 rfl ?_
        refine gm_iast_x (a := w) (n := 16) (t := 651) l6_w l9_w s_w dL_shares_650 (ix_a _ _) (by omega) (by decide) rfl ?_
        refine g_iload (i := 17) (t := 653) dL_shares_651 rfl rfl ?_
        refine g_aload (i := 8) (r := w) (t := 655) dL_shares_653 rfl (Or.inl l9_w) rfl ?_
        refine g_bipush (t := 657) dL_shares_655 c_bipush_8 rfl ?_
        refine g_iload (i := 18) (t := 659) dL_shares_657 rfl rfl ?_
        refine g_iadd (t := 660) dL_shares_659 rfl ?_
        refine gm_iald_x (a := w) (n := 16) (t := 661) l6_w l9_w s_w dL_shares_660 (ix_a _ _) (by omega) (by decide) rfl ?_
        rw [gup_self]
        refine g_iadd (t := 662) dL_shares_661 rfl ?_
        refine g_istore (i := 17) (t := 664) (L1 := [_, _, _, _, _, _, _, _, _, _, _, _, _, _, _, _, _, _, _, _, _, _, _, _]) dL_shares_662 (by decide) rfl rfl rfl ?_
        refine T664 _ _ _ _ _ _ _ _ rfl ?_ ((hs.up (by simp)).up (by simp)) ((hB.upz hz4 hne).upw hw4 (by omega)) ⟨fun j hj => ?_, fun j hj hjn => ?_⟩
        · show _ = smS (wrF S l q) (sA S l).2.1 i + wrF S l q ((sA S l).2.1 + i)
          unfold wrF
          rw [if_pos o1]
          rfl
        · have hfj : fA S l j < S.1.1 := fA_lt hj
          rw [gup_rowo _ _ _ hne, gup_at, gup_k _ _ _ (show 8 + fA S l j ≠ fA S l i by omega)]
          refine ⟨?_, (g1 j hj).2⟩
          by_cases y : j = i
          · subst y
            rw [if_pos rfl, if_pos ⟨by omega, o1⟩]
          · rw [if_neg (fun u => y (fA_inj hj (by omega) u)), (g1 j hj).1]
            by_cases u : j < i ∧ q.1 ((sA S l).2.1 + j) = none
            · rw [if_pos u, if_pos ⟨by omega, u.2⟩]
            · rw [if_neg u, if_neg (fun v => u ⟨by omega, v.2⟩)]
        · rw [gup_at]
          by_cases y : j = i
          · subst y
            rw [if_pos rfl]
            rfl
          · rw [if_neg (by omega), gup_rowo _ _ _ (show w ≠ z from fun u => hne u.symm)]
            exact g2 j (by omega) hjn
      have T590 : ∀ (v : Int32) (u20 u21 u23 : Value), v = mx (S.1.2.1 (fA S l i) 3) (S.1.2.1 (fA S l i) 4) → Wp E fL_shares nE 590 [.ref 41, .ref 42, .ref 43, .ref z, .int (nI l), .int (nI (sA S l).2.2), u6, u7, .ref w, u9, .int (bI g), u11, u12, u13, .int (ttL (sA S l) q), .int (shL (sA S l) q), .int (smS (wgL (sA S l) q) (sA S l).2.1 i + wgL (sA S l) q ((sA S l).2.1 + i)), .int (smS (wrF S l q) (sA S l).2.1 i), .int (nI i), .int (nI (fA S l i)), u20, u21, .int (nzL (sA S l) q ((sA S l).2.1 + i)), u23] [.int v] (gM J h) K := by
        intro v u20 u21 u23 hv
        refine g_istore (i := 23) (t := 592) (L1 := [_, _, _, _, _, _, _, _, _, _, _, _, _, _, _, _, _, _, _, _, _, _, _, _]) dL_shares_590 (by decide) rfl rfl rfl ?_
        refine g_aload_n (i := 3) (r := z) (t := 593) dL_shares_592 rfl rfl (Or.inl l9_z) rfl ?_
        refine g_iload (i := 19) (t := 595) dL_shares_593 rfl rfl ?_
        refine g_iload (i := 22) (t := 597) dL_shares_595 rfl rfl ?_
        refine g_aload_n (i := 0) (r := 41) (t := 598) dL_shares_597 rfl rfl (Or.inl l9_41) rfl ?_
        refine g_bipush (t := 600) dL_shares_598 c_bipush_12 rfl ?_
        refine g_iload (i := 19) (t := 602) dL_shares_600 rfl rfl ?_
        refine g_imul (t := 603) dL_shares_602 rfl ?_
        refine g_iconst (t := 604) dL_shares_603 c_iconst_3 rfl ?_
        refine g_iadd (t := 605) dL_shares_604 rfl ?_
        refine gm_iald_x (a := 41) (n := 64) (t := 606) l6_41 l9_41 s_41 dL_shares_605 (ix_ma _ _ _) (by omega) (by decide) rfl ?_
        rw [e3]
        refine g_icmp_ge (t1 := 621) (t2 := 609) dL_shares_606 (by decide) rfl (fun h606 => ?_) (fun h606 => ?_)
        · refine g_iload (i := 22) (t := 623) dL_shares_621 rfl rfl ?_
          refine g_iload (i := 23) (t := 625) dL_shares_623 rfl rfl ?_
          refine g_icmp_le (t1 := 633) (t2 := 628) dL_shares_625 (by decide) rfl (fun h625 => ?_) (fun h625 => ?_)
          · refine g_iload (i := 22) (t := 635) dL_shares_633 rfl rfl ?_
            refine T635 _ _ _ _ ?_
            rw [ecz, t_eq, mn_toInt, mx_toInt]
            rw [t_eq] at hv
            (try rw [t_le] at h606)
            (try rw [t_le] at h625)
            rw [mx_toInt] at hv ⊢
            omega
          · refine g_iload (i := 23) (t := 630) dL_shares_628 rfl rfl ?_
            refine g_goto (t := 635) dL_shares_630 (by decide) ?_
            refine T635 _ _ _ _ ?_
            rw [ecz, t_eq, mn_toInt, mx_toInt]
            rw [t_eq] at hv
            (try rw [t_le] at h606)
            (try rw [t_le] at h625)
            rw [mx_toInt] at hv ⊢
            omega
        · refine g_aload_n (i := 0) (r := 41) (t := 610) dL_shares_609 rfl rfl (Or.inl l9_41) rfl ?_
          refine g_bipush (t := 612) dL_shares_610 c_bipush_12 rfl ?_
          refine g_iload (i := 19) (t := 614) dL_shares_612 rfl rfl ?_
          refine g_imul (t := 615) dL_shares_614 rfl ?_
          refine g_iconst (t := 616) dL_shares_615 c_iconst_3 rfl ?_
          refine g_iadd (t := 617) dL_shares_616 rfl ?_
          refine gm_iald_x (a := 41) (n := 64) (t := 618) l6_41 l9_41 s_41 dL_shares_617 (ix_ma _ _ _) (by omega) (by decide) rfl ?_
          rw [e3]
          refine g_goto (t := 635) dL_shares_618 (by decide) ?_
          refine T635 _ _ _ _ ?_
          rw [ecz, t_eq, mn_toInt, mx_toInt]
          rw [t_eq] at hv
          (try rw [t_le] at h606)
          (try rw [t_le] at h625)
          rw [mx_toInt] at hv ⊢
          omega
      have T546 : ∀ (v p21 : Int32) (u20 u22 u23 : Value), v = nzL (sA S l) q ((sA S l).2.1 + i) → Wp E fL_shares nE 546 [.ref 41, .ref 42, .ref 43, .ref z, .int (nI l), .int (nI (sA S l).2.2), u6, u7, .ref w, u9, .int (bI g), u11, u12, u13, .int (ttL (sA S l) q), .int (shL (sA S l) q), .int (smS (wgL (sA S l) q) (sA S l).2.1 i + wgL (sA S l) q ((sA S l).2.1 + i)), .int (smS (wrF S l q) (sA S l).2.1 i), .int (nI i), .int (nI (fA S l i)), u20, .int p21, u22, u23] [.int v] (gM J h) K := by
        intro v p21 u20 u22 u23 hv
        subst hv
        refine g_istore (i := 22) (t := 548) (L1 := [_, _, _, _, _, _, _, _, _, _, _, _, _, _, _, _, _, _, _, _, _, _, _, _]) dL_shares_546 (by decide) rfl rfl rfl ?_
        refine g_aload_n (i := 0) (r := 41) (t := 549) dL_shares_548 rfl rfl (Or.inl l9_41) rfl ?_
        refine g_bipush (t := 551) dL_shares_549 c_bipush_12 rfl ?_
        refine g_iload (i := 19) (t := 553) dL_shares_551 rfl rfl ?_
        refine g_imul (t := 554) dL_shares_553 rfl ?_
        refine g_iconst (t := 555) dL_shares_554 c_iconst_4 rfl ?_
        refine g_iadd (t := 556) dL_shares_555 rfl ?_
        refine gm_iald_x (a := 41) (n := 64) (t := 557) l6_41 l9_41 s_41 dL_shares_556 (ix_ma _ _ _) (by omega) (by decide) rfl ?_
        rw [e4]
        refine g_aload_n (i := 0) (r := 41) (t := 558) dL_shares_557 rfl rfl (Or.inl l9_41) rfl ?_
        refine g_bipush (t := 560) dL_shares_558 c_bipush_12 rfl ?_
        refine g_iload (i := 19) (t := 562) dL_shares_560 rfl rfl ?_
        refine g_imul (t := 563) dL_shares_562 rfl ?_
        refine g_iconst (t := 564) dL_shares_563 c_iconst_3 rfl ?_
        refine g_iadd (t := 565) dL_shares_564 rfl ?_
        refine gm_iald_x (a := 41) (n := 64) (t := 566) l6_41 l9_41 s_41 dL_shares_565 (ix_ma _ _ _) (by omega) (by decide) rfl ?_
        rw [e3]
        refine g_icmp_ge (t1 := 581) (t2 := 569) dL_shares_566 (by decide) rfl (fun h566 => ?_) (fun h566 => ?_)
        · refine g_aload_n (i := 0) (r := 41) (t := 582) dL_shares_581 rfl rfl (Or.inl l9_41) rfl ?_
          refine g_bipush (t := 584) dL_shares_582 c_bipush_12 rfl ?_
          refine g_iload (i := 19) (t := 586) dL_shares_584 rfl rfl ?_
          refine g_imul (t := 587) dL_shares_586 rfl ?_
          refine g_iconst (t := 588) dL_shares_587 c_iconst_4 rfl ?_
          refine g_iadd (t := 589) dL_shares_588 rfl ?_
          refine gm_iald_x (a := 41) (n := 64) (t := 590) l6_41 l9_41 s_41 dL_shares_589 (ix_ma _ _ _) (by omega) (by decide) rfl ?_
          refine T590 _ _ _ _ ?_
          (try rw [e4])
          rw [t_eq, mx_toInt]
          rw [t_le] at h566
          omega
        · refine g_aload_n (i := 0) (r := 41) (t := 570) dL_shares_569 rfl rfl (Or.inl l9_41) rfl ?_
          refine g_bipush (t := 572) dL_shares_570 c_bipush_12 rfl ?_
          refine g_iload (i := 19) (t := 574) dL_shares_572 rfl rfl ?_
          refine g_imul (t := 575) dL_shares_574 rfl ?_
          refine g_iconst (t := 576) dL_shares_575 c_iconst_3 rfl ?_
          refine g_iadd (t := 577) dL_shares_576 rfl ?_
          refine gm_iald_x (a := 41) (n := 64) (t := 578) l6_41 l9_41 s_41 dL_shares_577 (ix_ma _ _ _) (by omega) (by decide) rfl ?_
          rw [e3]
          refine g_goto (t := 590) dL_shares_578 (by decide) ?_
          refine T590 _ _ _ _ ?_
          (try rw [e4])
          rw [t_eq, mx_toInt]
          rw [t_le] at h566
          omega
      have T509 : ∀ (v : Int32) (u21 u22 u23 : Value), v = gtL (sA S l) q ((sA S l).2.1 + i) → Wp E fL_shares nE 509 [.ref 41, .ref 42, .ref 43, .ref z, .int (nI l), .int (nI (sA S l).2.2), u6, u7, .ref w, u9, .int (bI g), u11, u12, u13, .int (ttL (sA S l) q), .int (shL (sA S l) q), .int (smS (wgL (sA S l) q) (sA S l).2.1 i), .int (smS (wrF S l q) (sA S l).2.1 i), .int (nI i), .int (nI (fA S l i)), .int (wgL (sA S l) q ((sA S l).2.1 + i)), u21, u22, u23] [.int v] (gM J h) K := by
        intro v u21 u22 u23 hv
        subst hv
        refine g_istore (i := 21) (t := 511) (L1 := [_, _, _, _, _, _, _, _, _, _, _, _, _, _, _, _, _, _, _, _, _, _, _, _]) dL_shares_509 (by decide) rfl rfl rfl ?_
        refine g_iload (i := 16) (t := 513) dL_shares_511 rfl rfl ?_
        refine g_iload (i := 20) (t := 515) dL_shares_513 rfl rfl ?_
        refine g_iadd (t := 516) dL_shares_515 rfl ?_
        refine g_istore (i := 16) (t := 518) (L1 := [_, _, _, _, _, _, _, _, _, _, _, _, _, _, _, _, _, _, _, _, _, _, _, _]) dL_shares_516 (by decide) rfl rfl rfl ?_
        refine g_iload (i := 10) (t := 520) dL_shares_518 rfl rfl ?_
        refine g_if_eq (t1 := 536) (t2 := 523) dL_shares_520 (by decide) rfl (fun h520 => ?_) (fun h520 => ?_)
        · refine g_aload_n (i := 0) (r := 41) (t := 537) dL_shares_536 rfl rfl (Or.inl l9_41) rfl ?_
          refine g_bipush (t := 539) dL_shares_537 c_bipush_12 rfl ?_
          refine g_iload (i := 19) (t := 541) dL_shares_539 rfl rfl ?_
          refine g_imul (t := 542) dL_shares_541 rfl ?_
          refine gm_iald_x (a := 41) (n := 64) (t := 543) l6_41 l9_41 s_41 dL_shares_542 (ix_m _ _) (by omega) (by decide) rfl ?_
          rw [e0]
          refine g_iload (i := 21) (t := 545) dL_shares_543 rfl rfl ?_
          refine g_isub (t := 546) dL_shares_545 rfl ?_
          first
          | exact T546 _ _ _ _ _ (by rw [enz, bI_n0 h520, if_pos rfl])
          | exact T546 _ _ _ _ _ (by rw [enz, bI_0 h520, if_neg (show ¬ false = true by decide), Int32.sub_eq_add_neg])
          | done
        · refine g_aload_n (i := 0) (r := 41) (t := 524) dL_shares_523 rfl rfl (Or.inl l9_41) rfl ?_
          refine g_bipush (t := 526) dL_shares_524 c_bipush_12 rfl ?_
          refine g_iload (i := 19) (t := 528) dL_shares_526 rfl rfl ?_
          refine g_imul (t := 529) dL_shares_528 rfl ?_
          refine gm_iald_x (a := 41) (n := 64) (t := 530) l6_41 l9_41 s_41 dL_shares_529 (ix_m _ _) (by omega) (by decide) rfl ?_
          rw [e0]
          refine g_iload (i := 21) (t := 532) dL_shares_530 rfl rfl ?_
          refine g_iadd (t := 533) dL_shares_532 rfl ?_
          refine g_goto (t := 546) dL_shares_533 (by decide) ?_
          first
          | exact T546 _ _ _ _ _ (by rw [enz, bI_n0 h520, if_pos rfl])
          | exact T546 _ _ _ _ _ (by rw [enz, bI_0 h520, if_neg (show ¬ false = true by decide), Int32.sub_eq_add_neg])
          | done
      have T478 : ∀ (v : Int32) (u20 u21 u22 u23 : Value), v = wgL (sA S l) q ((sA S l).2.1 + i) → Wp E fL_shares nE 478 [.ref 41, .ref 42, .ref 43, .ref z, .int (nI l), .int (nI (sA S l).2.2), u6, u7, .ref w, u9, .int (bI g), u11, u12, u13, .int (ttL (sA S l) q), .int (shL (sA S l) q), .int (smS (wgL (sA S l) q) (sA S l).2.1 i), .int (smS (wrF S l q) (sA S l).2.1 i), .int (nI i), .int (nI (fA S l i)), u20, u21, u22, u23] [.int v] (gM J h) K := by
        intro v u20 u21 u22 u23 hv
        subst hv
        refine g_istore (i := 20) (t := 480) (L1 := [_, _, _, _, _, _, _, _, _, _, _, _, _, _, _, _, _, _, _, _, _, _, _, _]) dL_shares_478 (by decide) rfl rfl rfl ?_
        refine g_iload (i := 14) (t := 482) dL_shares_480 rfl rfl ?_
        refine g_if_ne (t1 := 489) (t2 := 485) dL_shares_482 (by decide) rfl (fun h482 => ?_) (fun h482 => ?_)
        · refine g_iload (i := 15) (t := 491) dL_shares_489 rfl rfl ?_
          refine g_iload (i := 16) (t := 493) dL_shares_491 rfl rfl ?_
          refine g_iload (i := 20) (t := 495) dL_shares_493 rfl rfl ?_
          refine g_iadd (t := 496) dL_shares_495 rfl ?_
          refine g_imul (t := 497) dL_shares_496 rfl ?_
          refine g_iload (i := 14) (t := 499) dL_shares_497 rfl rfl ?_
          refine g_idiv (t := 500) dL_shares_499 (by first | assumption | decide) rfl ?_
          refine g_iload (i := 15) (t := 502) dL_shares_500 rfl rfl ?_
          refine g_iload (i := 16) (t := 504) dL_shares_502 rfl rfl ?_
          refine g_imul (t := 505) dL_shares_504 rfl ?_
          refine g_iload (i := 14) (t := 507) dL_shares_505 rfl rfl ?_
          refine g_idiv (t := 508) dL_shares_507 (by first | assumption | decide) rfl ?_
          refine g_isub (t := 509) dL_shares_508 rfl ?_
          first
          | exact T509 _ _ _ _ (by rw [egt, if_neg h482])
          | exact T509 _ _ _ _ (by rw [egt, if_pos h482])
          | done
        · refine g_iconst (t := 486) dL_shares_485 c_iconst_0 rfl ?_
          refine g_goto (t := 509) dL_shares_486 (by decide) ?_
          first
          | exact T509 _ _ _ _ (by rw [egt, if_neg h482])
          | exact T509 _ _ _ _ (by rw [egt, if_pos h482])
          | done
      refine g_iload (i := 18) (t := 422) dL_shares_420 rfl rfl ?_
      refine g_iload (i := 5) (t := 424) dL_shares_422 rfl rfl ?_
      refine g_icmp_ge_n (t1 := 670) (t2 := 427) dL_shares_424 (by decide) rfl (by omega) (by omega) (fun h424 => ?_) (fun h424 => ?_)
      · exfalso; omega
      · refine g_aload (i := 8) (r := w) (t := 429) dL_shares_427 rfl (Or.inl l9_w) rfl ?_
        refine g_iload (i := 18) (t := 431) dL_shares_429 rfl rfl ?_
        refine gm_iald_x (a := w) (n := 16) (t := 432) l6_w l9_w s_w dL_shares_431 rfl (by omega) (by decide) rfl ?_
        rw [b4 i (by omega)]
        refine g_istore (i := 19) (t := 434) (L1 := [_, _, _, _, _, _, _, _, _, _, _, _, _, _, _, _, _, _, _, _, _, _, _, _]) dL_shares_432 (by decide) rfl rfl rfl ?_
        refine g_aload_n (i := 3) (r := z) (t := 435) dL_shares_434 rfl rfl (Or.inl l9_z) rfl ?_
        refine g_bipush (t := 437) dL_shares_435 c_bipush_8 rfl ?_
        refine g_iload (i := 19) (t := 439) dL_shares_437 rfl rfl ?_
        refine g_iadd (t := 440) dL_shares_439 rfl ?_
        refine gm_iald_x (a := z) (n := 48) (t := 441) l6_z l9_z s_z dL_shares_440 (ix_a _ _) (by omega) (by decide) rfl ?_
        rw [z2]
        refine g_if_ge (t1 := 664) (t2 := 444) dL_shares_441 (by decide) rfl (fun h441 => ?_) (fun h441 => ?_)
        · exact absurd h441 neg1_ge
        · refine g_iload (i := 10) (t := 446) dL_shares_444 rfl rfl ?_
          refine g_if_eq (t1 := 461) (t2 := 449) dL_shares_446 (by decide) rfl (fun h446 => ?_) (fun h446 => ?_)
          · refine g_aload_n (i := 0) (r := 41) (t := 462) dL_shares_461 rfl rfl (Or.inl l9_41) rfl ?_
            refine g_bipush (t := 464) dL_shares_462 c_bipush_12 rfl ?_
            refine g_iload (i := 19) (t := 466) dL_shares_464 rfl rfl ?_
            refine g_imul (t := 467) dL_shares_466 rfl ?_
            refine g_iconst (t := 468) dL_shares_467 c_iconst_2 rfl ?_
            refine g_iadd (t := 469) dL_shares_468 rfl ?_
            refine gm_iald_x (a := 41) (n := 64) (t := 470) l6_41 l9_41 s_41 dL_shares_469 (ix_ma _ _ _) (by omega) (by decide) rfl ?_
            rw [e2]
            refine g_aload_n (i := 0) (r := 41) (t := 471) dL_shares_470 rfl rfl (Or.inl l9_41) rfl ?_
            refine g_bipush (t := 473) dL_shares_471 c_bipush_12 rfl ?_
            refine g_iload (i := 19) (t := 475) dL_shares_473 rfl rfl ?_
            refine g_imul (t := 476) dL_shares_475 rfl ?_
            refine gm_iald_x (a := 41) (n := 64) (t := 477) l6_41 l9_41 s_41 dL_shares_476 (ix_m _ _) (by omega) (by decide) rfl ?_
            rw [e0]
            refine g_imul (t := 478) dL_shares_477 rfl ?_
            first
            | exact T478 _ _ _ _ _ (by rw [ewg, bI_n0 h446]; rfl)
            | exact T478 _ _ _ _ _ (by rw [ewg, bI_0 h446]; rfl)
            | done
          · refine g_aload_n (i := 0) (r := 41) (t := 450) dL_shares_449 rfl rfl (Or.inl l9_41) rfl ?_
            refine g_bipush (t := 452) dL_shares_450 c_bipush_12 rfl ?_
            refine g_iload (i := 19) (t := 454) dL_shares_452 rfl rfl ?_
            refine g_imul (t := 455) dL_shares_454 rfl ?_
            refine g_iconst (t := 456) dL_shares_455 c_iconst_1 rfl ?_
            refine g_iadd (t := 457) dL_shares_456 rfl ?_
            refine gm_iald_x (a := 41) (n := 64) (t := 458) l6_41 l9_41 s_41 dL_shares_457 (ix_ma _ _ _) (by omega) (by decide) rfl ?_
            rw [e1]
            refine g_goto (t := 478) dL_shares_458 (by decide) ?_
            first
            | exact T478 _ _ _ _ _ (by rw [ewg, bI_n0 h446]; rfl)
            | exact T478 _ _ _ _ _ (by rw [ewg, bI_0 h446]; rfl)
            | done
    · rw [o3] at z2
      refine g_iload (i := 18) (t := 422) dL_shares_420 rfl rfl ?_
      refine g_iload (i := 5) (t := 424) dL_shares_422 rfl rfl ?_
      refine g_icmp_ge_n (t1 := 670) (t2 := 427) dL_shares_424 (by decide) rfl (by omega) (by omega) (fun h424 => ?_) (fun h424 => ?_)
      · exfalso; omega
      · refine g_aload (i := 8) (r := w) (t := 429) dL_shares_427 rfl (Or.inl l9_w) rfl ?_
        refine g_iload (i := 18) (t := 431) dL_shares_429 rfl rfl ?_
        refine gm_iald_x (a := w) (n := 16) (t := 432) l6_w l9_w s_w dL_shares_431 rfl (by omega) (by decide) rfl ?_
        rw [b4 i (by omega)]
        refine g_istore (i := 19) (t := 434) (L1 := [_, _, _, _, _, _, _, _, _, _, _, _, _, _, _, _, _, _, _, _, _, _, _, _]) dL_shares_432 (by decide) rfl rfl rfl ?_
        refine g_aload_n (i := 3) (r := z) (t := 435) dL_shares_434 rfl rfl (Or.inl l9_z) rfl ?_
        refine g_bipush (t := 437) dL_shares_435 c_bipush_8 rfl ?_
        refine g_iload (i := 19) (t := 439) dL_shares_437 rfl rfl ?_
        refine g_iadd (t := 440) dL_shares_439 rfl ?_
        refine gm_iald_x (a := z) (n := 48) (t := 441) l6_z l9_z s_z dL_shares_440 (ix_a _ _) (by omega) (by decide) rfl ?_
        rw [z2]
        refine g_if_ge (t1 := 664) (t2 := 444) dL_shares_441 (by decide) rfl (fun h441 => ?_) (fun h441 => ?_)
        · refine T664 _ _ _ _ _ _ _ _ ?_ ?_ hs hB ⟨fun j hj => ?_, fun j hj hjn => ?_⟩
          · show _ = smS (wgL (sA S l) q) (sA S l).2.1 i + wgL (sA S l) q ((sA S l).2.1 + i)
            rw [show wgL (sA S l) q ((sA S l).2.1 + i) = nI 0 by unfold wgL; rw [if_neg o1], nI_0, Int32.add_zero]
          · show _ = smS (wrF S l q) (sA S l).2.1 i + wrF S l q ((sA S l).2.1 + i)
            rw [show wrF S l q ((sA S l).2.1 + i) = nI 0 by unfold wrF; rw [if_neg o1], nI_0, Int32.add_zero]
          · refine ⟨?_, (g1 j hj).2⟩
            rw [(g1 j hj).1]
            by_cases u : j < i ∧ q.1 ((sA S l).2.1 + j) = none
            · rw [if_pos u, if_pos ⟨by omega, u.2⟩]
            · rw [if_neg u, if_neg (fun v => by
                by_cases y : j = i
                · rw [y] at v; exact o1 v.2
                · exact u ⟨by omega, v.2⟩)]
          · by_cases y : j = i
            · rw [y] at hjn; exact absurd hjn o1
            · exact g2 j (by omega) hjn
        · exact absurd (nI_ge0 (by omega)) h441
end SHR4

