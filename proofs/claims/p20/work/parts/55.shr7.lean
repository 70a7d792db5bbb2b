/-! the law's sharing, whole -/
section SHR7
variable {E : gE} {I : Nat → Nat → Int32} {h : gX} {S : sT} {K : gK} {nE z w l : Nat} {u5 u6 u7 u9 u10 u11 u12 u13 u14 u15 u16 u17 u18 u19 u20 u21 u22 u23 : Value}
theorem sh_fl {g : Bool} {R p12 : Int32} {q : lZ} (hzw : zwX h z w) (hl : l < 8) (kk : ∀ (J : Nat → Nat → Int32), gSame [z, w] I J → shB J S l w → zS J z S l q (sA S l).2.2 → J z (24 + l) = sbS R (fun p => q.2 p) (sA S l).2.1 (sA S l).2.2 → Wp E fL_shares nE 806 [.ref 41, .ref 42, .ref 43, .ref z, .int (nI l), .int (nI (sA S l).2.2), u6, u7, .ref w, u9, .int (bI g), u11, .int p12, .int (nI (sA S l).2.2), u14, u15, u16, u17, u18, u19, u20, u21, u22, u23] [] (gM J h) K) : ∀ (d i : Nat) (J : Nat → Nat → Int32), i + d = (sA S l).2.2 → gSame [z, w] I J → shB J S l w → zS J z S l q (sA S l).2.2 → J z (24 + l) = sbS R (fun p => q.2 p) (sA S l).2.1 i → Wp E fL_shares nE 776 [.ref 41, .ref 42, .ref 43, .ref z, .int (nI l), .int (nI (sA S l).2.2), u6, u7, .ref w, u9, .int (bI g), u11, .int p12, .int (nI i), u14, u15, u16, u17, u18, u19, u20, u21, u22, u23] [] (gM J h) K := by
  obtain ⟨⟨l6_z, l9_z, s_z⟩, ⟨l6_w, l9_w, s_w⟩, hne, hz4, hw4⟩ := id hzw
  have hsl := sA_le S l
  have hc5 : sC S.1 ≤ S.1.1 := ordS_le S.1.2.1 S.1.1
  intro d
  induction d with
  | zero =>
    intro i J hi hs hB hZ hr
    have b1 := hB.1
    have hi : i = (sA S l).2.2 := by omega
    subst hi
    refine g_iload (i := 13) (t := 778) dL_shares_776 rfl rfl ?_
    refine g_iload (i := 5) (t := 780) dL_shares_778 rfl rfl ?_
    refine g_icmp_ge_n (t1 := 806) (t2 := 783) dL_shares_780 (by decide) rfl (by omega) (by omega) (fun h780 => ?_) (fun h780 => ?_)
    · exact kk J hs hB hZ hr
    · exfalso; omega
  | succ d ih =>
    intro i J hi hs hB hZ hr
    obtain ⟨b1, b2, b3, b4⟩ := id hB
    have hf : fA S l i < S.1.1 := fA_lt (show i < (sA S l).2.2 by omega)
    obtain ⟨z1, z2⟩ := hZ i (by omega)
    refine g_iload (i := 13) (t := 778) dL_shares_776 rfl rfl ?_
    refine g_iload (i := 5) (t := 780) dL_shares_778 rfl rfl ?_
    refine g_icmp_ge_n (t1 := 806) (t2 := 783) dL_shares_780 (by decide) rfl (by omega) (by omega) (fun h780 => ?_) (fun h780 => ?_)
    · exfalso; omega
    · refine g_aload_n (i := 3) (r := z) (t := 784) dL_shares_783 rfl rfl (Or.inl l9_z) rfl ?_
      refine g_bipush (t := 786) dL_shares_784 c_bipush_24 rfl ?_
      refine g_iload (i := 4) (t := 788) dL_shares_786 rfl rfl ?_
      refine g_iadd (t := 789) dL_shares_788 rfl ?_
      refine g_dup2 (t := 790) dL_shares_789 rfl rfl rfl ?_
      refine gm_iald_x (a := z) (n := 48) (t := 791) l6_z l9_z s_z dL_shares_790 (ix_a _ _) (by omega) (by decide) rfl ?_
      rw [hr]
      refine g_aload_n (i := 3) (r := z) (t := 792) dL_shares_791 rfl rfl (Or.inl l9_z) rfl ?_
      refine g_aload (i := 8) (r := w) (t := 794) dL_shares_792 rfl (Or.inl l9_w) rfl ?_
      refine g_iload (i := 13) (t := 796) dL_shares_794 rfl rfl ?_
      refine gm_iald_x (a := w) (n := 16) (t := 797) l6_w l9_w s_w dL_shares_796 rfl (by omega) (by decide) rfl ?_
      rw [b4 i (by omega)]
      refine gm_iald_x (a := z) (n := 48) (t := 798) l6_z l9_z s_z dL_shares_797 rfl (by omega) (by decide) rfl ?_
      rw [z1]
      refine g_isub (t := 799) dL_shares_798 rfl ?_
      refine gm_iast_x (a := z) (n := 48) (t := 800) l6_z l9_z s_z dL_shares_799 (ix_a _ _) (by omega) (by decide) rfl ?_
      refine g_iinc (i := 13) (t := 803) (L1 := [_, _, _, _, _, _, _, _, _, _, _, _, _, _, _, _, _, _, _, _, _, _, _, _]) dL_shares_800 rfl (gi_1 _) (by decide) rfl rfl rfl ?_
      refine g_goto (t := 776) dL_shares_803 (by decide) ?_
      exact ih (i + 1) _ (by omega) (hs.up (by simp)) (hB.upz hz4 hne) (hZ.far (Nat.le_refl _) b1 (fun x hx => gup_k _ _ _ (by omega))) (gup_self _ _ _ _)
theorem sh_end {g : Bool} {h0 : gX} (hzw : zwX h z w) (hn : gn h = gn h0 + 1) (hl : l < 8) (hg : grL (sA S l) = g) {J : Nat → Nat → Int32} {p11 : Int32} (hs : gSame [z, w] I J) (hB : shB J S l w) (hZ : zS J z S l (ztL (sA S l) (npL (sA S l))) (sA S l).2.2) : Wp E fL_shares (gn h0 + 1) 755 [.ref 41, .ref 42, .ref 43, .ref z, .int (nI l), .int (nI (sA S l).2.2), u6, u7, .ref w, .int (rmL (sA S l)), .int (bI g), .int p11, .int (nI (npL (sA S l))), u13, u14, u15, u16, u17, u18, u19, u20, u21, u22, u23] [] (gM J h) (gRet fL_shares (gn h0 + 1) (fun r σ' => ∃ (I' : Nat → Nat → Int32) (h' : gX), σ' = gM I' h' ∧ gn h' = gn h0 + 1 ∧ (r = none ∧ h' = h ∧ gSame [z, w] I I' ∧ shP I' z S l))) := by
  obtain ⟨⟨l6_z, l9_z, s_z⟩, ⟨l6_w, l9_w, s_w⟩, hne, hz4, hw4⟩ := id hzw
  have b1 := hB.1
  have T806 : ∀ (J : Nat → Nat → Int32), gSame [z, w] I J → shB J S l w → zS J z S l (ztL (sA S l) (npL (sA S l))) (sA S l).2.2 → J z (24 + l) = sbS (rmL (sA S l)) (fun p => (ztL (sA S l) (npL (sA S l))).2 p) (sA S l).2.1 (sA S l).2.2 → Wp E fL_shares (gn h0 + 1) 806 [.ref 41, .ref 42, .ref 43, .ref z, .int (nI l), .int (nI (sA S l).2.2), u6, u7, .ref w, .int (rmL (sA S l)), .int (bI g), .int p11, .int (nI (npL (sA S l))), .int (nI (sA S l).2.2), u14, u15, u16, u17, u18, u19, u20, u21, u22, u23] [] (gM J h) (gRet fL_shares (gn h0 + 1) (fun r σ' => ∃ (I' : Nat → Nat → Int32) (h' : gX), σ' = gM I' h' ∧ gn h' = gn h0 + 1 ∧ (r = none ∧ h' = h ∧ gSame [z, w] I I' ∧ shP I' z S l))) := by
    intro J hs hB hZ hr
    cases g with
    | true =>
      refine g_aload_n (i := 3) (r := z) (t := 807) dL_shares_806 rfl rfl (Or.inl l9_z) rfl ?_
      refine g_bipush (t := 809) dL_shares_807 c_bipush_32 rfl ?_
      refine g_iload (i := 4) (t := 811) dL_shares_809 rfl rfl ?_
      refine g_iadd (t := 812) dL_shares_811 rfl ?_
      refine g_iload (i := 10) (t := 814) dL_shares_812 rfl rfl ?_
      refine g_if_eq (t1 := 821) (t2 := 817) dL_shares_814 (by decide) rfl (fun h814 => ?_) (fun h814 => ?_)
      · exact absurd h814 (by decide)
      · refine g_iconst (t := 818) dL_shares_817 c_iconst_1 rfl ?_
        refine g_goto (t := 822) dL_shares_818 (by decide) ?_
        refine gm_iast_x (a := z) (n := 48) (t := 823) l6_z l9_z s_z dL_shares_822 (ix_a _ _) (by omega) (by decide) rfl ?_
        refine g_aload_n (i := 3) (r := z) (t := 824) dL_shares_823 rfl rfl (Or.inl l9_z) rfl ?_
        refine g_bipush (t := 826) dL_shares_824 c_bipush_40 rfl ?_
        refine g_iload (i := 4) (t := 828) dL_shares_826 rfl rfl ?_
        refine g_iadd (t := 829) dL_shares_828 rfl ?_
        refine g_iload (i := 12) (t := 831) dL_shares_829 rfl rfl ?_
        refine gm_iast_x (a := z) (n := 48) (t := 832) l6_z l9_z s_z dL_shares_831 (ix_a _ _) (by omega) (by decide) rfl ?_
        exact g_retN (P := fun r I' h' => r = none ∧ h' = h ∧ gSame [z, w] I I' ∧ shP I' z S l) dL_shares_832 rfl hn ⟨rfl, rfl, (hs.up (by simp)).up (by simp), (hZ.far (Nat.le_refl _) b1 (fun x hx => by rw [gup_k _ _ _ (by omega), gup_k _ _ _ (by omega)])), by rw [gup_k _ _ _ (by omega), gup_k _ _ _ (by omega)]; exact hr, by rw [gup_k _ _ _ (by omega), gup_self, hg]; rfl, gup_self _ _ _ _⟩
    | false =>
      refine g_aload_n (i := 3) (r := z) (t := 807) dL_shares_806 rfl rfl (Or.inl l9_z) rfl ?_
      refine g_bipush (t := 809) dL_shares_807 c_bipush_32 rfl ?_
      refine g_iload (i := 4) (t := 811) dL_shares_809 rfl rfl ?_
      refine g_iadd (t := 812) dL_shares_811 rfl ?_
      refine g_iload (i := 10) (t := 814) dL_shares_812 rfl rfl ?_
      refine g_if_eq (t1 := 821) (t2 := 817) dL_shares_814 (by decide) rfl (fun h814 => ?_) (fun h814 => ?_)
      · refine g_iconst (t := 822) dL_shares_821 c_iconst_0 rfl ?_
        refine gm_iast_x (a := z) (n := 48) (t := 823) l6_z l9_z s_z dL_shares_822 (ix_a _ _) (by omega) (by decide) rfl ?_
        refine g_aload_n (i := 3) (r := z) (t := 824) dL_shares_823 rfl rfl (Or.inl l9_z) rfl ?_
        refine g_bipush (t := 826) dL_shares_824 c_bipush_40 rfl ?_
        refine g_iload (i := 4) (t := 828) dL_shares_826 rfl rfl ?_
        refine g_iadd (t := 829) dL_shares_828 rfl ?_
        refine g_iload (i := 12) (t := 831) dL_shares_829 rfl rfl ?_
        refine gm_iast_x (a := z) (n := 48) (t := 832) l6_z l9_z s_z dL_shares_831 (ix_a _ _) (by omega) (by decide) rfl ?_
        exact g_retN (P := fun r I' h' => r = none ∧ h' = h ∧ gSame [z, w] I I' ∧ shP I' z S l) dL_shares_832 rfl hn ⟨rfl, rfl, (hs.up (by simp)).up (by simp), (hZ.far (Nat.le_refl _) b1 (fun x hx => by rw [gup_k _ _ _ (by omega), gup_k _ _ _ (by omega)])), by rw [gup_k _ _ _ (by omega), gup_k _ _ _ (by omega)]; exact hr, by rw [gup_k _ _ _ (by omega), gup_self, hg]; rfl, gup_self _ _ _ _⟩
      · exact absurd rfl h814
  refine g_aload_n (i := 3) (r := z) (t := 756) dL_shares_755 rfl rfl (Or.inl l9_z) rfl ?_
  refine g_bipush (t := 758) dL_shares_756 c_bipush_16 rfl ?_
  refine g_iload (i := 4) (t := 760) dL_shares_758 rfl rfl ?_
  refine g_iadd (t := 761) dL_shares_760 rfl ?_
  refine g_iload (i := 9) (t := 763) dL_shares_761 rfl rfl ?_
  refine gm_iast_x (a := z) (n := 48) (t := 764) l6_z l9_z s_z dL_shares_763 (ix_a _ _) (by omega) (by decide) rfl ?_
  refine g_aload_n (i := 3) (r := z) (t := 765) dL_shares_764 rfl rfl (Or.inl l9_z) rfl ?_
  refine g_bipush (t := 767) dL_shares_765 c_bipush_24 rfl ?_
  refine g_iload (i := 4) (t := 769) dL_shares_767 rfl rfl ?_
  refine g_iadd (t := 770) dL_shares_769 rfl ?_
  refine g_iload (i := 9) (t := 772) dL_shares_770 rfl rfl ?_
  refine gm_iast_x (a := z) (n := 48) (t := 773) l6_z l9_z s_z dL_shares_772 (ix_a _ _) (by omega) (by decide) rfl ?_
  refine g_iconst (t := 774) dL_shares_773 c_iconst_0 rfl ?_
  refine g_istore (i := 13) (t := 776) (L1 := [_, _, _, _, _, _, _, _, _, _, _, _, _, _, _, _, _, _, _, _, _, _, _, _]) dL_shares_774 (by decide) rfl rfl rfl ?_
  exact sh_fl (I := I) hzw hl (fun J2 hs2 hB2 hZ2 hr2 => T806 J2 hs2 hB2 hZ2 hr2) (sA S l).2.2 0 _ (Nat.zero_add _) ((hs.up (by simp)).up (by simp)) ((hB.upz hz4 hne).upz hz4 hne) (hZ.far (Nat.le_refl _) b1 (fun x hx => by rw [gup_k _ _ _ (by omega), gup_k _ _ _ (by omega)])) (gup_self _ _ _ _)
theorem l_shares (hz6 : z + h.1 < gn h) (hz9 : z < 1000) (hzs : gsh h z = .inr (0, 48)) (hz4 : 44 ≤ z) (hlen : 44 + h.2.length < 1000) (hA : aX I S) (hV : vS S.1) (hO : orX I S) (hl : l < nln (sQ S.1) (sC S.1)) : gNV E fL_shares 1 [.ref 41, .ref 42, .ref 43, .ref z, .int (nI l)] I h (fun r I' h' => r = none ∧ h' = (h.1, h.2 ++ [16]) ∧ gSame [z, 44 + h.2.length] I I' ∧ shP I' z S l) := by
  refine gEv.of rfl (Nat.le_succ _) (Nat.le_of_ble_eq_true rfl) (L := [.ref 41, .ref 42, .ref 43, .ref z, .int (nI l), .null, .null, .null, .null, .null, .null, .null, .null, .null, .null, .null, .null, .null, .null, .null, .null, .null, .null, .null]) rfl ?_
  have hz44 : z < 44 + h.2.length := by
    have : z + h.1 < 44 + h.2.length + h.1 := hz6
    omega
  have hn1 : gn ((h.1, h.2 ++ [16]) : gX) = gn h + 1 := by
    show 44 + (h.2 ++ [16]).length + h.1 = 44 + h.2.length + h.1 + 1
    rw [List.length_append, List.length_singleton]
    omega
  have hzw : zwX (h.1, h.2 ++ [16]) z (44 + h.2.length) := by
    refine ⟨⟨?_, hz9, ?_⟩, ⟨?_, hlen, gsh_new⟩, by omega, hz4, by omega⟩
    · rw [hn1]; show z + h.1 < gn h + 1; omega
    · rw [gsh_app hz44]; exact hzs
    · rw [hn1]; show 44 + h.2.length + h.1 < 44 + h.2.length + h.1 + 1; omega
  have hc5 : sC S.1 ≤ S.1.1 := ordS_le S.1.2.1 S.1.1
  have ha5 := hA.1
  have hnl := nln_le (sQ S.1) (sC S.1)
  have hn0 : 0 < (sA S l).2.2 := by
    have := frC_pos (sQ S.1) (sC S.1) l hl
    show 0 < frC _ _ _ - frC _ _ _
    omega
  have hAV : aV (sA S l) := aV_of (l := l) hV (hV.2.2 0 (by decide))
  generalize hw : 44 + h.2.length = w at *
  generalize hI1 : (fun q k => if q = w then (0 : Int32) else I q k) = I1
  have hs1 : gSame [w] I I1 := fun c hc => by
    rw [← hI1]
    funext k
    show (if c = w then (0 : Int32) else I c k) = I c k
    rw [if_neg (by simpa using hc)]
  have hA1 : aX I1 S := by
    unfold aX
    rw [hs1 41 (by simp; omega), hs1 42 (by simp; omega)]
    exact hA
  have hO1 : orX I1 S := hO.keep (hs1 43 (by simp; omega))
  have hsw : ∀ J : Nat → Nat → Int32, gSame [w] I1 J → gSame [z, w] I J := fun J hJ c hc => by
    have : c ∉ [w] := fun u => hc (by simp at u ⊢; exact Or.inr u)
    rw [hJ c this, hs1 c this]
  have hsz : ∀ J J2 : Nat → Nat → Int32, gSame [z, w] I J → gSame [z] J J2 → gSame [z, w] I J2 := fun J J2 h1 h2 c hc => by
    have : c ∉ [z] := fun u => hc (by simp at u ⊢; exact Or.inl u)
    rw [h2 c this, h1 c hc]
  obtain ⟨g, hg⟩ : ∃ g, grL (sA S l) = g := ⟨_, rfl⟩
  have T119 : ∀ (J : Nat → Nat → Int32) (p6 p7 : Int32) (u11 u12 u13 u14 u15 u16 u17 u18 u19 u20 u21 u22 u23 : Value), gSame [w] I1 J → shB J S l w → Wp E fL_shares (gn h + 1) 119 [.ref 41, .ref 42, .ref 43, .ref z, .int (nI l), .int (nI (sA S l).2.2), .int p6, .int p7, .ref w, .int (rmL (sA S l)), .int (bI (grL (sA S l))), u11, u12, u13, u14, u15, u16, u17, u18, u19, u20, u21, u22, u23] [] (gM J (h.1, h.2 ++ [16])) (gRet fL_shares (gn h + 1) (fun r σ' => ∃ (I' : Nat → Nat → Int32) (h' : gX), σ' = gM I' h' ∧ gn h' = gn h + 1 ∧ (r = none ∧ h' = (h.1, h.2 ++ [16]) ∧ gSame [z, w] I I' ∧ shP I' z S l))) := by
    intro J p6 p7 u11 u12 u13 u14 u15 u16 u17 u18 u19 u20 u21 u22 u23 hsJ hBJ
    rw [hg]
    have T260 : ∀ (J2 : Nat → Nat → Int32) (u13 u14 : Value), gSame [z] J J2 → shB J2 S l w → zS J2 z S l (zL0 (sA S l)) (sA S l).2.2 → Wp E fL_shares (gn h + 1) 260 [.ref 41, .ref 42, .ref 43, .ref z, .int (nI l), .int (nI (sA S l).2.2), .int p6, .int p7, .ref w, .int (rmL (sA S l)), .int (bI g), .int (nI (opn (sA S l) (zL0 (sA S l)) (sA S l).2.2)), .int (nI (sA S l).2.2), u13, u14, u15, u16, u17, u18, u19, u20, u21, u22, u23] [] (gM J2 (h.1, h.2 ++ [16])) (gRet fL_shares (gn h + 1) (fun r σ' => ∃ (I' : Nat → Nat → Int32) (h' : gX), σ' = gM I' h' ∧ gn h' = gn h + 1 ∧ (r = none ∧ h' = (h.1, h.2 ++ [16]) ∧ gSame [z, w] I I' ∧ shP I' z S l))) := by
      intro J2 u13 u14 hs2 hB2 hZ2
      have hop := opn_le (sA S l) (zL0 (sA S l)) (sA S l).2.2
      have hsl := sA_le S l
      refine g_iconst (t := 261) dL_shares_260 c_iconst_0 rfl ?_
      refine g_istore (i := 12) (t := 263) (L1 := [_, _, _, _, _, _, _, _, _, _, _, _, _, _, _, _, _, _, _, _, _, _, _, _]) dL_shares_261 (by decide) rfl rfl rfl ?_
      exact sh_w (I := I) hzw hg hAV ha5 (fun J3 u13 u14 u15 u16 u17 u18 u19 u20 u21 u22 u23 hs3 hB3 hZ3 => sh_end hzw hn1 (by omega) hg hs3 hB3 hZ3) (sA S l).2.2 0 J2 _ _ _ _ _ _ _ _ _ _ _ hop (by show 0 + opn (sA S l) (zL0 (sA S l)) (sA S l).2.2 ≤ 5; omega) rfl (hsz J J2 (hsw J hsJ) hs2) hB2 hZ2
    refine g_iconst (t := 120) dL_shares_119 c_iconst_0 rfl ?_
    refine g_istore (i := 11) (t := 122) (L1 := [_, _, _, _, _, _, _, _, _, _, _, _, _, _, _, _, _, _, _, _, _, _, _, _]) dL_shares_120 (by decide) rfl rfl rfl ?_
    refine g_iconst (t := 123) dL_shares_122 c_iconst_0 rfl ?_
    refine g_istore (i := 12) (t := 125) (L1 := [_, _, _, _, _, _, _, _, _, _, _, _, _, _, _, _, _, _, _, _, _, _, _, _]) dL_shares_123 (by decide) rfl rfl rfl ?_
    exact sh_l2 (I := J) hzw (by rw [hn1]; exact Nat.le_refl _) hg (fun J2 u13 u14 hs2 hB2 hZ2 => T260 J2 u13 u14 hs2 hB2 hZ2) (sA S l).2.2 0 J _ _ (Nat.zero_add _) gSame.rf hBJ (fun j hj => absurd hj (Nat.not_lt_zero _))
  have T13 : Wp E fL_shares (gn h + 1) 13 [.ref 41, .ref 42, .ref 43, .ref z, .int (nI l), .int (nI 0), .int (nI 0), .int (nI 0), .null, .null, .null, .null, .null, .null, .null, .null, .null, .null, .null, .null, .null, .null, .null, .null] [.ref w] (gM I1 (h.1, h.2 ++ [16])) (gRet fL_shares (gn h + 1) (fun r σ' => ∃ (I' : Nat → Nat → Int32) (h' : gX), σ' = gM I' h' ∧ gn h' = gn h + 1 ∧ (r = none ∧ h' = (h.1, h.2 ++ [16]) ∧ gSame [z, w] I I' ∧ shP I' z S l))) := by
    obtain ⟨⟨l6_z, l9_z, s_z⟩, ⟨l6_w, l9_w, s_w⟩, hne, hz4, hw4⟩ := id hzw
    have H := sh_l1 (E := E) (I := I1) (S := S) (nE := gn h + 1) (u10 := .null) (u11 := .null) (u12 := .null) (u13 := .null) (u14 := .null) (u15 := .null) (u16 := .null) (u17 := .null) (u18 := .null) (u19 := .null) (u20 := .null) (u21 := .null) (u22 := .null) (u23 := .null) hzw (by rw [hn1]; exact Nat.le_refl _) (show l < 16 by omega) hA1 hO1 (fun J hsJ hBJ => sh_room hBJ hn0 (T119 J _ _ _ _ _ _ _ _ _ _ _ _ _ _ _ hsJ hBJ)) (sC S.1) 0 I1 (Nat.zero_add _) gSame.rf
    rw [mA_0] at H
    refine g_astore (i := 8) (t := 15) (L1 := [_, _, _, _, _, _, _, _, _, _, _, _, _, _, _, _, _, _, _, _, _, _, _, _]) dL_shares_13 l9_w (by decide) rfl rfl rfl ?_
    refine g_iconst (t := 16) dL_shares_15 c_iconst_0 rfl ?_
    refine g_istore (i := 9) (t := 18) (L1 := [_, _, _, _, _, _, _, _, _, _, _, _, _, _, _, _, _, _, _, _, _, _, _, _]) dL_shares_16 (by decide) rfl rfl rfl ?_
    exact H (fun j hj => absurd hj (Nat.not_lt_zero _))
  refine g_iconst (t := 1) dL_shares_0 c_iconst_0 rfl ?_
  refine g_istore (i := 5) (t := 3) (L1 := [_, _, _, _, _, _, _, _, _, _, _, _, _, _, _, _, _, _, _, _, _, _, _, _]) dL_shares_1 (by decide) rfl rfl rfl ?_
  refine g_iconst (t := 4) dL_shares_3 c_iconst_0 rfl ?_
  refine g_istore (i := 6) (t := 6) (L1 := [_, _, _, _, _, _, _, _, _, _, _, _, _, _, _, _, _, _, _, _, _, _, _, _]) dL_shares_4 (by decide) rfl rfl rfl ?_
  refine g_iconst (t := 7) dL_shares_6 c_iconst_0 rfl ?_
  refine g_istore (i := 7) (t := 9) (L1 := [_, _, _, _, _, _, _, _, _, _, _, _, _, _, _, _, _, _, _, _, _, _, _, _]) dL_shares_7 (by decide) rfl rfl rfl ?_
  refine g_bipush (t := 11) dL_shares_9 c_bipush_16 rfl ?_
  rw [← hI1] at T13
  exact gm_newz (o := w) (t := 13) hw (by omega) rfl (by decide) (Nat.le_refl _) dL_shares_11 rfl T13
end SHR7

