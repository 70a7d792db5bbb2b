/-! one pass: who is frozen; all passes; what is told of them -/
theorem opn_mono (A : lA) (q : lZ) {i n : Nat} (h : i ≤ n) : opn A q i ≤ opn A q n := by
  induction n with
  | zero => rw [Nat.le_zero.mp h]; exact Nat.le_refl _
  | succ n ih =>
    by_cases y : i = n + 1
    · rw [y]; exact Nat.le_refl _
    · have := ih (by omega)
      rw [opn]
      omega
theorem opn_pos {A : lA} {q : lZ} : ∀ n, 0 < opn A q n → ∃ k, k < n ∧ q.1 (A.2.1 + k) = none
  | 0, h => absurd h (Nat.lt_irrefl 0)
  | n + 1, h => by
    by_cases y : q.1 (A.2.1 + n) = none
    · exact ⟨n, by omega, y⟩
    · rw [opn, if_neg y] at h
      obtain ⟨k, k1, k2⟩ := opn_pos n h
      exact ⟨k, by omega, k2⟩
/-- while it is frozen: sizes are the pass's, the passes up to a place -/
def zH (J : Nat → Nat → Int32) (z w : Nat) (S : sT) (l : Nat) (q : lZ) (t i : Nat) : Prop := (∀ j, j < (sA S l).2.2 → J z (fA S l j) = (nxL (sA S l) q t).2 ((sA S l).2.1 + j) ∧ J z (8 + fA S l j) = ovS (if j < i then (nxL (sA S l) q t).1 ((sA S l).2.1 + j) else q.1 ((sA S l).2.1 + j))) ∧ ∀ j, j < (sA S l).2.2 → q.1 ((sA S l).2.1 + j) = none → J w (8 + j) = crL (sA S l) q ((sA S l).2.1 + j)
theorem zH.of {J : Nat → Nat → Int32} {z w l t : Nat} {S : sT} {q : lZ} (h : zG J z w S l q (sA S l).2.2) : zH J z w S l q t 0 := by
  refine ⟨fun j hj => ?_, h.2⟩
  obtain ⟨a, b⟩ := h.1 j hj
  refine ⟨?_, ?_⟩
  · rw [a]
    show _ = if q.1 ((sA S l).2.1 + j) = none then czL (sA S l) q ((sA S l).2.1 + j) else q.2 ((sA S l).2.1 + j)
    by_cases y : q.1 ((sA S l).2.1 + j) = none
    · rw [if_pos y, if_pos ⟨hj, y⟩]
    · rw [if_neg y, if_neg (fun u => y u.2)]
  · rw [b, if_neg (Nat.not_lt_zero _)]
theorem zH.end_ {J : Nat → Nat → Int32} {z w l t : Nat} {S : sT} {q : lZ} (h : zH J z w S l q t (sA S l).2.2) : zS J z S l (nxL (sA S l) q t) (sA S l).2.2 := by
  intro j hj
  obtain ⟨a, b⟩ := h.1 j hj
  rw [if_pos hj] at b
  exact ⟨a, b⟩
def opT (S : sT) (l : Nat) (q : lZ) (t i : Nat) : Nat := opn (sA S l) (nxL (sA S l) q t) i + (opn (sA S l) q (sA S l).2.2 - opn (sA S l) q i)
section SHR5
variable {E : gE} {I : Nat → Nat → Int32} {h : gX} {S : sT} {K : gK} {nE z w l : Nat} {u5 u6 u7 u9 u10 u11 u12 u13 u14 u15 u16 u17 u18 u19 u20 u21 u22 u23 : Value}
theorem sh_h {q : lZ} {t : Nat} {p10 : Int32} (hzw : zwX h z w) (hq : ∀ p t, q.1 p = some t → t ≤ 16) (kk : ∀ (J : Nat → Nat → Int32) (u18 u19 : Value), gSame [z, w] I J → shB J S l w → zS J z S l (nxL (sA S l) q t) (sA S l).2.2 → Wp E fL_shares nE 752 [.ref 41, .ref 42, .ref 43, .ref z, .int (nI l), .int (nI (sA S l).2.2), u6, u7, .ref w, u9, .int p10, .int (nI (opn (sA S l) (nxL (sA S l) q t) (sA S l).2.2)), .int (nI t), u13, u14, u15, u16, .int (wrL (sA S l) q), u18, u19, u20, u21, u22, u23] [] (gM J h) K) : ∀ (d i : Nat) (J : Nat → Nat → Int32) (u19 : Value), i + d = (sA S l).2.2 → gSame [z, w] I J → shB J S l w → zH J z w S l q t i → Wp E fL_shares nE 673 [.ref 41, .ref 42, .ref 43, .ref z, .int (nI l), .int (nI (sA S l).2.2), u6, u7, .ref w, u9, .int p10, .int (nI (opT S l q t i)), .int (nI t), u13, u14, u15, u16, .int (wrL (sA S l) q), .int (nI i), u19, u20, u21, u22, u23] [] (gM J h) K := by
  obtain ⟨⟨l6_z, l9_z, s_z⟩, ⟨l6_w, l9_w, s_w⟩, hne, hz4, hw4⟩ := id hzw
  have hsl := sA_le S l
  have hc5 : sC S.1 ≤ S.1.1 := ordS_le S.1.2.1 S.1.1
  intro d
  induction d with
  | zero =>
    intro i J u19 hi hs hB hH
    have b1 := hB.1
    have hi : i = (sA S l).2.2 := by omega
    subst hi
    have e : opT S l q t (sA S l).2.2 = opn (sA S l) (nxL (sA S l) q t) (sA S l).2.2 := by unfold opT; omega
    rw [e]
    refine g_iload (i := 18) (t := 675) dL_shares_673 rfl rfl ?_
    refine g_iload (i := 5) (t := 677) dL_shares_675 rfl rfl ?_
    refine g_icmp_ge_n (t1 := 752) (t2 := 680) dL_shares_677 (by decide) rfl (by omega) (by omega) (fun h677 => ?_) (fun h677 => ?_)
    · exact kk J _ _ hs hB hH.end_
    · exfalso; omega
  | succ d ih =>
    intro i J u19 hi hs hB hH
    obtain ⟨b1, b2, b3, b4⟩ := id hB
    have hf : fA S l i < S.1.1 := fA_lt (show i < (sA S l).2.2 by omega)
    obtain ⟨g1, g2⟩ := id hH
    have z2 := (g1 i (by omega)).2
    rw [if_neg (Nat.lt_irrefl _)] at z2
    have hm := opn_mono (sA S l) q (show i + 1 ≤ (sA S l).2.2 by omega)
    have hol := opn_le (sA S l) (nxL (sA S l) q t) i
    have hol2 := opn_le (sA S l) q (sA S l).2.2
    have hmid : ∀ v : Option Nat, (nxL (sA S l) q t).1 ((sA S l).2.1 + i) = v → ∀ J2 : Nat → Nat → Int32, J2 w = J w → (∀ x, J2 z x = if x = 8 + fA S l i then ovS v else J z x) → zH J2 z w S l q t (i + 1) := by
      intro v hv J2 hw2 hJ2
      refine ⟨fun j hj => ?_, fun j hj hn => by rw [hw2]; exact g2 j hj hn⟩
      have hfj : fA S l j < S.1.1 := fA_lt hj
      refine ⟨by rw [hJ2, if_neg (by omega)]; exact (g1 j hj).1, ?_⟩
      rw [hJ2]
      by_cases y : j = i
      · subst y
        rw [if_pos rfl, if_pos (by omega), hv]
      · have nf : ¬ fA S l j = fA S l i := fun u => y (fA_inj hj (by omega) u)
        rw [if_neg (by omega), (g1 j hj).2]
        by_cases u : j < i
        · rw [if_pos u, if_pos (by omega)]
        · rw [if_neg u, if_neg (by omega)]
    rcases ovS_c hq ((sA S l).2.1 + i) with ⟨o1, o2⟩ | ⟨o1, t2, o2, o3⟩
    · have ew : J w (8 + i) = crL (sA S l) q ((sA S l).2.1 + i) := g2 i (by omega) o1
      have z3 := z2
      rw [o2] at z2
      have enx : (nxL (sA S l) q t).1 ((sA S l).2.1 + i) = if fzL (sA S l) q ((sA S l).2.1 + i) then some t else none := by
        show (if q.1 ((sA S l).2.1 + i) = none then _ else _) = _
        rw [if_pos o1]
      have efz : fzL (sA S l) q ((sA S l).2.1 + i) = decide (wrL (sA S l) q = 0 ∨ (0 < wrL (sA S l) q ∧ 0 < crL (sA S l) q ((sA S l).2.1 + i)) ∨ (wrL (sA S l) q < 0 ∧ crL (sA S l) q ((sA S l).2.1 + i) < 0)) := rfl
      have zz0 : (0 : Int32).toInt = 0 := by decide +kernel
      have T734 : fzL (sA S l) q ((sA S l).2.1 + i) = true → Wp E fL_shares nE 734 [.ref 41, .ref 42, .ref 43, .ref z, .int (nI l), .int (nI (sA S l).2.2), u6, u7, .ref w, u9, .int p10, .int (nI (opT S l q t i)), .int (nI t), u13, u14, u15, u16, .int (wrL (sA S l) q), .int (nI i), .int (nI (fA S l i)), u20, u21, u22, u23] [] (gM J h) K := by
        intro hfz
        rw [if_pos hfz] at enx
        have e : opT S l q t i = opT S l q t (i + 1) + 1 := by
          unfold opT
          rw [opn, opn, if_pos o1, if_neg (by rw [enx]; simp)]
          rw [opn, if_pos o1] at hm
          omega
        rw [e]
        refine g_aload_n (i := 3) (r := z) (t := 735) dL_shares_734 rfl rfl (Or.inl l9_z) rfl ?_
        refine g_bipush (t := 737) dL_shares_735 c_bipush_8 rfl ?_
        refine g_iload (i := 19) (t := 739) dL_shares_737 rfl rfl ?_
        refine g_iadd (t := 740) dL_shares_739 rfl ?_
        refine g_iload (i := 12) (t := 742) dL_shares_740 rfl rfl ?_
        refine gm_iast_x (a := z) (n := 48) (t := 743) l6_z l9_z s_z dL_shares_742 (ix_a _ _) (by omega) (by decide) rfl ?_
        refine g_iinc (i := 11) (t := 746) (L1 := [_, _, _, _, _, _, _, _, _, _, _, _, _, _, _, _, _, _, _, _, _, _, _, _]) dL_shares_743 rfl (gi_m1 _) (by decide) rfl rfl rfl ?_
        refine g_iinc (i := 18) (t := 749) (L1 := [_, _, _, _, _, _, _, _, _, _, _, _, _, _, _, _, _, _, _, _, _, _, _, _]) dL_shares_746 rfl (gi_1 _) (by decide) rfl rfl rfl ?_
        refine g_goto (t := 673) dL_shares_749 (by decide) ?_
        exact ih (i + 1) _ _ (by omega) (hs.up (by simp)) (hB.upz hz4 hne) (hmid _ enx _ (gup_rowo _ _ _ (fun u => hne u.symm)) (fun x => by rw [gup_at]; rfl))
      have T746 : fzL (sA S l) q ((sA S l).2.1 + i) = false → Wp E fL_shares nE 746 [.ref 41, .ref 42, .ref 43, .ref z, .int (nI l), .int (nI (sA S l).2.2), u6, u7, .ref w, u9, .int p10, .int (nI (opT S l q t i)), .int (nI t), u13, u14, u15, u16, .int (wrL (sA S l) q), .int (nI i), .int (nI (fA S l i)), u20, u21, u22, u23] [] (gM J h) K := by
        intro hfz
        rw [if_neg (by rw [hfz]; decide)] at enx
        have e : opT S l q t i = opT S l q t (i + 1) := by
          unfold opT
          rw [opn, opn, if_pos o1, if_pos enx]
          rw [opn, if_pos o1] at hm
          omega
        rw [e]
        refine g_iinc (i := 18) (t := 749) (L1 := [_, _, _, _, _, _, _, _, _, _, _, _, _, _, _, _, _, _, _, _, _, _, _, _]) dL_shares_746 rfl (gi_1 _) (by decide) rfl rfl rfl ?_
        refine g_goto (t := 673) dL_shares_749 (by decide) ?_
        refine ih (i + 1) _ _ (by omega) hs hB (hmid _ enx J rfl (fun x => ?_))
        by_cases y : x = 8 + fA S l i
        · rw [if_pos y, y, z3, o1]
        · rw [if_neg y]
      refine g_iload (i := 18) (t := 675) dL_shares_673 rfl rfl ?_
      refine g_iload (i := 5) (t := 677) dL_shares_675 rfl rfl ?_
      refine g_icmp_ge_n (t1 := 752) (t2 := 680) dL_shares_677 (by decide) rfl (by omega) (by omega) (fun h677 => ?_) (fun h677 => ?_)
      · exfalso; omega
      · refine g_aload (i := 8) (r := w) (t := 682) dL_shares_680 rfl (Or.inl l9_w) rfl ?_
        refine g_iload (i := 18) (t := 684) dL_shares_682 rfl rfl ?_
        refine gm_iald_x (a := w) (n := 16) (t := 685) l6_w l9_w s_w dL_shares_684 rfl (by omega) (by decide) rfl ?_
        rw [b4 i (by omega)]
        refine g_istore (i := 19) (t := 687) (L1 := [_, _, _, _, _, _, _, _, _, _, _, _, _, _, _, _, _, _, _, _, _, _, _, _]) dL_shares_685 (by decide) rfl rfl rfl ?_
        refine g_aload_n (i := 3) (r := z) (t := 688) dL_shares_687 rfl rfl (Or.inl l9_z) rfl ?_
        refine g_bipush (t := 690) dL_shares_688 c_bipush_8 rfl ?_
        refine g_iload (i := 19) (t := 692) dL_shares_690 rfl rfl ?_
        refine g_iadd (t := 693) dL_shares_692 rfl ?_
        refine gm_iald_x (a := z) (n := 48) (t := 694) l6_z l9_z s_z dL_shares_693 (ix_a _ _) (by omega) (by decide) rfl ?_
        rw [z2]
        refine g_if_ge (t1 := 746) (t2 := 697) dL_shares_694 (by decide) rfl (fun h694 => ?_) (fun h694 => ?_)
        · exact absurd h694 neg1_ge
        · refine g_iload (i := 17) (t := 699) dL_shares_697 rfl rfl ?_
          refine g_if_eq (t1 := 734) (t2 := 702) dL_shares_699 (by decide) rfl (fun h699 => ?_) (fun h699 => ?_)
          · refine T734 ?_
            rw [efz]
            refine decide_eq_true ?_
            rw [t_eq, t_lt, t_lt, t_lt, t_lt]
            (try rw [t_eq] at h699)
            (try rw [t_le] at h704)
            (try rw [t_lt] at h715)
            (try rw [t_le] at h720)
            (try rw [t_le] at h731)
            omega
          · refine g_iload (i := 17) (t := 704) dL_shares_702 rfl rfl ?_
            refine g_if_le (t1 := 718) (t2 := 707) dL_shares_704 (by decide) rfl (fun h704 => ?_) (fun h704 => ?_)
            · refine g_iload (i := 17) (t := 720) dL_shares_718 rfl rfl ?_
              refine g_if_ge (t1 := 746) (t2 := 723) dL_shares_720 (by decide) rfl (fun h720 => ?_) (fun h720 => ?_)
              · refine T746 ?_
                rw [efz]
                refine decide_eq_false ?_
                rw [t_eq, t_lt, t_lt, t_lt, t_lt]
                (try rw [t_eq] at h699)
                (try rw [t_le] at h704)
                (try rw [t_lt] at h715)
                (try rw [t_le] at h720)
                (try rw [t_le] at h731)
                omega
              · refine g_aload (i := 8) (r := w) (t := 725) dL_shares_723 rfl (Or.inl l9_w) rfl ?_
                refine g_bipush (t := 727) dL_shares_725 c_bipush_8 rfl ?_
                refine g_iload (i := 18) (t := 729) dL_shares_727 rfl rfl ?_
                refine g_iadd (t := 730) dL_shares_729 rfl ?_
                refine gm_iald_x (a := w) (n := 16) (t := 731) l6_w l9_w s_w dL_shares_730 (ix_a _ _) (by omega) (by decide) rfl ?_
                rw [ew]
                refine g_if_ge (t1 := 746) (t2 := 734) dL_shares_731 (by decide) rfl (fun h731 => ?_) (fun h731 => ?_)
                · refine T746 ?_
                  rw [efz]
                  refine decide_eq_false ?_
                  rw [t_eq, t_lt, t_lt, t_lt, t_lt]
                  (try rw [t_eq] at h699)
                  (try rw [t_le] at h704)
                  (try rw [t_lt] at h715)
                  (try rw [t_le] at h720)
                  (try rw [t_le] at h731)
                  omega
                · refine T734 ?_
                  rw [efz]
                  refine decide_eq_true ?_
                  rw [t_eq, t_lt, t_lt, t_lt, t_lt]
                  (try rw [t_eq] at h699)
                  (try rw [t_le] at h704)
                  (try rw [t_lt] at h715)
                  (try rw [t_le] at h720)
                  (try rw [t_le] at h731)
                  omega
            · refine g_aload (i := 8) (r := w) (t := 709) dL_shares_707 rfl (Or.inl l9_w) rfl ?_
              refine g_bipush (t := 711) dL_shares_709 c_bipush_8 rfl ?_
              refine g_iload (i := 18) (t := 713) dL_shares_711 rfl rfl ?_
              refine g_iadd (t := 714) dL_shares_713 rfl ?_
              refine gm_iald_x (a := w) (n := 16) (t := 715) l6_w l9_w s_w dL_shares_714 (ix_a _ _) (by omega) (by decide) rfl ?_
              rw [ew]
              refine g_if_gt (t1 := 734) (t2 := 718) dL_shares_715 (by decide) rfl (fun h715 => ?_) (fun h715 => ?_)
              · refine T734 ?_
                rw [efz]
                refine decide_eq_true ?_
                rw [t_eq, t_lt, t_lt, t_lt, t_lt]
                (try rw [t_eq] at h699)
                (try rw [t_le] at h704)
                (try rw [t_lt] at h715)
                (try rw [t_le] at h720)
                (try rw [t_le] at h731)
                omega
              · refine g_iload (i := 17) (t := 720) dL_shares_718 rfl rfl ?_
                refine g_if_ge (t1 := 746) (t2 := 723) dL_shares_720 (by decide) rfl (fun h720 => ?_) (fun h720 => ?_)
                · refine T746 ?_
                  rw [efz]
                  refine decide_eq_false ?_
                  rw [t_eq, t_lt, t_lt, t_lt, t_lt]
                  (try rw [t_eq] at h699)
                  (try rw [t_le] at h704)
                  (try rw [t_lt] at h715)
                  (try rw [t_le] at h720)
                  (try rw [t_le] at h731)
                  omega
                · refine g_aload (i := 8) (r := w) (t := 725) dL_shares_723 rfl (Or.inl l9_w) rfl ?_
                  refine g_bipush (t := 727) dL_shares_725 c_bipush_8 rfl ?_
                  refine g_iload (i := 18) (t := 729) dL_shares_727 rfl rfl ?_
                  refine g_iadd (t := 730) dL_shares_729 rfl ?_
                  refine gm_iald_x (a := w) (n := 16) (t := 731) l6_w l9_w s_w dL_shares_730 (ix_a _ _) (by omega) (by decide) rfl ?_
                  rw [ew]
                  refine g_if_ge (t1 := 746) (t2 := 734) dL_shares_731 (by decide) rfl (fun h731 => ?_) (fun h731 => ?_)
                  · refine T746 ?_
                    rw [efz]
                    refine decide_eq_false ?_
                    rw [t_eq, t_lt, t_lt, t_lt, t_lt]
                    (try rw [t_eq] at h699)
                    (try rw [t_le] at h704)
                    (try rw [t_lt] at h715)
                    (try rw [t_le] at h720)
                    (try rw [t_le] at h731)
                    omega
                  · refine T734 ?_
                    rw [efz]
                    refine decide_eq_true ?_
                    rw [t_eq, t_lt, t_lt, t_lt, t_lt]
                    (try rw [t_eq] at h699)
                    (try rw [t_le] at h704)
                    (try rw [t_lt] at h715)
                    (try rw [t_le] at h720)
                    (try rw [t_le] at h731)
                    omega
    · have enx : (nxL (sA S l) q t).1 ((sA S l).2.1 + i) = q.1 ((sA S l).2.1 + i) := by
        show (if q.1 ((sA S l).2.1 + i) = none then _ else _) = _
        rw [if_neg o1]
      have e : opT S l q t i = opT S l q t (i + 1) := by
        unfold opT
        rw [opn, opn, if_neg o1, if_neg (by rw [enx]; exact o1)]
        omega
      have z3 := z2
      rw [o3] at z2
      rw [e]
      refine g_iload (i := 18) (t := 675) dL_shares_673 rfl rfl ?_
      refine g_iload (i := 5) (t := 677) dL_shares_675 rfl rfl ?_
      refine g_icmp_ge_n (t1 := 752) (t2 := 680) dL_shares_677 (by decide) rfl (by omega) (by omega) (fun h677 => ?_) (fun h677 => ?_)
      · exfalso; omega
      · refine g_aload (i := 8) (r := w) (t := 682) dL_shares_680 rfl (Or.inl l9_w) rfl ?_
        refine g_iload (i := 18) (t := 684) dL_shares_682 rfl rfl ?_
        refine gm_iald_x (a := w) (n := 16) (t := 685) l6_w l9_w s_w dL_shares_684 rfl (by omega) (by decide) rfl ?_
        rw [b4 i (by omega)]
        refine g_istore (i := 19) (t := 687) (L1 := [_, _, _, _, _, _, _, _, _, _, _, _, _, _, _, _, _, _, _, _, _, _, _, _]) dL_shares_685 (by decide) rfl rfl rfl ?_
        refine g_aload_n (i := 3) (r := z) (t := 688) dL_shares_687 rfl rfl (Or.inl l9_z) rfl ?_
        refine g_bipush (t := 690) dL_shares_688 c_bipush_8 rfl ?_
        refine g_iload (i := 19) (t := 692) dL_shares_690 rfl rfl ?_
        refine g_iadd (t := 693) dL_shares_692 rfl ?_
        refine gm_iald_x (a := z) (n := 48) (t := 694) l6_z l9_z s_z dL_shares_693 (ix_a _ _) (by omega) (by decide) rfl ?_
        rw [z2]
        refine g_if_ge (t1 := 746) (t2 := 697) dL_shares_694 (by decide) rfl (fun h694 => ?_) (fun h694 => ?_)
        · refine g_iinc (i := 18) (t := 749) (L1 := [_, _, _, _, _, _, _, _, _, _, _, _, _, _, _, _, _, _, _, _, _, _, _, _]) dL_shares_746 rfl (gi_1 _) (by decide) rfl rfl rfl ?_
          refine g_goto (t := 673) dL_shares_749 (by decide) ?_
          refine ih (i + 1) _ _ (by omega) hs hB (hmid _ enx J rfl (fun x => ?_))
          by_cases y : x = 8 + fA S l i
          · rw [if_pos y, y, z3]
          · rw [if_neg y]
        · exact absurd (nI_ge0 (by omega)) h694
end SHR5

