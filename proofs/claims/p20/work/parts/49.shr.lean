/-! the sharing of a line's room, as the law computes it -/
abbrev sA (S : sT) (l : Nat) : lA := lnA (sQ S.1) (sC S.1) l
def fA (S : sT) (l j : Nat) : Nat := (sQ S.1).2.2.2 ((sA S l).2.1 + j)
theorem sA_le (S : sT) (l : Nat) : (sA S l).2.1 + (sA S l).2.2 ≤ sC S.1 := by
  have h1 := frC_le (sQ S.1) (sC S.1) l
  have h2 := frC_le (sQ S.1) (sC S.1) (l + 1)
  show frC _ _ _ + (frC _ _ _ - frC _ _ _) ≤ _
  omega
theorem fA_lt {S : sT} {l j : Nat} (hj : j < (sA S l).2.2) : fA S l j < S.1.1 := ordS_lt S.1.2.1 S.1.1 _ (show (sA S l).2.1 + j < sC S.1 by have := sA_le S l; omega)
theorem fA_inj {S : sT} {l i j : Nat} (hi : i < (sA S l).2.2) (hj : j < (sA S l).2.2) (e : fA S l i = fA S l j) : i = j := by
  have h := sA_le S l
  have := ordS_inj S.1.2.1 S.1.1 _ _ (show (sA S l).2.1 + i < sC S.1 by omega) (show (sA S l).2.1 + j < sC S.1 by omega) e
  omega
/-- the cells of the law's two rows -/
def zwX (h : gX) (z w : Nat) : Prop := (z + h.1 < gn h ∧ z < 1000 ∧ gsh h z = .inr (0, 48)) ∧ (w + h.1 < gn h ∧ w < 1000 ∧ gsh h w = .inr (0, 16)) ∧ z ≠ w ∧ 44 ≤ z ∧ 44 ≤ w
def mA (S : sT) (l p : Nat) : Nat := min (p - (sA S l).2.1) (sA S l).2.2
theorem mA_y {S : sT} {l p : Nat} (hp : p < sC S.1) (e : lin (sQ S.1) p = l) : mA S l p < (sA S l).2.2 ∧ mA S l (p + 1) = mA S l p + 1 ∧ (sA S l).2.1 + mA S l p = p := by
  have := (frC_lin (sQ S.1) (c := sC S.1) hp).mp e
  have e1 : (sA S l).2.1 = frC (sQ S.1) (sC S.1) l := rfl
  have e2 : (sA S l).2.2 = frC (sQ S.1) (sC S.1) (l + 1) - frC (sQ S.1) (sC S.1) l := rfl
  unfold mA
  omega
theorem mA_n {S : sT} {l p : Nat} (hp : p < sC S.1) (e : ¬ lin (sQ S.1) p = l) : mA S l (p + 1) = mA S l p := by
  have : ¬ (frC (sQ S.1) (sC S.1) l ≤ p ∧ p < frC (sQ S.1) (sC S.1) (l + 1)) := fun q => e ((frC_lin (sQ S.1) (c := sC S.1) hp).mpr q)
  have e1 : (sA S l).2.1 = frC (sQ S.1) (sC S.1) l := rfl
  have e2 : (sA S l).2.2 = frC (sQ S.1) (sC S.1) (l + 1) - frC (sQ S.1) (sC S.1) l := rfl
  unfold mA
  omega
theorem mA_0 (S : sT) (l : Nat) : mA S l 0 = 0 := by unfold mA; omega
theorem mA_c (S : sT) (l : Nat) : mA S l (sC S.1) = (sA S l).2.2 := by
  have := sA_le S l
  unfold mA
  omega
/-- the law's items, box, and the line's items, in the cells -/
def shB (J : Nat → Nat → Int32) (S : sT) (l w : Nat) : Prop := S.1.1 ≤ 5 ∧ (∀ i k, i < S.1.1 → k < 11 → J 41 (12 * i + k) = S.1.2.1 i k) ∧ (∀ k, k < 7 → J 42 k = S.1.2.2 k) ∧ ∀ j, j < (sA S l).2.2 → J w j = nI (fA S l j)
abbrev wsO (P : dP) (k : Nat) : Int32 := wsh P k
theorem shB.ws {J : Nat → Nat → Int32} {S : sT} {l w k : Nat} (h : shB J S l w) (hk : k < S.1.1) : wsO (aP J) k = wsO S.1.2.1 k := wsh_cong (h.2.1 k 0 hk (by decide)) (h.2.1 k 3 hk (by decide)) (h.2.1 k 4 hk (by decide))
theorem shB.upz {J : Nat → Nat → Int32} {S : sT} {l w z k : Nat} {v : Int32} (h : shB J S l w) (hz : 44 ≤ z) (hzw : z ≠ w) : shB (gup J z k v) S l w := by
  unfold shB
  rw [gup_rowo _ _ _ (show 41 ≠ z by omega), gup_rowo _ _ _ (show 42 ≠ z by omega), gup_rowo _ _ _ (show w ≠ z from fun q => hzw q.symm)]
  exact h
theorem shB.upw {J : Nat → Nat → Int32} {S : sT} {l w k : Nat} {v : Int32} (h : shB J S l w) (hw : 44 ≤ w) (hk : (sA S l).2.2 ≤ k) : shB (gup J w k v) S l w := by
  obtain ⟨h1, h2, h3, h4⟩ := h
  unfold shB
  rw [gup_rowo _ _ _ (show 41 ≠ w by omega), gup_rowo _ _ _ (show 42 ≠ w by omega)]
  exact ⟨h1, h2, h3, fun j hj => by rw [gup_k _ _ _ (by omega)]; exact h4 j hj⟩
/-- sizes and passes of the line's items -/
def zS (J : Nat → Nat → Int32) (z : Nat) (S : sT) (l : Nat) (q : lZ) (n : Nat) : Prop := ∀ j, j < n → J z (fA S l j) = q.2 ((sA S l).2.1 + j) ∧ J z (8 + fA S l j) = ovS (q.1 ((sA S l).2.1 + j))
theorem smS_2 (g : Nat → Int32) (lo : Nat) : ∀ n, smS (fun p => nI 2 * g p) lo n = nI 2 * smS g lo n
  | 0 => by show nI 0 = nI 2 * nI 0; decide +kernel
  | n + 1 => by rw [smS, smS, smS_2 g lo n, Int32.mul_add]
section SHR
variable {E : gE} {I : Nat → Nat → Int32} {h : gX} {S : sT} {K : gK} {nE z w l : Nat} {u5 u6 u7 u9 u10 u11 u12 u13 u14 u15 u16 u17 u18 u19 u20 u21 u22 u23 : Value}
theorem sh_l1 (hzw : zwX h z w) (hE : gn h ≤ nE) (hl : l < 16) (hA : aX I S) (hO : orX I S) (kk : ∀ J : Nat → Nat → Int32, gSame [w] I J → shB J S l w → Wp E fL_shares nE 86 [.ref 41, .ref 42, .ref 43, .ref z, .int (nI l), .int (nI (sA S l).2.2), .int (smS (fun p => wsh S.1.2.1 ((sQ S.1).2.2.2 p)) (sA S l).2.1 (sA S l).2.2), .int (smS (fun p => S.1.2.1 ((sQ S.1).2.2.2 p) 5) (sA S l).2.1 (sA S l).2.2), .ref w, .int (nI (sC S.1)), u10, u11, u12, u13, u14, u15, u16, u17, u18, u19, u20, u21, u22, u23] [] (gM J h) K) : ∀ (d p : Nat) (J : Nat → Nat → Int32), p + d = sC S.1 → gSame [w] I J → (∀ j, j < mA S l p → J w j = nI (fA S l j)) → Wp E fL_shares nE 18 [.ref 41, .ref 42, .ref 43, .ref z, .int (nI l), .int (nI (mA S l p)), .int (smS (fun p => wsh S.1.2.1 ((sQ S.1).2.2.2 p)) (sA S l).2.1 (mA S l p)), .int (smS (fun p => S.1.2.1 ((sQ S.1).2.2.2 p) 5) (sA S l).2.1 (mA S l p)), .ref w, .int (nI p), u10, u11, u12, u13, u14, u15, u16, u17, u18, u19, u20, u21, u22, u23] [] (gM J h) K := by
  obtain ⟨⟨l6_z, l9_z, s_z⟩, ⟨l6_w, l9_w, s_w⟩, hne, hz4, hw4⟩ := id hzw
  obtain ⟨a1, a2, a3, a4⟩ := id hA
  obtain ⟨o1, o2, o3⟩ := id hO
  have hc5 : sC S.1 ≤ S.1.1 := ordS_le S.1.2.1 S.1.1
  have hll : ∀ p, lin (sQ S.1) p ≤ p := lin_le (sQ S.1)
  intro d
  induction d with
  | zero =>
    intro p J hp hs hJ
    have hp : p = sC S.1 := by omega
    subst hp
    rw [mA_c] at hJ ⊢
    have e43 : J 43 = I 43 := hs 43 (by simp; omega)
    refine g_iload (i := 9) (t := 20) dL_shares_18 rfl rfl ?_
    refine g_aload_n (i := 2) (r := 43) (t := 21) dL_shares_20 rfl rfl (Or.inl l9_43) rfl ?_
    refine g_bipush (t := 23) dL_shares_21 c_bipush_16 rfl ?_
    refine gm_iald_x (a := 43) (n := 24) (t := 24) l6_43 l9_43 s_43 dL_shares_23 rfl (by omega) (by decide) rfl ?_
    rw [e43, o2]
    refine g_icmp_ge_n (t1 := 86) (t2 := 27) dL_shares_24 (by decide) rfl (by omega) (by omega) (fun h24 => ?_) (fun h24 => ?_)
    · exact kk J hs ⟨a1, by rw [hs 41 (by simp; omega)]; exact a3, by rw [hs 42 (by simp; omega)]; exact a4, hJ⟩
    · exfalso; omega
  | succ d ih =>
    intro p J hp hs hJ
    have e43 : J 43 = I 43 := hs 43 (by simp; omega)
    have e41 : J 41 = I 41 := hs 41 (by simp; omega)
    obtain ⟨o4, o5⟩ := o1 p (by omega)
    have hf : (sQ S.1).2.2.2 p < S.1.1 := ordS_lt S.1.2.1 S.1.1 p (show p < sC S.1 by omega)
    have hlp := hll p
    have hsl := sA_le S l
    have hln : lin (sQ S.1) p = l ∨ ¬ lin (sQ S.1) p = l := Classical.em _
    rcases hln with hy | hn
    · obtain ⟨y1, y2, y3⟩ := mA_y (by omega) hy
      have ih := ih (p + 1)
      rw [y2] at ih
      have ew : ∀ J2 : Nat → Nat → Int32, J2 41 = I 41 → wsh (aP J2) ((sQ S.1).2.2.2 p) = wsh S.1.2.1 ((sQ S.1).2.2.2 ((sA S l).2.1 + mA S l p)) := by
        intro J2 e2
        rw [y3]
        exact wsh_cong (by show J2 41 _ = _; rw [e2]; exact a3 _ 0 hf (by decide)) (by show J2 41 _ = _; rw [e2]; exact a3 _ 3 hf (by decide)) (by show J2 41 _ = _; rw [e2]; exact a3 _ 4 hf (by decide))
      have ef : (sQ S.1).2.2.2 p = fA S l (mA S l p) := by
        show _ = (sQ S.1).2.2.2 ((sA S l).2.1 + mA S l p)
        rw [y3]
      refine g_iload (i := 9) (t := 20) dL_shares_18 rfl rfl ?_
      refine g_aload_n (i := 2) (r := 43) (t := 21) dL_shares_20 rfl rfl (Or.inl l9_43) rfl ?_
      refine g_bipush (t := 23) dL_shares_21 c_bipush_16 rfl ?_
      refine gm_iald_x (a := 43) (n := 24) (t := 24) l6_43 l9_43 s_43 dL_shares_23 rfl (by omega) (by decide) rfl ?_
      rw [e43, o2]
      refine g_icmp_ge_n (t1 := 86) (t2 := 27) dL_shares_24 (by decide) rfl (by omega) (by omega) (fun h24 => ?_) (fun h24 => ?_)
      · exfalso; omega
      · refine g_aload_n (i := 2) (r := 43) (t := 28) dL_shares_27 rfl rfl (Or.inl l9_43) rfl ?_
        refine g_bipush (t := 30) dL_shares_28 c_bipush_8 rfl ?_
        refine g_iload (i := 9) (t := 32) dL_shares_30 rfl rfl ?_
        refine g_iadd (t := 33) dL_shares_32 rfl ?_
        refine gm_iald_x (a := 43) (n := 24) (t := 34) l6_43 l9_43 s_43 dL_shares_33 (ix_a _ _) (by omega) (by decide) rfl ?_
        rw [e43, o5, hy]
        refine g_iload (i := 4) (t := 36) dL_shares_34 rfl rfl ?_
        refine g_icmp_ne (t1 := 80) (t2 := 39) dL_shares_36 (by decide) rfl (fun h36 => ?_) (fun h36 => ?_)
        · exact absurd rfl h36
        · refine g_aload (i := 8) (r := w) (t := 41) dL_shares_39 rfl (Or.inl l9_w) rfl ?_
          refine g_iload (i := 5) (t := 43) dL_shares_41 rfl rfl ?_
          refine g_aload_n (i := 2) (r := 43) (t := 44) dL_shares_43 rfl rfl (Or.inl l9_43) rfl ?_
          refine g_iload (i := 9) (t := 46) dL_shares_44 rfl rfl ?_
          refine gm_iald_x (a := 43) (n := 24) (t := 47) l6_43 l9_43 s_43 dL_shares_46 rfl (by omega) (by decide) rfl ?_
          rw [e43, o4]
          refine gm_iast_x (a := w) (n := 16) (t := 48) l6_w l9_w s_w dL_shares_47 rfl (by omega) (by decide) rfl ?_
          refine g_iload (i := 6) (t := 50) dL_shares_48 rfl rfl ?_
          refine g_aload_n (i := 0) (r := 41) (t := 51) dL_shares_50 rfl rfl (Or.inl l9_41) rfl ?_
          refine g_aload_n (i := 2) (r := 43) (t := 52) dL_shares_51 rfl rfl (Or.inl l9_43) rfl ?_
          refine g_iload (i := 9) (t := 54) dL_shares_52 rfl rfl ?_
          refine gm_iald_x (a := 43) (n := 24) (t := 55) l6_43 l9_43 s_43 dL_shares_54 rfl (by omega) (by decide) rfl ?_
          rw [gup_rowo _ _ _ (show 43 ≠ w by omega), e43, o4]
          refine g_cSp (t := 58) mL_wish k_L_79 smL_wish dL_shares_55 (l_wish (by omega)) rfl rfl (by decide) (by decide) (Nat.le_of_ble_eq_true rfl) rfl hE ?_
          rw [ew _ (by rw [gup_rowo _ _ _ (show 41 ≠ w by omega)]; exact e41)]
          refine g_iadd (t := 59) dL_shares_58 rfl ?_
          refine g_istore (i := 6) (t := 61) (L1 := [_, _, _, _, _, _, _, _, _, _, _, _, _, _, _, _, _, _, _, _, _, _, _, _]) dL_shares_59 (by decide) rfl rfl rfl ?_
          refine g_iload (i := 7) (t := 63) dL_shares_61 rfl rfl ?_
          refine g_aload_n (i := 0) (r := 41) (t := 64) dL_shares_63 rfl rfl (Or.inl l9_41) rfl ?_
          refine g_bipush (t := 66) dL_shares_64 c_bipush_12 rfl ?_
          refine g_aload_n (i := 2) (r := 43) (t := 67) dL_shares_66 rfl rfl (Or.inl l9_43) rfl ?_
          refine g_iload (i := 9) (t := 69) dL_shares_67 rfl rfl ?_
          refine gm_iald_x (a := 43) (n := 24) (t := 70) l6_43 l9_43 s_43 dL_shares_69 rfl (by omega) (by decide) rfl ?_
          rw [gup_rowo _ _ _ (show 43 ≠ w by omega), e43, o4]
          refine g_imul (t := 71) dL_shares_70 rfl ?_
          refine g_iconst (t := 72) dL_shares_71 c_iconst_5 rfl ?_
          refine g_iadd (t := 73) dL_shares_72 rfl ?_
          refine gm_iald_x (a := 41) (n := 64) (t := 74) l6_41 l9_41 s_41 dL_shares_73 (ix_ma _ _ _) (by omega) (by decide) rfl ?_
          rw [gup_rowo _ _ _ (show 41 ≠ w by omega), e41, a3 _ 5 hf (by decide)]
          refine g_iadd (t := 75) dL_shares_74 rfl ?_
          refine g_istore (i := 7) (t := 77) (L1 := [_, _, _, _, _, _, _, _, _, _, _, _, _, _, _, _, _, _, _, _, _, _, _, _]) dL_shares_75 (by decide) rfl rfl rfl ?_
          refine g_iinc (i := 5) (t := 80) (L1 := [_, _, _, _, _, _, _, _, _, _, _, _, _, _, _, _, _, _, _, _, _, _, _, _]) dL_shares_77 rfl (gi_1 _) (by decide) rfl rfl rfl ?_
          refine g_iinc (i := 9) (t := 83) (L1 := [_, _, _, _, _, _, _, _, _, _, _, _, _, _, _, _, _, _, _, _, _, _, _, _]) dL_shares_80 rfl (gi_1 _) (by decide) rfl rfl rfl ?_
          refine g_goto (t := 18) dL_shares_83 (by decide) ?_
          refine Wp.eq rfl ?_ rfl rfl (ih _ (by omega) (hs.up (by simp)) (fun j hj => ?_))
          · show _ = [.ref 41, .ref 42, .ref 43, .ref z, .int (nI l), .int (nI (mA S l p + 1)), .int (smS (fun p => wsh S.1.2.1 ((sQ S.1).2.2.2 p)) (sA S l).2.1 (mA S l p) + wsh S.1.2.1 ((sQ S.1).2.2.2 ((sA S l).2.1 + mA S l p))), .int (smS (fun p => S.1.2.1 ((sQ S.1).2.2.2 p) 5) (sA S l).2.1 (mA S l p) + S.1.2.1 ((sQ S.1).2.2.2 ((sA S l).2.1 + mA S l p)) 5), .ref w, .int (nI (p + 1)), u10, u11, u12, u13, u14, u15, u16, u17, u18, u19, u20, u21, u22, u23]
            rw [y3]
          · rw [gup_at]
            by_cases q : j = mA S l p
            · rw [if_pos q, q, ef]
            · rw [if_neg q]; exact hJ j (by omega)
    · have ih := ih (p + 1)
      rw [mA_n (by omega) hn] at ih
      refine g_iload (i := 9) (t := 20) dL_shares_18 rfl rfl ?_
      refine g_aload_n (i := 2) (r := 43) (t := 21) dL_shares_20 rfl rfl (Or.inl l9_43) rfl ?_
      refine g_bipush (t := 23) dL_shares_21 c_bipush_16 rfl ?_
      refine gm_iald_x (a := 43) (n := 24) (t := 24) l6_43 l9_43 s_43 dL_shares_23 rfl (by omega) (by decide) rfl ?_
      rw [e43, o2]
      refine g_icmp_ge_n (t1 := 86) (t2 := 27) dL_shares_24 (by decide) rfl (by omega) (by omega) (fun h24 => ?_) (fun h24 => ?_)
      · exfalso; omega
      · refine g_aload_n (i := 2) (r := 43) (t := 28) dL_shares_27 rfl rfl (Or.inl l9_43) rfl ?_
        refine g_bipush (t := 30) dL_shares_28 c_bipush_8 rfl ?_
        refine g_iload (i := 9) (t := 32) dL_shares_30 rfl rfl ?_
        refine g_iadd (t := 33) dL_shares_32 rfl ?_
        refine gm_iald_x (a := 43) (n := 24) (t := 34) l6_43 l9_43 s_43 dL_shares_33 (ix_a _ _) (by omega) (by decide) rfl ?_
        rw [e43, o5]
        refine g_iload (i := 4) (t := 36) dL_shares_34 rfl rfl ?_
        refine g_icmp_ne (t1 := 80) (t2 := 39) dL_shares_36 (by decide) rfl (fun h36 => ?_) (fun h36 => ?_)
        · refine g_iinc (i := 9) (t := 83) (L1 := [_, _, _, _, _, _, _, _, _, _, _, _, _, _, _, _, _, _, _, _, _, _, _, _]) dL_shares_80 rfl (gi_1 _) (by decide) rfl rfl rfl ?_
          refine g_goto (t := 18) dL_shares_83 (by decide) ?_
          exact ih J (by omega) hs hJ
        · exact absurd ((nI_eq (by omega) (by omega)).mp h36) hn
end SHR

