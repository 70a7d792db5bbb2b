/-! FlexRows$Lines: freezing what was corrected -/
section X1D
variable {E : gE} {I : Nat → Nat → Int32} {h : gX}
theorem i_gt {a b : Int32} (h : ¬ a ≤ b) : b < a := Int32.not_le.mp h
theorem i_le {a b : Int32} (h : ¬ a < b) : b ≤ a := Int32.not_lt.mp h
theorem i_nlt {a b : Int32} (h : b ≤ a) : ¬ a < b := Int32.not_lt.mpr h
/-- a correction that goes the sum's way -/
def sameW (w x : Int32) : Prop := (0 < w ∧ 0 < x) ∨ (w < 0 ∧ x < 0)
theorem x1_fc_loop1_18 {A : lA} {z : lZ} {c t : Nat} {f : Nat → Nat} {I0 : Nat → Nat → Int32} (hO : xO I0 (xP I0) c f) (hA : A.1.1 = xP I0) (hf : A.1.2.2.2 = f) (hhi : A.2.1 + A.2.2 ≤ c) (hS : ∀ q, A.2.1 ≤ q → q < A.2.1 + A.2.2 → I0 24 q = szG A z q ∧ I0 25 q = ovS (z.1 q) ∧ ∀ t, z.1 q = some t → t ≤ 16) {K : gK} : ∀ (d k : Nat) (I : Nat → Nat → Int32) (v6 : Value), k + d = A.2.2 → gSame [24, 26] I0 I → strN I I0 24 A.2.1 (A.2.1 + k) (nxL A z t).2 → (∀ q, A.2.1 ≤ q → q < A.2.1 + k → z.1 q = none → I 26 q = crL A z q) →
    (∀ I v5 v6, gSame [24, 26] I0 I → strN I I0 24 A.2.1 (A.2.1 + A.2.2) (nxL A z t).2 → (∀ q, A.2.1 ≤ q → q < A.2.1 + A.2.2 → z.1 q = none → I 26 q = crL A z q) → Wp E fX1_freezeCorrected (gn h) 102 [.ref 18, .int (nI A.2.1), .int (nI (A.2.1 + A.2.2)), .int (nI t), .int (wrL A z), v5, v6] [] (gM I h) K) →
    Wp E fX1_freezeCorrected (gn h) 6 [.ref 18, .int (nI A.2.1), .int (nI (A.2.1 + A.2.2)), .int (nI t), .int (smS (coG A z) A.2.1 k), .int (nI (A.2.1 + k)), v6] [] (gM I h) K := by
  intro d
  have hc := hO.1
  induction d with
  | zero =>
    intro k I v6 hk hs zs zc kk
    have hk : k = A.2.2 := by omega
    subst hk
    refine g_iload (i := 5) (t := 8) dX1_freezeCorrected_6 rfl rfl ?_
    refine g_iload_n (i := 2) (t := 9) dX1_freezeCorrected_8 rfl rfl rfl ?_
    refine g_icmp_ge_n (t1 := 102) (t2 := 12) dX1_freezeCorrected_9 (by decide) rfl (by omega) (by omega) (fun h9 => ?_) (fun h9 => ?_)
    · exact kk I _ _ hs zs zc
    · exfalso; omega
  | succ d ih =>
    intro k I v6 hk hs zs zc kk
    obtain ⟨e1, e2, e3⟩ := hS (A.2.1 + k) (by omega) (by omega)
    have hO1 := hO.keepP hs rfl
    have eP : xP I = xP I0 := by funext i w; show I 6 _ = I0 6 _; rw [hs.at 6 rfl]
    obtain ⟨g1, g2, g3, g4, g5, g6, g7⟩ := hO1.2.2 (A.2.1 + k) (by omega)
    have hov := ovS_none _ e3
    have e2' : I 25 (A.2.1 + k) = ovS (z.1 (A.2.1 + k)) := by rw [hs.at 25 rfl, e2]
    have e1' : I 24 (A.2.1 + k) = szG A z (A.2.1 + k) := by rw [zs.ge (Nat.le_refl _), e1]
    by_cases hz : z.1 (A.2.1 + k) = none
    · have e1s : szG A z (A.2.1 + k) = nzL A z (A.2.1 + k) := by rw [szG, if_pos hz]
      rw [e1s] at e1'
      refine g_iload (i := 5) (t := 8) dX1_freezeCorrected_6 rfl rfl ?_
      refine g_iload_n (i := 2) (t := 9) dX1_freezeCorrected_8 rfl rfl rfl ?_
      refine g_icmp_ge_n (t1 := 102) (t2 := 12) dX1_freezeCorrected_9 (by decide) rfl (by omega) (by omega) (fun h9 => ?_) (fun h9 => ?_)
      · exfalso; omega
      · refine g_aload_n (i := 0) (r := 18) (t := 13) dX1_freezeCorrected_12 rfl rfl (Or.inl l9_18) rfl ?_
        refine gm_getR (o := 18) (ci := 1) (k := 7) (r := 25) (t := 16) l6_18 l9_18 s_18 gf_X1_31 rfl r_18_7 l9_25 dX1_freezeCorrected_13 rfl ?_
        refine g_iload (i := 5) (t := 18) dX1_freezeCorrected_16 rfl rfl ?_
        refine gm_iald_n (a := 25) (n := 16) (t := 19) l6_25 l9_25 s_25 dX1_freezeCorrected_18 (by omega) (by decide) rfl ?_
        rw [e2']
        refine g_iconst (t := 20) dX1_freezeCorrected_19 c_iconst_m1 rfl ?_
        refine g_icmp_ne (t1 := 96) (t2 := 23) dX1_freezeCorrected_20 (by decide) rfl (fun h20 => ?_) (fun h20 => ?_)
        · exact absurd (hov.mpr hz) h20
        · refine g_aload_n (i := 0) (r := 18) (t := 24) dX1_freezeCorrected_23 rfl rfl (Or.inl l9_18) rfl ?_
          refine gm_getR (o := 18) (ci := 1) (k := 6) (r := 24) (t := 27) l6_18 l9_18 s_18 gf_X1_28 rfl r_18_6 l9_24 dX1_freezeCorrected_24 rfl ?_
          refine g_iload (i := 5) (t := 29) dX1_freezeCorrected_27 rfl rfl ?_
          refine gm_iald_n (a := 24) (n := 16) (t := 30) l6_24 l9_24 s_24 dX1_freezeCorrected_29 (by omega) (by decide) rfl ?_
          rw [e1']
          refine g_istore (i := 6) (t := 32) (L1 := [_, _, _, _, _, _, _]) dX1_freezeCorrected_30 (by decide) rfl rfl rfl ?_
          refine g_aload_n (i := 0) (r := 18) (t := 33) dX1_freezeCorrected_32 rfl rfl (Or.inl l9_18) rfl ?_
          refine gm_getR (o := 18) (ci := 1) (k := 6) (r := 24) (t := 36) l6_18 l9_18 s_18 gf_X1_28 rfl r_18_6 l9_24 dX1_freezeCorrected_33 rfl ?_
          refine g_iload (i := 5) (t := 38) dX1_freezeCorrected_36 rfl rfl ?_
          refine g_iload (i := 6) (t := 40) dX1_freezeCorrected_38 rfl rfl ?_
          refine g_aload_n (i := 0) (r := 18) (t := 41) dX1_freezeCorrected_40 rfl rfl (Or.inl l9_18) rfl ?_
          refine gm_getR (o := 18) (ci := 1) (k := 10) (r := 11) (t := 44) l6_18 l9_18 s_18 gf_X1_41 rfl r_18_10 l9_11 dX1_freezeCorrected_41 rfl ?_
          refine gm_getR (o := 11) (ci := 2) (k := 3) (r := 14) (t := 47) l6_11 l9_11 s_11 gf_X1_118 rfl r_11_3 l9_14 dX1_freezeCorrected_44 rfl ?_
          refine g_iload (i := 5) (t := 49) dX1_freezeCorrected_47 rfl rfl ?_
          refine gm_iald_n (a := 14) (n := 16) (t := 50) l6_14 l9_14 s_14 dX1_freezeCorrected_49 (by omega) (by decide) rfl ?_
          rw [g4]
          refine g_max (t := 53) k_X1_105 k_max2 k_ma3 k_max4 (by decide) (by decide) (Nat.le_of_ble_eq_true rfl) dX1_freezeCorrected_50 rfl ?_
          refine g_aload_n (i := 0) (r := 18) (t := 54) dX1_freezeCorrected_53 rfl rfl (Or.inl l9_18) rfl ?_
          refine gm_getR (o := 18) (ci := 1) (k := 10) (r := 11) (t := 57) l6_18 l9_18 s_18 gf_X1_41 rfl r_18_10 l9_11 dX1_freezeCorrected_54 rfl ?_
          refine gm_getR (o := 11) (ci := 2) (k := 4) (r := 15) (t := 60) l6_11 l9_11 s_11 gf_X1_121 rfl r_11_4 l9_15 dX1_freezeCorrected_57 rfl ?_
          refine g_iload (i := 5) (t := 62) dX1_freezeCorrected_60 rfl rfl ?_
          refine gm_iald_n (a := 15) (n := 16) (t := 63) l6_15 l9_15 s_15 dX1_freezeCorrected_62 (by omega) (by decide) rfl ?_
          rw [g5]
          refine g_min (t := 66) k_X1_124 k_min2 k_ma3 k_min4 (by decide) (by decide) (Nat.le_of_ble_eq_true rfl) dX1_freezeCorrected_63 rfl ?_
          refine g_top (y := czL A z (A.2.1 + k)) (by rw [czL, hA, hf, ← eP]; rfl) ?_
          refine gm_iast_n (a := 24) (n := 16) (t := 67) l6_24 l9_24 s_24 dX1_freezeCorrected_66 (by omega) (by decide) rfl ?_
          refine g_aload_n (i := 0) (r := 18) (t := 68) dX1_freezeCorrected_67 rfl rfl (Or.inl l9_18) rfl ?_
          refine gm_getR (o := 18) (ci := 1) (k := 8) (r := 26) (t := 71) l6_18 l9_18 s_18 gf_X1_34 rfl r_18_8 l9_26 dX1_freezeCorrected_68 rfl ?_
          refine g_iload (i := 5) (t := 73) dX1_freezeCorrected_71 rfl rfl ?_
          refine g_aload_n (i := 0) (r := 18) (t := 74) dX1_freezeCorrected_73 rfl rfl (Or.inl l9_18) rfl ?_
          refine gm_getR (o := 18) (ci := 1) (k := 6) (r := 24) (t := 77) l6_18 l9_18 s_18 gf_X1_28 rfl r_18_6 l9_24 dX1_freezeCorrected_74 rfl ?_
          refine g_iload (i := 5) (t := 79) dX1_freezeCorrected_77 rfl rfl ?_
          refine gm_iald_n (a := 24) (n := 16) (t := 80) l6_24 l9_24 s_24 dX1_freezeCorrected_79 (by omega) (by decide) rfl ?_
          rw [gup_self]
          refine g_iload (i := 6) (t := 82) dX1_freezeCorrected_80 rfl rfl ?_
          refine g_isub (t := 83) dX1_freezeCorrected_82 rfl ?_
          refine g_top (y := crL A z (A.2.1 + k)) rfl ?_
          refine gm_iast_n (a := 26) (n := 16) (t := 84) l6_26 l9_26 s_26 dX1_freezeCorrected_83 (by omega) (by decide) rfl ?_
          refine g_iload (i := 4) (t := 86) dX1_freezeCorrected_84 rfl rfl ?_
          refine g_aload_n (i := 0) (r := 18) (t := 87) dX1_freezeCorrected_86 rfl rfl (Or.inl l9_18) rfl ?_
          refine gm_getR (o := 18) (ci := 1) (k := 8) (r := 26) (t := 90) l6_18 l9_18 s_18 gf_X1_34 rfl r_18_8 l9_26 dX1_freezeCorrected_87 rfl ?_
          refine g_iload (i := 5) (t := 92) dX1_freezeCorrected_90 rfl rfl ?_
          refine gm_iald_n (a := 26) (n := 16) (t := 93) l6_26 l9_26 s_26 dX1_freezeCorrected_92 (by omega) (by decide) rfl ?_
          rw [gup_self]
          refine g_iadd (t := 94) dX1_freezeCorrected_93 rfl ?_
          refine g_top (y := smS (coG A z) A.2.1 (k + 1)) (by rw [smS, coG, if_pos hz]) ?_
          refine g_istore (i := 4) (t := 96) (L1 := [_, _, _, _, _, _, _]) dX1_freezeCorrected_94 (by decide) rfl rfl rfl ?_
          refine g_iinc (i := 5) (t := 99) (L1 := [_, _, _, _, _, _, _]) dX1_freezeCorrected_96 rfl (gi_1 _) (by decide) rfl rfl rfl ?_
          refine g_goto (t := 6) dX1_freezeCorrected_99 (by decide) ?_
          refine ih (k + 1) _ _ (by omega) ((hs.up rfl).up rfl) ((zs.next (by omega) ?_).keep (gup_rowo _ _ _ (by decide))) (fun q h1 h2 h3 => ?_) kk
          · show _ = (if z.1 (A.2.1 + k) = none then _ else _)
            rw [if_pos hz]
          · by_cases y : q = A.2.1 + k
            · subst y; exact gup_self _ _ _ _
            · rw [gup_k _ _ _ y, gup_o _ _ _ _ (by decide)]; exact zc q h1 (by omega) h3
    · refine g_iload (i := 5) (t := 8) dX1_freezeCorrected_6 rfl rfl ?_
      refine g_iload_n (i := 2) (t := 9) dX1_freezeCorrected_8 rfl rfl rfl ?_
      refine g_icmp_ge_n (t1 := 102) (t2 := 12) dX1_freezeCorrected_9 (by decide) rfl (by omega) (by omega) (fun h9 => ?_) (fun h9 => ?_)
      · exfalso; omega
      · refine g_aload_n (i := 0) (r := 18) (t := 13) dX1_freezeCorrected_12 rfl rfl (Or.inl l9_18) rfl ?_
        refine gm_getR (o := 18) (ci := 1) (k := 7) (r := 25) (t := 16) l6_18 l9_18 s_18 gf_X1_31 rfl r_18_7 l9_25 dX1_freezeCorrected_13 rfl ?_
        refine g_iload (i := 5) (t := 18) dX1_freezeCorrected_16 rfl rfl ?_
        refine gm_iald_n (a := 25) (n := 16) (t := 19) l6_25 l9_25 s_25 dX1_freezeCorrected_18 (by omega) (by decide) rfl ?_
        rw [e2']
        refine g_iconst (t := 20) dX1_freezeCorrected_19 c_iconst_m1 rfl ?_
        refine g_icmp_ne (t1 := 96) (t2 := 23) dX1_freezeCorrected_20 (by decide) rfl (fun h20 => ?_) (fun h20 => ?_)
        · refine g_iinc (i := 5) (t := 99) (L1 := [_, _, _, _, _, _, _]) dX1_freezeCorrected_96 rfl (gi_1 _) (by decide) rfl rfl rfl ?_
          refine g_goto (t := 6) dX1_freezeCorrected_99 (by decide) ?_
          refine Wp.eq rfl ?_ rfl rfl (ih (k + 1) I v6 (by omega) hs (zs.skip (by omega) ?_) (fun q h1 h2 h3 => ?_) kk)
          · rw [smS, coG, if_neg hz, add_n0]; rfl
          · rw [e1, szG, if_neg hz]; exact (if_neg hz).symm
          · by_cases y : q = A.2.1 + k
            · subst y; exact absurd h3 hz
            · exact zc q h1 (by omega) h3
        · exact absurd (hov.mp h20) hz
theorem x1_fc_loop2_18 {A : lA} {z : lZ} {t : Nat} {I0 : Nat → Nat → Int32} (hhi : A.2.1 + A.2.2 ≤ 16) (hS : ∀ q, A.2.1 ≤ q → q < A.2.1 + A.2.2 → I0 25 q = ovS (z.1 q) ∧ ∀ t, z.1 q = some t → t ≤ 16) (hC : ∀ q, A.2.1 ≤ q → q < A.2.1 + A.2.2 → z.1 q = none → I0 26 q = crL A z q) {K : gK} : ∀ (d k : Nat) (I : Nat → Nat → Int32) (v6 : Value), k + d = A.2.2 → gSame [25] I0 I → strN I I0 25 A.2.1 (A.2.1 + k) (fun q => ovS ((nxL A z t).1 q)) →
    (∀ I L, gSame [25] I0 I → strN I I0 25 A.2.1 (A.2.1 + A.2.2) (fun q => ovS ((nxL A z t).1 q)) → Wp E fX1_freezeCorrected (gn h) 183 L [] (gM I h) K) →
    Wp E fX1_freezeCorrected (gn h) 105 [.ref 18, .int (nI A.2.1), .int (nI (A.2.1 + A.2.2)), .int (nI t), .int (wrL A z), .int (nI (A.2.1 + k)), v6] [] (gM I h) K := by
  intro d
  induction d with
  | zero =>
    intro k I v6 hk hs zs kk
    have hk : k = A.2.2 := by omega
    subst hk
    refine g_iload (i := 5) (t := 107) dX1_freezeCorrected_105 rfl rfl ?_
    refine g_iload_n (i := 2) (t := 108) dX1_freezeCorrected_107 rfl rfl rfl ?_
    refine g_icmp_ge_n (t1 := 183) (t2 := 111) dX1_freezeCorrected_108 (by decide) rfl (by omega) (by omega) (fun h108 => ?_) (fun h108 => ?_)
    · exact kk I _ hs zs
    · exfalso; omega
  | succ d ih =>
    intro k I v6 hk hs zs kk
    obtain ⟨e2, e3⟩ := hS (A.2.1 + k) (by omega) (by omega)
    have hov := ovS_none _ e3
    have e2' : I 25 (A.2.1 + k) = ovS (z.1 (A.2.1 + k)) := by rw [zs.ge (Nat.le_refl _), e2]
    by_cases hz : z.1 (A.2.1 + k) = none
    · have e8 : I 26 (A.2.1 + k) = crL A z (A.2.1 + k) := by rw [hs.at 26 rfl]; exact hC _ (by omega) (by omega) hz
      have T1 : fzL A z (A.2.1 + k) = true → ∀ v6, Wp E fX1_freezeCorrected (gn h) 169 [.ref 18, .int (nI A.2.1), .int (nI (A.2.1 + A.2.2)), .int (nI t), .int (wrL A z), .int (nI (A.2.1 + k)), v6] [] (gM I h) K := by
        intro hb v6
        refine g_aload_n (i := 0) (r := 18) (t := 170) dX1_freezeCorrected_169 rfl rfl (Or.inl l9_18) rfl ?_
        refine gm_getR (o := 18) (ci := 1) (k := 7) (r := 25) (t := 173) l6_18 l9_18 s_18 gf_X1_31 rfl r_18_7 l9_25 dX1_freezeCorrected_170 rfl ?_
        refine g_iload (i := 5) (t := 175) dX1_freezeCorrected_173 rfl rfl ?_
        refine g_iload_n (i := 3) (t := 176) dX1_freezeCorrected_175 rfl rfl rfl ?_
        refine gm_iast_n (a := 25) (n := 16) (t := 177) l6_25 l9_25 s_25 dX1_freezeCorrected_176 (by omega) (by decide) rfl ?_
        refine g_iinc (i := 5) (t := 180) (L1 := [_, _, _, _, _, _, _]) dX1_freezeCorrected_177 rfl (gi_1 _) (by decide) rfl rfl rfl ?_
        refine g_goto (t := 105) dX1_freezeCorrected_180 (by decide) ?_
        refine ih (k + 1) _ _ (by omega) (hs.up rfl) (zs.next (by omega) ?_) kk
        show _ = ovS (if z.1 (A.2.1 + k) = none then (if fzL A z (A.2.1 + k) then some t else none) else z.1 (A.2.1 + k))
        rw [if_pos hz, if_pos hb]
        rfl
      have T0 : fzL A z (A.2.1 + k) = false → ∀ v6, Wp E fX1_freezeCorrected (gn h) 177 [.ref 18, .int (nI A.2.1), .int (nI (A.2.1 + A.2.2)), .int (nI t), .int (wrL A z), .int (nI (A.2.1 + k)), v6] [] (gM I h) K := by
        intro hb v6
        refine g_iinc (i := 5) (t := 180) (L1 := [_, _, _, _, _, _, _]) dX1_freezeCorrected_177 rfl (gi_1 _) (by decide) rfl rfl rfl ?_
        refine g_goto (t := 105) dX1_freezeCorrected_180 (by decide) ?_
        refine ih (k + 1) _ _ (by omega) hs (zs.skip (by omega) ?_) kk
        rw [e2]
        show _ = ovS (if z.1 (A.2.1 + k) = none then (if fzL A z (A.2.1 + k) then some t else none) else z.1 (A.2.1 + k))
        rw [if_pos hz, if_neg (by rw [hb]; decide), hz]
      have T : ∀ b : Bool, (b = true ↔ sameW (wrL A z) (crL A z (A.2.1 + k))) → Wp E fX1_freezeCorrected (gn h) 148 [.ref 18, .int (nI A.2.1), .int (nI (A.2.1 + A.2.2)), .int (nI t), .int (wrL A z), .int (nI (A.2.1 + k)), .int (bI b)] [] (gM I h) K := by
        intro b hb
        refine g_aload_n (i := 0) (r := 18) (t := 149) dX1_freezeCorrected_148 rfl rfl (Or.inl l9_18) rfl ?_
        refine gm_getR (o := 18) (ci := 1) (k := 7) (r := 25) (t := 152) l6_18 l9_18 s_18 gf_X1_31 rfl r_18_7 l9_25 dX1_freezeCorrected_149 rfl ?_
        refine g_iload (i := 5) (t := 154) dX1_freezeCorrected_152 rfl rfl ?_
        refine gm_iald_n (a := 25) (n := 16) (t := 155) l6_25 l9_25 s_25 dX1_freezeCorrected_154 (by omega) (by decide) rfl ?_
        rw [e2']
        refine g_iconst (t := 156) dX1_freezeCorrected_155 c_iconst_m1 rfl ?_
        refine g_icmp_ne (t1 := 177) (t2 := 159) dX1_freezeCorrected_156 (by decide) rfl (fun h156 => ?_) (fun h156 => ?_)
        · exact absurd (hov.mpr hz) h156
        · refine g_iload (i := 4) (t := 161) dX1_freezeCorrected_159 rfl rfl ?_
          refine g_if_eq (t1 := 169) (t2 := 164) dX1_freezeCorrected_161 (by decide) rfl (fun h161 => ?_) (fun h161 => ?_)
          · refine T1 ?_ _
            exact decide_eq_true (Or.inl h161)
          · refine g_iload (i := 6) (t := 166) dX1_freezeCorrected_164 rfl rfl ?_
            refine g_if_eq (t1 := 177) (t2 := 169) dX1_freezeCorrected_166 (by decide) rfl (fun h166 => ?_) (fun h166 => ?_)
            · refine T0 ?_ _
              exact decide_eq_false (fun q => q.elim h161 (fun y => absurd (hb.mpr y) (by rw [bI_0 h166]; decide)))
            · refine T1 ?_ _
              exact decide_eq_true (Or.inr (hb.mp (bI_n0 h166)))
      refine g_iload (i := 5) (t := 107) dX1_freezeCorrected_105 rfl rfl ?_
      refine g_iload_n (i := 2) (t := 108) dX1_freezeCorrected_107 rfl rfl rfl ?_
      refine g_icmp_ge_n (t1 := 183) (t2 := 111) dX1_freezeCorrected_108 (by decide) rfl (by omega) (by omega) (fun h108 => ?_) (fun h108 => ?_)
      · exfalso; omega
      · refine g_iload (i := 4) (t := 113) dX1_freezeCorrected_111 rfl rfl ?_
        refine g_if_le (t1 := 126) (t2 := 116) dX1_freezeCorrected_113 (by decide) rfl (fun h113 => ?_) (fun h113 => ?_)
        · refine g_iload (i := 4) (t := 128) dX1_freezeCorrected_126 rfl rfl ?_
          refine g_if_ge (t1 := 145) (t2 := 131) dX1_freezeCorrected_128 (by decide) rfl (fun h128 => ?_) (fun h128 => ?_)
          · refine g_iconst (t := 146) dX1_freezeCorrected_145 c_iconst_0 rfl ?_
            refine g_istore (i := 6) (t := 148) (L1 := [_, _, _, _, _, _, _]) dX1_freezeCorrected_146 (by decide) rfl rfl rfl ?_
            first
            | exact T true ⟨fun _ => Or.inl ⟨i_gt h113, h123⟩, fun _ => rfl⟩
            | exact T true ⟨fun _ => Or.inr ⟨i_gt h128, i_gt h138⟩, fun _ => rfl⟩
            | refine T false ⟨fun q => absurd q (by decide), fun q => ?_⟩
              rcases q with ⟨q1, q2⟩ | ⟨q1, q2⟩
              · first
                | exact absurd q1 (i_nlt h113)
                | exact absurd q2 h123
              · first
                | exact absurd q1 (i_nlt h128)
                | exact absurd q2 (i_nlt h138)
          · refine g_aload_n (i := 0) (r := 18) (t := 132) dX1_freezeCorrected_131 rfl rfl (Or.inl l9_18) rfl ?_
            refine gm_getR (o := 18) (ci := 1) (k := 8) (r := 26) (t := 135) l6_18 l9_18 s_18 gf_X1_34 rfl r_18_8 l9_26 dX1_freezeCorrected_132 rfl ?_
            refine g_iload (i := 5) (t := 137) dX1_freezeCorrected_135 rfl rfl ?_
            refine gm_iald_n (a := 26) (n := 16) (t := 138) l6_26 l9_26 s_26 dX1_freezeCorrected_137 (by omega) (by decide) rfl ?_
            rw [e8]
            refine g_if_ge (t1 := 145) (t2 := 141) dX1_freezeCorrected_138 (by decide) rfl (fun h138 => ?_) (fun h138 => ?_)
            · refine g_iconst (t := 146) dX1_freezeCorrected_145 c_iconst_0 rfl ?_
              refine g_istore (i := 6) (t := 148) (L1 := [_, _, _, _, _, _, _]) dX1_freezeCorrected_146 (by decide) rfl rfl rfl ?_
              first
              | exact T true ⟨fun _ => Or.inl ⟨i_gt h113, h123⟩, fun _ => rfl⟩
              | exact T true ⟨fun _ => Or.inr ⟨i_gt h128, i_gt h138⟩, fun _ => rfl⟩
              | refine T false ⟨fun q => absurd q (by decide), fun q => ?_⟩
                rcases q with ⟨q1, q2⟩ | ⟨q1, q2⟩
                · first
                  | exact absurd q1 (i_nlt h113)
                  | exact absurd q2 h123
                · first
                  | exact absurd q1 (i_nlt h128)
                  | exact absurd q2 (i_nlt h138)
            · refine g_iconst (t := 142) dX1_freezeCorrected_141 c_iconst_1 rfl ?_
              refine g_goto (t := 146) dX1_freezeCorrected_142 (by decide) ?_
              refine g_istore (i := 6) (t := 148) (L1 := [_, _, _, _, _, _, _]) dX1_freezeCorrected_146 (by decide) rfl rfl rfl ?_
              first
              | exact T true ⟨fun _ => Or.inl ⟨i_gt h113, h123⟩, fun _ => rfl⟩
              | exact T true ⟨fun _ => Or.inr ⟨i_gt h128, i_gt h138⟩, fun _ => rfl⟩
              | refine T false ⟨fun q => absurd q (by decide), fun q => ?_⟩
                rcases q with ⟨q1, q2⟩ | ⟨q1, q2⟩
                · first
                  | exact absurd q1 (i_nlt h113)
                  | exact absurd q2 h123
                · first
                  | exact absurd q1 (i_nlt h128)
                  | exact absurd q2 (i_nlt h138)
        · refine g_aload_n (i := 0) (r := 18) (t := 117) dX1_freezeCorrected_116 rfl rfl (Or.inl l9_18) rfl ?_
          refine gm_getR (o := 18) (ci := 1) (k := 8) (r := 26) (t := 120) l6_18 l9_18 s_18 gf_X1_34 rfl r_18_8 l9_26 dX1_freezeCorrected_117 rfl ?_
          refine g_iload (i := 5) (t := 122) dX1_freezeCorrected_120 rfl rfl ?_
          refine gm_iald_n (a := 26) (n := 16) (t := 123) l6_26 l9_26 s_26 dX1_freezeCorrected_122 (by omega) (by decide) rfl ?_
          rw [e8]
          refine g_if_gt (t1 := 141) (t2 := 126) dX1_freezeCorrected_123 (by decide) rfl (fun h123 => ?_) (fun h123 => ?_)
          · refine g_iconst (t := 142) dX1_freezeCorrected_141 c_iconst_1 rfl ?_
            refine g_goto (t := 146) dX1_freezeCorrected_142 (by decide) ?_
            refine g_istore (i := 6) (t := 148) (L1 := [_, _, _, _, _, _, _]) dX1_freezeCorrected_146 (by decide) rfl rfl rfl ?_
            first
            | exact T true ⟨fun _ => Or.inl ⟨i_gt h113, h123⟩, fun _ => rfl⟩
            | exact T true ⟨fun _ => Or.inr ⟨i_gt h128, i_gt h138⟩, fun _ => rfl⟩
            | refine T false ⟨fun q => absurd q (by decide), fun q => ?_⟩
              rcases q with ⟨q1, q2⟩ | ⟨q1, q2⟩
              · first
                | exact absurd q1 (i_nlt h113)
                | exact absurd q2 h123
              · first
                | exact absurd q1 (i_nlt h128)
                | exact absurd q2 (i_nlt h138)
          · refine g_iload (i := 4) (t := 128) dX1_freezeCorrected_126 rfl rfl ?_
            refine g_if_ge (t1 := 145) (t2 := 131) dX1_freezeCorrected_128 (by decide) rfl (fun h128 => ?_) (fun h128 => ?_)
            · refine g_iconst (t := 146) dX1_freezeCorrected_145 c_iconst_0 rfl ?_
              refine g_istore (i := 6) (t := 148) (L1 := [_, _, _, _, _, _, _]) dX1_freezeCorrected_146 (by decide) rfl rfl rfl ?_
              first
              | exact T true ⟨fun _ => Or.inl ⟨i_gt h113, h123⟩, fun _ => rfl⟩
              | exact T true ⟨fun _ => Or.inr ⟨i_gt h128, i_gt h138⟩, fun _ => rfl⟩
              | refine T false ⟨fun q => absurd q (by decide), fun q => ?_⟩
                rcases q with ⟨q1, q2⟩ | ⟨q1, q2⟩
                · first
                  | exact absurd q1 (i_nlt h113)
                  | exact absurd q2 h123
                · first
                  | exact absurd q1 (i_nlt h128)
                  | exact absurd q2 (i_nlt h138)
            · refine g_aload_n (i := 0) (r := 18) (t := 132) dX1_freezeCorrected_131 rfl rfl (Or.inl l9_18) rfl ?_
              refine gm_getR (o := 18) (ci := 1) (k := 8) (r := 26) (t := 135) l6_18 l9_18 s_18 gf_X1_34 rfl r_18_8 l9_26 dX1_freezeCorrected_132 rfl ?_
              refine g_iload (i := 5) (t := 137) dX1_freezeCorrected_135 rfl rfl ?_
              refine gm_iald_n (a := 26) (n := 16) (t := 138) l6_26 l9_26 s_26 dX1_freezeCorrected_137 (by omega) (by decide) rfl ?_
              rw [e8]
              refine g_if_ge (t1 := 145) (t2 := 141) dX1_freezeCorrected_138 (by decide) rfl (fun h138 => ?_) (fun h138 => ?_)
              · refine g_iconst (t := 146) dX1_freezeCorrected_145 c_iconst_0 rfl ?_
                refine g_istore (i := 6) (t := 148) (L1 := [_, _, _, _, _, _, _]) dX1_freezeCorrected_146 (by decide) rfl rfl rfl ?_
                first
                | exact T true ⟨fun _ => Or.inl ⟨i_gt h113, h123⟩, fun _ => rfl⟩
                | exact T true ⟨fun _ => Or.inr ⟨i_gt h128, i_gt h138⟩, fun _ => rfl⟩
                | refine T false ⟨fun q => absurd q (by decide), fun q => ?_⟩
                  rcases q with ⟨q1, q2⟩ | ⟨q1, q2⟩
                  · first
                    | exact absurd q1 (i_nlt h113)
                    | exact absurd q2 h123
                  · first
                    | exact absurd q1 (i_nlt h128)
                    | exact absurd q2 (i_nlt h138)
              · refine g_iconst (t := 142) dX1_freezeCorrected_141 c_iconst_1 rfl ?_
                refine g_goto (t := 146) dX1_freezeCorrected_142 (by decide) ?_
                refine g_istore (i := 6) (t := 148) (L1 := [_, _, _, _, _, _, _]) dX1_freezeCorrected_146 (by decide) rfl rfl rfl ?_
                first
                | exact T true ⟨fun _ => Or.inl ⟨i_gt h113, h123⟩, fun _ => rfl⟩
                | exact T true ⟨fun _ => Or.inr ⟨i_gt h128, i_gt h138⟩, fun _ => rfl⟩
                | refine T false ⟨fun q => absurd q (by decide), fun q => ?_⟩
                  rcases q with ⟨q1, q2⟩ | ⟨q1, q2⟩
                  · first
                    | exact absurd q1 (i_nlt h113)
                    | exact absurd q2 h123
                  · first
                    | exact absurd q1 (i_nlt h128)
                    | exact absurd q2 (i_nlt h138)
    · have T : ∀ (v6 : Value) (v6' : Int32), Wp E fX1_freezeCorrected (gn h) 146 [.ref 18, .int (nI A.2.1), .int (nI (A.2.1 + A.2.2)), .int (nI t), .int (wrL A z), .int (nI (A.2.1 + k)), v6] [.int v6'] (gM I h) K := by
        intro v6 v6'
        refine g_istore (i := 6) (t := 148) (L1 := [_, _, _, _, _, _, _]) dX1_freezeCorrected_146 (by decide) rfl rfl rfl ?_
        refine g_aload_n (i := 0) (r := 18) (t := 149) dX1_freezeCorrected_148 rfl rfl (Or.inl l9_18) rfl ?_
        refine gm_getR (o := 18) (ci := 1) (k := 7) (r := 25) (t := 152) l6_18 l9_18 s_18 gf_X1_31 rfl r_18_7 l9_25 dX1_freezeCorrected_149 rfl ?_
        refine g_iload (i := 5) (t := 154) dX1_freezeCorrected_152 rfl rfl ?_
        refine gm_iald_n (a := 25) (n := 16) (t := 155) l6_25 l9_25 s_25 dX1_freezeCorrected_154 (by omega) (by decide) rfl ?_
        rw [e2']
        refine g_iconst (t := 156) dX1_freezeCorrected_155 c_iconst_m1 rfl ?_
        refine g_icmp_ne (t1 := 177) (t2 := 159) dX1_freezeCorrected_156 (by decide) rfl (fun h156 => ?_) (fun h156 => ?_)
        · refine g_iinc (i := 5) (t := 180) (L1 := [_, _, _, _, _, _, _]) dX1_freezeCorrected_177 rfl (gi_1 _) (by decide) rfl rfl rfl ?_
          refine g_goto (t := 105) dX1_freezeCorrected_180 (by decide) ?_
          refine ih (k + 1) _ _ (by omega) hs (zs.skip (by omega) ?_) kk
          rw [e2]
          show _ = ovS (if z.1 (A.2.1 + k) = none then (if fzL A z (A.2.1 + k) then some t else none) else z.1 (A.2.1 + k))
          rw [if_neg hz]
        · exact absurd (hov.mp h156) hz
      refine g_iload (i := 5) (t := 107) dX1_freezeCorrected_105 rfl rfl ?_
      refine g_iload_n (i := 2) (t := 108) dX1_freezeCorrected_107 rfl rfl rfl ?_
      refine g_icmp_ge_n (t1 := 183) (t2 := 111) dX1_freezeCorrected_108 (by decide) rfl (by omega) (by omega) (fun h108 => ?_) (fun h108 => ?_)
      · exfalso; omega
      · refine g_iload (i := 4) (t := 113) dX1_freezeCorrected_111 rfl rfl ?_
        refine g_if_le (t1 := 126) (t2 := 116) dX1_freezeCorrected_113 (by decide) rfl (fun h113 => ?_) (fun h113 => ?_)
        · refine g_iload (i := 4) (t := 128) dX1_freezeCorrected_126 rfl rfl ?_
          refine g_if_ge (t1 := 145) (t2 := 131) dX1_freezeCorrected_128 (by decide) rfl (fun h128 => ?_) (fun h128 => ?_)
          · refine g_iconst (t := 146) dX1_freezeCorrected_145 c_iconst_0 rfl ?_
            exact T _ _
          · refine g_aload_n (i := 0) (r := 18) (t := 132) dX1_freezeCorrected_131 rfl rfl (Or.inl l9_18) rfl ?_
            refine gm_getR (o := 18) (ci := 1) (k := 8) (r := 26) (t := 135) l6_18 l9_18 s_18 gf_X1_34 rfl r_18_8 l9_26 dX1_freezeCorrected_132 rfl ?_
            refine g_iload (i := 5) (t := 137) dX1_freezeCorrected_135 rfl rfl ?_
            refine gm_iald_n (a := 26) (n := 16) (t := 138) l6_26 l9_26 s_26 dX1_freezeCorrected_137 (by omega) (by decide) rfl ?_
            refine g_if_ge (t1 := 145) (t2 := 141) dX1_freezeCorrected_138 (by decide) rfl (fun h138 => ?_) (fun h138 => ?_)
            · refine g_iconst (t := 146) dX1_freezeCorrected_145 c_iconst_0 rfl ?_
              exact T _ _
            · refine g_iconst (t := 142) dX1_freezeCorrected_141 c_iconst_1 rfl ?_
              refine g_goto (t := 146) dX1_freezeCorrected_142 (by decide) ?_
              exact T _ _
        · refine g_aload_n (i := 0) (r := 18) (t := 117) dX1_freezeCorrected_116 rfl rfl (Or.inl l9_18) rfl ?_
          refine gm_getR (o := 18) (ci := 1) (k := 8) (r := 26) (t := 120) l6_18 l9_18 s_18 gf_X1_34 rfl r_18_8 l9_26 dX1_freezeCorrected_117 rfl ?_
          refine g_iload (i := 5) (t := 122) dX1_freezeCorrected_120 rfl rfl ?_
          refine gm_iald_n (a := 26) (n := 16) (t := 123) l6_26 l9_26 s_26 dX1_freezeCorrected_122 (by omega) (by decide) rfl ?_
          refine g_if_gt (t1 := 141) (t2 := 126) dX1_freezeCorrected_123 (by decide) rfl (fun h123 => ?_) (fun h123 => ?_)
          · refine g_iconst (t := 142) dX1_freezeCorrected_141 c_iconst_1 rfl ?_
            refine g_goto (t := 146) dX1_freezeCorrected_142 (by decide) ?_
            exact T _ _
          · refine g_iload (i := 4) (t := 128) dX1_freezeCorrected_126 rfl rfl ?_
            refine g_if_ge (t1 := 145) (t2 := 131) dX1_freezeCorrected_128 (by decide) rfl (fun h128 => ?_) (fun h128 => ?_)
            · refine g_iconst (t := 146) dX1_freezeCorrected_145 c_iconst_0 rfl ?_
              exact T _ _
            · refine g_aload_n (i := 0) (r := 18) (t := 132) dX1_freezeCorrected_131 rfl rfl (Or.inl l9_18) rfl ?_
              refine gm_getR (o := 18) (ci := 1) (k := 8) (r := 26) (t := 135) l6_18 l9_18 s_18 gf_X1_34 rfl r_18_8 l9_26 dX1_freezeCorrected_132 rfl ?_
              refine g_iload (i := 5) (t := 137) dX1_freezeCorrected_135 rfl rfl ?_
              refine gm_iald_n (a := 26) (n := 16) (t := 138) l6_26 l9_26 s_26 dX1_freezeCorrected_137 (by omega) (by decide) rfl ?_
              refine g_if_ge (t1 := 145) (t2 := 141) dX1_freezeCorrected_138 (by decide) rfl (fun h138 => ?_) (fun h138 => ?_)
              · refine g_iconst (t := 146) dX1_freezeCorrected_145 c_iconst_0 rfl ?_
                exact T _ _
              · refine g_iconst (t := 142) dX1_freezeCorrected_141 c_iconst_1 rfl ?_
                refine g_goto (t := 146) dX1_freezeCorrected_142 (by decide) ?_
                exact T _ _
theorem x1_freezeCorrected_18 {A : lA} {z : lZ} {c t : Nat} {f : Nat → Nat} (hO : xO I (xP I) c f) (hA : A.1.1 = xP I) (hf : A.1.2.2.2 = f) (hhi : A.2.1 + A.2.2 ≤ c) (hS : ∀ q, A.2.1 ≤ q → q < A.2.1 + A.2.2 → I 24 q = szG A z q ∧ I 25 q = ovS (z.1 q) ∧ ∀ t, z.1 q = some t → t ≤ 16) : gQV E fX1_freezeCorrected [.ref 18, .int (nI A.2.1), .int (nI (A.2.1 + A.2.2)), .int (nI t)] I h (fun I' => gSame [24, 25, 26] I I' ∧ strN I' I 24 A.2.1 (A.2.1 + A.2.2) (nxL A z t).2 ∧ strN I' I 25 A.2.1 (A.2.1 + A.2.2) (fun q => ovS ((nxL A z t).1 q))) := by
  refine gEv.of rfl (Nat.le_refl _) (Nat.le_of_ble_eq_true rfl) (L := [.ref 18, .int (nI A.2.1), .int (nI (A.2.1 + A.2.2)), .int (nI t), .null, .null, .null]) rfl ?_
  have hc := hO.1
  have T : ∀ I1 v5 v6, gSame [24, 26] I I1 → strN I1 I 24 A.2.1 (A.2.1 + A.2.2) (nxL A z t).2 → (∀ q, A.2.1 ≤ q → q < A.2.1 + A.2.2 → z.1 q = none → I1 26 q = crL A z q) → Wp E fX1_freezeCorrected (gn h) 102 [.ref 18, .int (nI A.2.1), .int (nI (A.2.1 + A.2.2)), .int (nI t), .int (wrL A z), v5, v6] [] (gM I1 h) (gRet fX1_freezeCorrected (gn h) (fun r σ' => ∃ I' : Nat → Nat → Int32, r = none ∧ σ' = gM I' h ∧ gSame [24, 25, 26] I I' ∧ strN I' I 24 A.2.1 (A.2.1 + A.2.2) (nxL A z t).2 ∧ strN I' I 25 A.2.1 (A.2.1 + A.2.2) (fun q => ovS ((nxL A z t).1 q)))) := by
    intro I1 v5 v6 hs zs zc
    refine g_iload_n (i := 1) (t := 103) dX1_freezeCorrected_102 rfl rfl rfl ?_
    refine g_istore (i := 5) (t := 105) (L1 := [_, _, _, _, _, _, _]) dX1_freezeCorrected_103 (by decide) rfl rfl rfl ?_
    refine x1_fc_loop2_18 (I0 := I1) (by omega) (fun q h1 h2 => by rw [hs.at 25 rfl]; exact (hS q h1 h2).2) zc A.2.2 0 I1 _ (by omega) gSame.rf strN.rf (fun I2 L hs2 zs2 => ?_)
    refine g_retV dX1_freezeCorrected_183 rfl ⟨(hs.wk rfl).trans (hs2.wk rfl), zs.keep (hs2.at 24 rfl), fun q => ?_⟩
    rw [zs2 q, hs.at 25 rfl]
  refine g_iconst (t := 1) dX1_freezeCorrected_0 c_iconst_0 rfl ?_
  refine g_istore (i := 4) (t := 3) (L1 := [_, _, _, _, _, _, _]) dX1_freezeCorrected_1 (by decide) rfl rfl rfl ?_
  refine g_iload_n (i := 1) (t := 4) dX1_freezeCorrected_3 rfl rfl rfl ?_
  refine g_istore (i := 5) (t := 6) (L1 := [_, _, _, _, _, _, _]) dX1_freezeCorrected_4 (by decide) rfl rfl rfl ?_
  exact x1_fc_loop1_18 hO hA hf hhi hS A.2.2 0 I _ (by omega) gSame.rf strN.rf (fun q h1 h2 => absurd h2 (by omega)) T
theorem x1_fc_loop1_32 {A : lA} {z : lZ} {c t : Nat} {f : Nat → Nat} {I0 : Nat → Nat → Int32} (hO : xO I0 (xP I0) c f) (hA : A.1.1 = xP I0) (hf : A.1.2.2.2 = f) (hhi : A.2.1 + A.2.2 ≤ c) (hS : ∀ q, A.2.1 ≤ q → q < A.2.1 + A.2.2 → I0 38 q = szG A z q ∧ I0 39 q = ovS (z.1 q) ∧ ∀ t, z.1 q = some t → t ≤ 16) {K : gK} : ∀ (d k : Nat) (I : Nat → Nat → Int32) (v6 : Value), k + d = A.2.2 → gSame [38, 40] I0 I → strN I I0 38 A.2.1 (A.2.1 + k) (nxL A z t).2 → (∀ q, A.2.1 ≤ q → q < A.2.1 + k → z.1 q = none → I 40 q = crL A z q) →
    (∀ I v5 v6, gSame [38, 40] I0 I → strN I I0 38 A.2.1 (A.2.1 + A.2.2) (nxL A z t).2 → (∀ q, A.2.1 ≤ q → q < A.2.1 + A.2.2 → z.1 q = none → I 40 q = crL A z q) → Wp E fX1_freezeCorrected (gn h) 102 [.ref 32, .int (nI A.2.1), .int (nI (A.2.1 + A.2.2)), .int (nI t), .int (wrL A z), v5, v6] [] (gM I h) K) →
    Wp E fX1_freezeCorrected (gn h) 6 [.ref 32, .int (nI A.2.1), .int (nI (A.2.1 + A.2.2)), .int (nI t), .int (smS (coG A z) A.2.1 k), .int (nI (A.2.1 + k)), v6] [] (gM I h) K := by
  intro d
  have hc := hO.1
  induction d with
  | zero =>
    intro k I v6 hk hs zs zc kk
    have hk : k = A.2.2 := by omega
    subst hk
    refine g_iload (i := 5) (t := 8) dX1_freezeCorrected_6 rfl rfl ?_
    refine g_iload_n (i := 2) (t := 9) dX1_freezeCorrected_8 rfl rfl rfl ?_
    refine g_icmp_ge_n (t1 := 102) (t2 := 12) dX1_freezeCorrected_9 (by decide) rfl (by omega) (by omega) (fun h9 => ?_) (fun h9 => ?_)
    · exact kk I _ _ hs zs zc
    · exfalso; omega
  | succ d ih =>
    intro k I v6 hk hs zs zc kk
    obtain ⟨e1, e2, e3⟩ := hS (A.2.1 + k) (by omega) (by omega)
    have hO1 := hO.keepP hs rfl
    have eP : xP I = xP I0 := by funext i w; show I 6 _ = I0 6 _; rw [hs.at 6 rfl]
    obtain ⟨g1, g2, g3, g4, g5, g6, g7⟩ := hO1.2.2 (A.2.1 + k) (by omega)
    have hov := ovS_none _ e3
    have e2' : I 39 (A.2.1 + k) = ovS (z.1 (A.2.1 + k)) := by rw [hs.at 39 rfl, e2]
    have e1' : I 38 (A.2.1 + k) = szG A z (A.2.1 + k) := by rw [zs.ge (Nat.le_refl _), e1]
    by_cases hz : z.1 (A.2.1 + k) = none
    · have e1s : szG A z (A.2.1 + k) = nzL A z (A.2.1 + k) := by rw [szG, if_pos hz]
      rw [e1s] at e1'
      refine g_iload (i := 5) (t := 8) dX1_freezeCorrected_6 rfl rfl ?_
      refine g_iload_n (i := 2) (t := 9) dX1_freezeCorrected_8 rfl rfl rfl ?_
      refine g_icmp_ge_n (t1 := 102) (t2 := 12) dX1_freezeCorrected_9 (by decide) rfl (by omega) (by omega) (fun h9 => ?_) (fun h9 => ?_)
      · exfalso; omega
      · refine g_aload_n (i := 0) (r := 32) (t := 13) dX1_freezeCorrected_12 rfl rfl (Or.inl l9_32) rfl ?_
        refine gm_getR (o := 32) (ci := 1) (k := 7) (r := 39) (t := 16) l6_32 l9_32 s_32 gf_X1_31 rfl r_32_7 l9_39 dX1_freezeCorrected_13 rfl ?_
        refine g_iload (i := 5) (t := 18) dX1_freezeCorrected_16 rfl rfl ?_
        refine gm_iald_n (a := 39) (n := 16) (t := 19) l6_39 l9_39 s_39 dX1_freezeCorrected_18 (by omega) (by decide) rfl ?_
        rw [e2']
        refine g_iconst (t := 20) dX1_freezeCorrected_19 c_iconst_m1 rfl ?_
        refine g_icmp_ne (t1 := 96) (t2 := 23) dX1_freezeCorrected_20 (by decide) rfl (fun h20 => ?_) (fun h20 => ?_)
        · exact absurd (hov.mpr hz) h20
        · refine g_aload_n (i := 0) (r := 32) (t := 24) dX1_freezeCorrected_23 rfl rfl (Or.inl l9_32) rfl ?_
          refine gm_getR (o := 32) (ci := 1) (k := 6) (r := 38) (t := 27) l6_32 l9_32 s_32 gf_X1_28 rfl r_32_6 l9_38 dX1_freezeCorrected_24 rfl ?_
          refine g_iload (i := 5) (t := 29) dX1_freezeCorrected_27 rfl rfl ?_
          refine gm_iald_n (a := 38) (n := 16) (t := 30) l6_38 l9_38 s_38 dX1_freezeCorrected_29 (by omega) (by decide) rfl ?_
          rw [e1']
          refine g_istore (i := 6) (t := 32) (L1 := [_, _, _, _, _, _, _]) dX1_freezeCorrected_30 (by decide) rfl rfl rfl ?_
          refine g_aload_n (i := 0) (r := 32) (t := 33) dX1_freezeCorrected_32 rfl rfl (Or.inl l9_32) rfl ?_
          refine gm_getR (o := 32) (ci := 1) (k := 6) (r := 38) (t := 36) l6_32 l9_32 s_32 gf_X1_28 rfl r_32_6 l9_38 dX1_freezeCorrected_33 rfl ?_
          refine g_iload (i := 5) (t := 38) dX1_freezeCorrected_36 rfl rfl ?_
          refine g_iload (i := 6) (t := 40) dX1_freezeCorrected_38 rfl rfl ?_
          refine g_aload_n (i := 0) (r := 32) (t := 41) dX1_freezeCorrected_40 rfl rfl (Or.inl l9_32) rfl ?_
          refine gm_getR (o := 32) (ci := 1) (k := 10) (r := 11) (t := 44) l6_32 l9_32 s_32 gf_X1_41 rfl r_32_10 l9_11 dX1_freezeCorrected_41 rfl ?_
          refine gm_getR (o := 11) (ci := 2) (k := 3) (r := 14) (t := 47) l6_11 l9_11 s_11 gf_X1_118 rfl r_11_3 l9_14 dX1_freezeCorrected_44 rfl ?_
          refine g_iload (i := 5) (t := 49) dX1_freezeCorrected_47 rfl rfl ?_
          refine gm_iald_n (a := 14) (n := 16) (t := 50) l6_14 l9_14 s_14 dX1_freezeCorrected_49 (by omega) (by decide) rfl ?_
          rw [g4]
          refine g_max (t := 53) k_X1_105 k_max2 k_ma3 k_max4 (by decide) (by decide) (Nat.le_of_ble_eq_true rfl) dX1_freezeCorrected_50 rfl ?_
          refine g_aload_n (i := 0) (r := 32) (t := 54) dX1_freezeCorrected_53 rfl rfl (Or.inl l9_32) rfl ?_
          refine gm_getR (o := 32) (ci := 1) (k := 10) (r := 11) (t := 57) l6_32 l9_32 s_32 gf_X1_41 rfl r_32_10 l9_11 dX1_freezeCorrected_54 rfl ?_
          refine gm_getR (o := 11) (ci := 2) (k := 4) (r := 15) (t := 60) l6_11 l9_11 s_11 gf_X1_121 rfl r_11_4 l9_15 dX1_freezeCorrected_57 rfl ?_
          refine g_iload (i := 5) (t := 62) dX1_freezeCorrected_60 rfl rfl ?_
          refine gm_iald_n (a := 15) (n := 16) (t := 63) l6_15 l9_15 s_15 dX1_freezeCorrected_62 (by omega) (by decide) rfl ?_
          rw [g5]
          refine g_min (t := 66) k_X1_124 k_min2 k_ma3 k_min4 (by decide) (by decide) (Nat.le_of_ble_eq_true rfl) dX1_freezeCorrected_63 rfl ?_
          refine g_top (y := czL A z (A.2.1 + k)) (by rw [czL, hA, hf, ← eP]; rfl) ?_
          refine gm_iast_n (a := 38) (n := 16) (t := 67) l6_38 l9_38 s_38 dX1_freezeCorrected_66 (by omega) (by decide) rfl ?_
          refine g_aload_n (i := 0) (r := 32) (t := 68) dX1_freezeCorrected_67 rfl rfl (Or.inl l9_32) rfl ?_
          refine gm_getR (o := 32) (ci := 1) (k := 8) (r := 40) (t := 71) l6_32 l9_32 s_32 gf_X1_34 rfl r_32_8 l9_40 dX1_freezeCorrected_68 rfl ?_
          refine g_iload (i := 5) (t := 73) dX1_freezeCorrected_71 rfl rfl ?_
          refine g_aload_n (i := 0) (r := 32) (t := 74) dX1_freezeCorrected_73 rfl rfl (Or.inl l9_32) rfl ?_
          refine gm_getR (o := 32) (ci := 1) (k := 6) (r := 38) (t := 77) l6_32 l9_32 s_32 gf_X1_28 rfl r_32_6 l9_38 dX1_freezeCorrected_74 rfl ?_
          refine g_iload (i := 5) (t := 79) dX1_freezeCorrected_77 rfl rfl ?_
          refine gm_iald_n (a := 38) (n := 16) (t := 80) l6_38 l9_38 s_38 dX1_freezeCorrected_79 (by omega) (by decide) rfl ?_
          rw [gup_self]
          refine g_iload (i := 6) (t := 82) dX1_freezeCorrected_80 rfl rfl ?_
          refine g_isub (t := 83) dX1_freezeCorrected_82 rfl ?_
          refine g_top (y := crL A z (A.2.1 + k)) rfl ?_
          refine gm_iast_n (a := 40) (n := 16) (t := 84) l6_40 l9_40 s_40 dX1_freezeCorrected_83 (by omega) (by decide) rfl ?_
          refine g_iload (i := 4) (t := 86) dX1_freezeCorrected_84 rfl rfl ?_
          refine g_aload_n (i := 0) (r := 32) (t := 87) dX1_freezeCorrected_86 rfl rfl (Or.inl l9_32) rfl ?_
          refine gm_getR (o := 32) (ci := 1) (k := 8) (r := 40) (t := 90) l6_32 l9_32 s_32 gf_X1_34 rfl r_32_8 l9_40 dX1_freezeCorrected_87 rfl ?_
          refine g_iload (i := 5) (t := 92) dX1_freezeCorrected_90 rfl rfl ?_
          refine gm_iald_n (a := 40) (n := 16) (t := 93) l6_40 l9_40 s_40 dX1_freezeCorrected_92 (by omega) (by decide) rfl ?_
          rw [gup_self]
          refine g_iadd (t := 94) dX1_freezeCorrected_93 rfl ?_
          refine g_top (y := smS (coG A z) A.2.1 (k + 1)) (by rw [smS, coG, if_pos hz]) ?_
          refine g_istore (i := 4) (t := 96) (L1 := [_, _, _, _, _, _, _]) dX1_freezeCorrected_94 (by decide) rfl rfl rfl ?_
          refine g_iinc (i := 5) (t := 99) (L1 := [_, _, _, _, _, _, _]) dX1_freezeCorrected_96 rfl (gi_1 _) (by decide) rfl rfl rfl ?_
          refine g_goto (t := 6) dX1_freezeCorrected_99 (by decide) ?_
          refine ih (k + 1) _ _ (by omega) ((hs.up rfl).up rfl) ((zs.next (by omega) ?_).keep (gup_rowo _ _ _ (by decide))) (fun q h1 h2 h3 => ?_) kk
          · show _ = (if z.1 (A.2.1 + k) = none then _ else _)
            rw [if_pos hz]
          · by_cases y : q = A.2.1 + k
            · subst y; exact gup_self _ _ _ _
            · rw [gup_k _ _ _ y, gup_o _ _ _ _ (by decide)]; exact zc q h1 (by omega) h3
    · refine g_iload (i := 5) (t := 8) dX1_freezeCorrected_6 rfl rfl ?_
      refine g_iload_n (i := 2) (t := 9) dX1_freezeCorrected_8 rfl rfl rfl ?_
      refine g_icmp_ge_n (t1 := 102) (t2 := 12) dX1_freezeCorrected_9 (by decide) rfl (by omega) (by omega) (fun h9 => ?_) (fun h9 => ?_)
      · exfalso; omega
      · refine g_aload_n (i := 0) (r := 32) (t := 13) dX1_freezeCorrected_12 rfl rfl (Or.inl l9_32) rfl ?_
        refine gm_getR (o := 32) (ci := 1) (k := 7) (r := 39) (t := 16) l6_32 l9_32 s_32 gf_X1_31 rfl r_32_7 l9_39 dX1_freezeCorrected_13 rfl ?_
        refine g_iload (i := 5) (t := 18) dX1_freezeCorrected_16 rfl rfl ?_
        refine gm_iald_n (a := 39) (n := 16) (t := 19) l6_39 l9_39 s_39 dX1_freezeCorrected_18 (by omega) (by decide) rfl ?_
        rw [e2']
        refine g_iconst (t := 20) dX1_freezeCorrected_19 c_iconst_m1 rfl ?_
        refine g_icmp_ne (t1 := 96) (t2 := 23) dX1_freezeCorrected_20 (by decide) rfl (fun h20 => ?_) (fun h20 => ?_)
        · refine g_iinc (i := 5) (t := 99) (L1 := [_, _, _, _, _, _, _]) dX1_freezeCorrected_96 rfl (gi_1 _) (by decide) rfl rfl rfl ?_
          refine g_goto (t := 6) dX1_freezeCorrected_99 (by decide) ?_
          refine Wp.eq rfl ?_ rfl rfl (ih (k + 1) I v6 (by omega) hs (zs.skip (by omega) ?_) (fun q h1 h2 h3 => ?_) kk)
          · rw [smS, coG, if_neg hz, add_n0]; rfl
          · rw [e1, szG, if_neg hz]; exact (if_neg hz).symm
          · by_cases y : q = A.2.1 + k
            · subst y; exact absurd h3 hz
            · exact zc q h1 (by omega) h3
        · exact absurd (hov.mp h20) hz
theorem x1_fc_loop2_32 {A : lA} {z : lZ} {t : Nat} {I0 : Nat → Nat → Int32} (hhi : A.2.1 + A.2.2 ≤ 16) (hS : ∀ q, A.2.1 ≤ q → q < A.2.1 + A.2.2 → I0 39 q = ovS (z.1 q) ∧ ∀ t, z.1 q = some t → t ≤ 16) (hC : ∀ q, A.2.1 ≤ q → q < A.2.1 + A.2.2 → z.1 q = none → I0 40 q = crL A z q) {K : gK} : ∀ (d k : Nat) (I : Nat → Nat → Int32) (v6 : Value), k + d = A.2.2 → gSame [39] I0 I → strN I I0 39 A.2.1 (A.2.1 + k) (fun q => ovS ((nxL A z t).1 q)) →
    (∀ I L, gSame [39] I0 I → strN I I0 39 A.2.1 (A.2.1 + A.2.2) (fun q => ovS ((nxL A z t).1 q)) → Wp E fX1_freezeCorrected (gn h) 183 L [] (gM I h) K) →
    Wp E fX1_freezeCorrected (gn h) 105 [.ref 32, .int (nI A.2.1), .int (nI (A.2.1 + A.2.2)), .int (nI t), .int (wrL A z), .int (nI (A.2.1 + k)), v6] [] (gM I h) K := by
  intro d
  induction d with
  | zero =>
    intro k I v6 hk hs zs kk
    have hk : k = A.2.2 := by omega
    subst hk
    refine g_iload (i := 5) (t := 107) dX1_freezeCorrected_105 rfl rfl ?_
    refine g_iload_n (i := 2) (t := 108) dX1_freezeCorrected_107 rfl rfl rfl ?_
    refine g_icmp_ge_n (t1 := 183) (t2 := 111) dX1_freezeCorrected_108 (by decide) rfl (by omega) (by omega) (fun h108 => ?_) (fun h108 => ?_)
    · exact kk I _ hs zs
    · exfalso; omega
  | succ d ih =>
    intro k I v6 hk hs zs kk
    obtain ⟨e2, e3⟩ := hS (A.2.1 + k) (by omega) (by omega)
    have hov := ovS_none _ e3
    have e2' : I 39 (A.2.1 + k) = ovS (z.1 (A.2.1 + k)) := by rw [zs.ge (Nat.le_refl _), e2]
    by_cases hz : z.1 (A.2.1 + k) = none
    · have e8 : I 40 (A.2.1 + k) = crL A z (A.2.1 + k) := by rw [hs.at 40 rfl]; exact hC _ (by omega) (by omega) hz
      have T1 : fzL A z (A.2.1 + k) = true → ∀ v6, Wp E fX1_freezeCorrected (gn h) 169 [.ref 32, .int (nI A.2.1), .int (nI (A.2.1 + A.2.2)), .int (nI t), .int (wrL A z), .int (nI (A.2.1 + k)), v6] [] (gM I h) K := by
        intro hb v6
        refine g_aload_n (i := 0) (r := 32) (t := 170) dX1_freezeCorrected_169 rfl rfl (Or.inl l9_32) rfl ?_
        refine gm_getR (o := 32) (ci := 1) (k := 7) (r := 39) (t := 173) l6_32 l9_32 s_32 gf_X1_31 rfl r_32_7 l9_39 dX1_freezeCorrected_170 rfl ?_
        refine g_iload (i := 5) (t := 175) dX1_freezeCorrected_173 rfl rfl ?_
        refine g_iload_n (i := 3) (t := 176) dX1_freezeCorrected_175 rfl rfl rfl ?_
        refine gm_iast_n (a := 39) (n := 16) (t := 177) l6_39 l9_39 s_39 dX1_freezeCorrected_176 (by omega) (by decide) rfl ?_
        refine g_iinc (i := 5) (t := 180) (L1 := [_, _, _, _, _, _, _]) dX1_freezeCorrected_177 rfl (gi_1 _) (by decide) rfl rfl rfl ?_
        refine g_goto (t := 105) dX1_freezeCorrected_180 (by decide) ?_
        refine ih (k + 1) _ _ (by omega) (hs.up rfl) (zs.next (by omega) ?_) kk
        show _ = ovS (if z.1 (A.2.1 + k) = none then (if fzL A z (A.2.1 + k) then some t else none) else z.1 (A.2.1 + k))
        rw [if_pos hz, if_pos hb]
        rfl
      have T0 : fzL A z (A.2.1 + k) = false → ∀ v6, Wp E fX1_freezeCorrected (gn h) 177 [.ref 32, .int (nI A.2.1), .int (nI (A.2.1 + A.2.2)), .int (nI t), .int (wrL A z), .int (nI (A.2.1 + k)), v6] [] (gM I h) K := by
        intro hb v6
        refine g_iinc (i := 5) (t := 180) (L1 := [_, _, _, _, _, _, _]) dX1_freezeCorrected_177 rfl (gi_1 _) (by decide) rfl rfl rfl ?_
        refine g_goto (t := 105) dX1_freezeCorrected_180 (by decide) ?_
        refine ih (k + 1) _ _ (by omega) hs (zs.skip (by omega) ?_) kk
        rw [e2]
        show _ = ovS (if z.1 (A.2.1 + k) = none then (if fzL A z (A.2.1 + k) then some t else none) else z.1 (A.2.1 + k))
        rw [if_pos hz, if_neg (by rw [hb]; decide), hz]
      have T : ∀ b : Bool, (b = true ↔ sameW (wrL A z) (crL A z (A.2.1 + k))) → Wp E fX1_freezeCorrected (gn h) 148 [.ref 32, .int (nI A.2.1), .int (nI (A.2.1 + A.2.2)), .int (nI t), .int (wrL A z), .int (nI (A.2.1 + k)), .int (bI b)] [] (gM I h) K := by
        intro b hb
        refine g_aload_n (i := 0) (r := 32) (t := 149) dX1_freezeCorrected_148 rfl rfl (Or.inl l9_32) rfl ?_
        refine gm_getR (o := 32) (ci := 1) (k := 7) (r := 39) (t := 152) l6_32 l9_32 s_32 gf_X1_31 rfl r_32_7 l9_39 dX1_freezeCorrected_149 rfl ?_
        refine g_iload (i := 5) (t := 154) dX1_freezeCorrected_152 rfl rfl ?_
        refine gm_iald_n (a := 39) (n := 16) (t := 155) l6_39 l9_39 s_39 dX1_freezeCorrected_154 (by omega) (by decide) rfl ?_
        rw [e2']
        refine g_iconst (t := 156) dX1_freezeCorrected_155 c_iconst_m1 rfl ?_
        refine g_icmp_ne (t1 := 177) (t2 := 159) dX1_freezeCorrected_156 (by decide) rfl (fun h156 => ?_) (fun h156 => ?_)
        · exact absurd (hov.mpr hz) h156
        · refine g_iload (i := 4) (t := 161) dX1_freezeCorrected_159 rfl rfl ?_
          refine g_if_eq (t1 := 169) (t2 := 164) dX1_freezeCorrected_161 (by decide) rfl (fun h161 => ?_) (fun h161 => ?_)
          · refine T1 ?_ _
            exact decide_eq_true (Or.inl h161)
          · refine g_iload (i := 6) (t := 166) dX1_freezeCorrected_164 rfl rfl ?_
            refine g_if_eq (t1 := 177) (t2 := 169) dX1_freezeCorrected_166 (by decide) rfl (fun h166 => ?_) (fun h166 => ?_)
            · refine T0 ?_ _
              exact decide_eq_false (fun q => q.elim h161 (fun y => absurd (hb.mpr y) (by rw [bI_0 h166]; decide)))
            · refine T1 ?_ _
              exact decide_eq_true (Or.inr (hb.mp (bI_n0 h166)))
      refine g_iload (i := 5) (t := 107) dX1_freezeCorrected_105 rfl rfl ?_
      refine g_iload_n (i := 2) (t := 108) dX1_freezeCorrected_107 rfl rfl rfl ?_
      refine g_icmp_ge_n (t1 := 183) (t2 := 111) dX1_freezeCorrected_108 (by decide) rfl (by omega) (by omega) (fun h108 => ?_) (fun h108 => ?_)
      · exfalso; omega
      · refine g_iload (i := 4) (t := 113) dX1_freezeCorrected_111 rfl rfl ?_
        refine g_if_le (t1 := 126) (t2 := 116) dX1_freezeCorrected_113 (by decide) rfl (fun h113 => ?_) (fun h113 => ?_)
        · refine g_iload (i := 4) (t := 128) dX1_freezeCorrected_126 rfl rfl ?_
          refine g_if_ge (t1 := 145) (t2 := 131) dX1_freezeCorrected_128 (by decide) rfl (fun h128 => ?_) (fun h128 => ?_)
          · refine g_iconst (t := 146) dX1_freezeCorrected_145 c_iconst_0 rfl ?_
            refine g_istore (i := 6) (t := 148) (L1 := [_, _, _, _, _, _, _]) dX1_freezeCorrected_146 (by decide) rfl rfl rfl ?_
            first
            | exact T true ⟨fun _ => Or.inl ⟨i_gt h113, h123⟩, fun _ => rfl⟩
            | exact T true ⟨fun _ => Or.inr ⟨i_gt h128, i_gt h138⟩, fun _ => rfl⟩
            | refine T false ⟨fun q => absurd q (by decide), fun q => ?_⟩
              rcases q with ⟨q1, q2⟩ | ⟨q1, q2⟩
              · first
                | exact absurd q1 (i_nlt h113)
                | exact absurd q2 h123
              · first
                | exact absurd q1 (i_nlt h128)
                | exact absurd q2 (i_nlt h138)
          · refine g_aload_n (i := 0) (r := 32) (t := 132) dX1_freezeCorrected_131 rfl rfl (Or.inl l9_32) rfl ?_
            refine gm_getR (o := 32) (ci := 1) (k := 8) (r := 40) (t := 135) l6_32 l9_32 s_32 gf_X1_34 rfl r_32_8 l9_40 dX1_freezeCorrected_132 rfl ?_
            refine g_iload (i := 5) (t := 137) dX1_freezeCorrected_135 rfl rfl ?_
            refine gm_iald_n (a := 40) (n := 16) (t := 138) l6_40 l9_40 s_40 dX1_freezeCorrected_137 (by omega) (by decide) rfl ?_
            rw [e8]
            refine g_if_ge (t1 := 145) (t2 := 141) dX1_freezeCorrected_138 (by decide) rfl (fun h138 => ?_) (fun h138 => ?_)
            · refine g_iconst (t := 146) dX1_freezeCorrected_145 c_iconst_0 rfl ?_
              refine g_istore (i := 6) (t := 148) (L1 := [_, _, _, _, _, _, _]) dX1_freezeCorrected_146 (by decide) rfl rfl rfl ?_
              first
              | exact T true ⟨fun _ => Or.inl ⟨i_gt h113, h123⟩, fun _ => rfl⟩
              | exact T true ⟨fun _ => Or.inr ⟨i_gt h128, i_gt h138⟩, fun _ => rfl⟩
              | refine T false ⟨fun q => absurd q (by decide), fun q => ?_⟩
                rcases q with ⟨q1, q2⟩ | ⟨q1, q2⟩
                · first
                  | exact absurd q1 (i_nlt h113)
                  | exact absurd q2 h123
                · first
                  | exact absurd q1 (i_nlt h128)
                  | exact absurd q2 (i_nlt h138)
            · refine g_iconst (t := 142) dX1_freezeCorrected_141 c_iconst_1 rfl ?_
              refine g_goto (t := 146) dX1_freezeCorrected_142 (by decide) ?_
              refine g_istore (i := 6) (t := 148) (L1 := [_, _, _, _, _, _, _]) dX1_freezeCorrected_146 (by decide) rfl rfl rfl ?_
              first
              | exact T true ⟨fun _ => Or.inl ⟨i_gt h113, h123⟩, fun _ => rfl⟩
              | exact T true ⟨fun _ => Or.inr ⟨i_gt h128, i_gt h138⟩, fun _ => rfl⟩
              | refine T false ⟨fun q => absurd q (by decide), fun q => ?_⟩
                rcases q with ⟨q1, q2⟩ | ⟨q1, q2⟩
                · first
                  | exact absurd q1 (i_nlt h113)
                  | exact absurd q2 h123
                · first
                  | exact absurd q1 (i_nlt h128)
                  | exact absurd q2 (i_nlt h138)
        · refine g_aload_n (i := 0) (r := 32) (t := 117) dX1_freezeCorrected_116 rfl rfl (Or.inl l9_32) rfl ?_
          refine gm_getR (o := 32) (ci := 1) (k := 8) (r := 40) (t := 120) l6_32 l9_32 s_32 gf_X1_34 rfl r_32_8 l9_40 dX1_freezeCorrected_117 rfl ?_
          refine g_iload (i := 5) (t := 122) dX1_freezeCorrected_120 rfl rfl ?_
          refine gm_iald_n (a := 40) (n := 16) (t := 123) l6_40 l9_40 s_40 dX1_freezeCorrected_122 (by omega) (by decide) rfl ?_
          rw [e8]
          refine g_if_gt (t1 := 141) (t2 := 126) dX1_freezeCorrected_123 (by decide) rfl (fun h123 => ?_) (fun h123 => ?_)
          · refine g_iconst (t := 142) dX1_freezeCorrected_141 c_iconst_1 rfl ?_
            refine g_goto (t := 146) dX1_freezeCorrected_142 (by decide) ?_
            refine g_istore (i := 6) (t := 148) (L1 := [_, _, _, _, _, _, _]) dX1_freezeCorrected_146 (by decide) rfl rfl rfl ?_
            first
            | exact T true ⟨fun _ => Or.inl ⟨i_gt h113, h123⟩, fun _ => rfl⟩
            | exact T true ⟨fun _ => Or.inr ⟨i_gt h128, i_gt h138⟩, fun _ => rfl⟩
            | refine T false ⟨fun q => absurd q (by decide), fun q => ?_⟩
              rcases q with ⟨q1, q2⟩ | ⟨q1, q2⟩
              · first
                | exact absurd q1 (i_nlt h113)
                | exact absurd q2 h123
              · first
                | exact absurd q1 (i_nlt h128)
                | exact absurd q2 (i_nlt h138)
          · refine g_iload (i := 4) (t := 128) dX1_freezeCorrected_126 rfl rfl ?_
            refine g_if_ge (t1 := 145) (t2 := 131) dX1_freezeCorrected_128 (by decide) rfl (fun h128 => ?_) (fun h128 => ?_)
            · refine g_iconst (t := 146) dX1_freezeCorrected_145 c_iconst_0 rfl ?_
              refine g_istore (i := 6) (t := 148) (L1 := [_, _, _, _, _, _, _]) dX1_freezeCorrected_146 (by decide) rfl rfl rfl ?_
              first
              | exact T true ⟨fun _ => Or.inl ⟨i_gt h113, h123⟩, fun _ => rfl⟩
              | exact T true ⟨fun _ => Or.inr ⟨i_gt h128, i_gt h138⟩, fun _ => rfl⟩
              | refine T false ⟨fun q => absurd q (by decide), fun q => ?_⟩
                rcases q with ⟨q1, q2⟩ | ⟨q1, q2⟩
                · first
                  | exact absurd q1 (i_nlt h113)
                  | exact absurd q2 h123
                · first
                  | exact absurd q1 (i_nlt h128)
                  | exact absurd q2 (i_nlt h138)
            · refine g_aload_n (i := 0) (r := 32) (t := 132) dX1_freezeCorrected_131 rfl rfl (Or.inl l9_32) rfl ?_
              refine gm_getR (o := 32) (ci := 1) (k := 8) (r := 40) (t := 135) l6_32 l9_32 s_32 gf_X1_34 rfl r_32_8 l9_40 dX1_freezeCorrected_132 rfl ?_
              refine g_iload (i := 5) (t := 137) dX1_freezeCorrected_135 rfl rfl ?_
              refine gm_iald_n (a := 40) (n := 16) (t := 138) l6_40 l9_40 s_40 dX1_freezeCorrected_137 (by omega) (by decide) rfl ?_
              rw [e8]
              refine g_if_ge (t1 := 145) (t2 := 141) dX1_freezeCorrected_138 (by decide) rfl (fun h138 => ?_) (fun h138 => ?_)
              · refine g_iconst (t := 146) dX1_freezeCorrected_145 c_iconst_0 rfl ?_
                refine g_istore (i := 6) (t := 148) (L1 := [_, _, _, _, _, _, _]) dX1_freezeCorrected_146 (by decide) rfl rfl rfl ?_
                first
                | exact T true ⟨fun _ => Or.inl ⟨i_gt h113, h123⟩, fun _ => rfl⟩
                | exact T true ⟨fun _ => Or.inr ⟨i_gt h128, i_gt h138⟩, fun _ => rfl⟩
                | refine T false ⟨fun q => absurd q (by decide), fun q => ?_⟩
                  rcases q with ⟨q1, q2⟩ | ⟨q1, q2⟩
                  · first
                    | exact absurd q1 (i_nlt h113)
                    | exact absurd q2 h123
                  · first
                    | exact absurd q1 (i_nlt h128)
                    | exact absurd q2 (i_nlt h138)
              · refine g_iconst (t := 142) dX1_freezeCorrected_141 c_iconst_1 rfl ?_
                refine g_goto (t := 146) dX1_freezeCorrected_142 (by decide) ?_
                refine g_istore (i := 6) (t := 148) (L1 := [_, _, _, _, _, _, _]) dX1_freezeCorrected_146 (by decide) rfl rfl rfl ?_
                first
                | exact T true ⟨fun _ => Or.inl ⟨i_gt h113, h123⟩, fun _ => rfl⟩
                | exact T true ⟨fun _ => Or.inr ⟨i_gt h128, i_gt h138⟩, fun _ => rfl⟩
                | refine T false ⟨fun q => absurd q (by decide), fun q => ?_⟩
                  rcases q with ⟨q1, q2⟩ | ⟨q1, q2⟩
                  · first
                    | exact absurd q1 (i_nlt h113)
                    | exact absurd q2 h123
                  · first
                    | exact absurd q1 (i_nlt h128)
                    | exact absurd q2 (i_nlt h138)
    · have T : ∀ (v6 : Value) (v6' : Int32), Wp E fX1_freezeCorrected (gn h) 146 [.ref 32, .int (nI A.2.1), .int (nI (A.2.1 + A.2.2)), .int (nI t), .int (wrL A z), .int (nI (A.2.1 + k)), v6] [.int v6'] (gM I h) K := by
        intro v6 v6'
        refine g_istore (i := 6) (t := 148) (L1 := [_, _, _, _, _, _, _]) dX1_freezeCorrected_146 (by decide) rfl rfl rfl ?_
        refine g_aload_n (i := 0) (r := 32) (t := 149) dX1_freezeCorrected_148 rfl rfl (Or.inl l9_32) rfl ?_
        refine gm_getR (o := 32) (ci := 1) (k := 7) (r := 39) (t := 152) l6_32 l9_32 s_32 gf_X1_31 rfl r_32_7 l9_39 dX1_freezeCorrected_149 rfl ?_
        refine g_iload (i := 5) (t := 154) dX1_freezeCorrected_152 rfl rfl ?_
        refine gm_iald_n (a := 39) (n := 16) (t := 155) l6_39 l9_39 s_39 dX1_freezeCorrected_154 (by omega) (by decide) rfl ?_
        rw [e2']
        refine g_iconst (t := 156) dX1_freezeCorrected_155 c_iconst_m1 rfl ?_
        refine g_icmp_ne (t1 := 177) (t2 := 159) dX1_freezeCorrected_156 (by decide) rfl (fun h156 => ?_) (fun h156 => ?_)
        · refine g_iinc (i := 5) (t := 180) (L1 := [_, _, _, _, _, _, _]) dX1_freezeCorrected_177 rfl (gi_1 _) (by decide) rfl rfl rfl ?_
          refine g_goto (t := 105) dX1_freezeCorrected_180 (by decide) ?_
          refine ih (k + 1) _ _ (by omega) hs (zs.skip (by omega) ?_) kk
          rw [e2]
          show _ = ovS (if z.1 (A.2.1 + k) = none then (if fzL A z (A.2.1 + k) then some t else none) else z.1 (A.2.1 + k))
          rw [if_neg hz]
        · exact absurd (hov.mp h156) hz
      refine g_iload (i := 5) (t := 107) dX1_freezeCorrected_105 rfl rfl ?_
      refine g_iload_n (i := 2) (t := 108) dX1_freezeCorrected_107 rfl rfl rfl ?_
      refine g_icmp_ge_n (t1 := 183) (t2 := 111) dX1_freezeCorrected_108 (by decide) rfl (by omega) (by omega) (fun h108 => ?_) (fun h108 => ?_)
      · exfalso; omega
      · refine g_iload (i := 4) (t := 113) dX1_freezeCorrected_111 rfl rfl ?_
        refine g_if_le (t1 := 126) (t2 := 116) dX1_freezeCorrected_113 (by decide) rfl (fun h113 => ?_) (fun h113 => ?_)
        · refine g_iload (i := 4) (t := 128) dX1_freezeCorrected_126 rfl rfl ?_
          refine g_if_ge (t1 := 145) (t2 := 131) dX1_freezeCorrected_128 (by decide) rfl (fun h128 => ?_) (fun h128 => ?_)
          · refine g_iconst (t := 146) dX1_freezeCorrected_145 c_iconst_0 rfl ?_
            exact T _ _
          · refine g_aload_n (i := 0) (r := 32) (t := 132) dX1_freezeCorrected_131 rfl rfl (Or.inl l9_32) rfl ?_
            refine gm_getR (o := 32) (ci := 1) (k := 8) (r := 40) (t := 135) l6_32 l9_32 s_32 gf_X1_34 rfl r_32_8 l9_40 dX1_freezeCorrected_132 rfl ?_
            refine g_iload (i := 5) (t := 137) dX1_freezeCorrected_135 rfl rfl ?_
            refine gm_iald_n (a := 40) (n := 16) (t := 138) l6_40 l9_40 s_40 dX1_freezeCorrected_137 (by omega) (by decide) rfl ?_
            refine g_if_ge (t1 := 145) (t2 := 141) dX1_freezeCorrected_138 (by decide) rfl (fun h138 => ?_) (fun h138 => ?_)
            · refine g_iconst (t := 146) dX1_freezeCorrected_145 c_iconst_0 rfl ?_
              exact T _ _
            · refine g_iconst (t := 142) dX1_freezeCorrected_141 c_iconst_1 rfl ?_
              refine g_goto (t := 146) dX1_freezeCorrected_142 (by decide) ?_
              exact T _ _
        · refine g_aload_n (i := 0) (r := 32) (t := 117) dX1_freezeCorrected_116 rfl rfl (Or.inl l9_32) rfl ?_
          refine gm_getR (o := 32) (ci := 1) (k := 8) (r := 40) (t := 120) l6_32 l9_32 s_32 gf_X1_34 rfl r_32_8 l9_40 dX1_freezeCorrected_117 rfl ?_
          refine g_iload (i := 5) (t := 122) dX1_freezeCorrected_120 rfl rfl ?_
          refine gm_iald_n (a := 40) (n := 16) (t := 123) l6_40 l9_40 s_40 dX1_freezeCorrected_122 (by omega) (by decide) rfl ?_
          refine g_if_gt (t1 := 141) (t2 := 126) dX1_freezeCorrected_123 (by decide) rfl (fun h123 => ?_) (fun h123 => ?_)
          · refine g_iconst (t := 142) dX1_freezeCorrected_141 c_iconst_1 rfl ?_
            refine g_goto (t := 146) dX1_freezeCorrected_142 (by decide) ?_
            exact T _ _
          · refine g_iload (i := 4) (t := 128) dX1_freezeCorrected_126 rfl rfl ?_
            refine g_if_ge (t1 := 145) (t2 := 131) dX1_freezeCorrected_128 (by decide) rfl (fun h128 => ?_) (fun h128 => ?_)
            · refine g_iconst (t := 146) dX1_freezeCorrected_145 c_iconst_0 rfl ?_
              exact T _ _
            · refine g_aload_n (i := 0) (r := 32) (t := 132) dX1_freezeCorrected_131 rfl rfl (Or.inl l9_32) rfl ?_
              refine gm_getR (o := 32) (ci := 1) (k := 8) (r := 40) (t := 135) l6_32 l9_32 s_32 gf_X1_34 rfl r_32_8 l9_40 dX1_freezeCorrected_132 rfl ?_
              refine g_iload (i := 5) (t := 137) dX1_freezeCorrected_135 rfl rfl ?_
              refine gm_iald_n (a := 40) (n := 16) (t := 138) l6_40 l9_40 s_40 dX1_freezeCorrected_137 (by omega) (by decide) rfl ?_
              refine g_if_ge (t1 := 145) (t2 := 141) dX1_freezeCorrected_138 (by decide) rfl (fun h138 => ?_) (fun h138 => ?_)
              · refine g_iconst (t := 146) dX1_freezeCorrected_145 c_iconst_0 rfl ?_
                exact T _ _
              · refine g_iconst (t := 142) dX1_freezeCorrected_141 c_iconst_1 rfl ?_
                refine g_goto (t := 146) dX1_freezeCorrected_142 (by decide) ?_
                exact T _ _
theorem x1_freezeCorrected_32 {A : lA} {z : lZ} {c t : Nat} {f : Nat → Nat} (hO : xO I (xP I) c f) (hA : A.1.1 = xP I) (hf : A.1.2.2.2 = f) (hhi : A.2.1 + A.2.2 ≤ c) (hS : ∀ q, A.2.1 ≤ q → q < A.2.1 + A.2.2 → I 38 q = szG A z q ∧ I 39 q = ovS (z.1 q) ∧ ∀ t, z.1 q = some t → t ≤ 16) : gQV E fX1_freezeCorrected [.ref 32, .int (nI A.2.1), .int (nI (A.2.1 + A.2.2)), .int (nI t)] I h (fun I' => gSame [38, 39, 40] I I' ∧ strN I' I 38 A.2.1 (A.2.1 + A.2.2) (nxL A z t).2 ∧ strN I' I 39 A.2.1 (A.2.1 + A.2.2) (fun q => ovS ((nxL A z t).1 q))) := by
  refine gEv.of rfl (Nat.le_refl _) (Nat.le_of_ble_eq_true rfl) (L := [.ref 32, .int (nI A.2.1), .int (nI (A.2.1 + A.2.2)), .int (nI t), .null, .null, .null]) rfl ?_
  have hc := hO.1
  have T : ∀ I1 v5 v6, gSame [38, 40] I I1 → strN I1 I 38 A.2.1 (A.2.1 + A.2.2) (nxL A z t).2 → (∀ q, A.2.1 ≤ q → q < A.2.1 + A.2.2 → z.1 q = none → I1 40 q = crL A z q) → Wp E fX1_freezeCorrected (gn h) 102 [.ref 32, .int (nI A.2.1), .int (nI (A.2.1 + A.2.2)), .int (nI t), .int (wrL A z), v5, v6] [] (gM I1 h) (gRet fX1_freezeCorrected (gn h) (fun r σ' => ∃ I' : Nat → Nat → Int32, r = none ∧ σ' = gM I' h ∧ gSame [38, 39, 40] I I' ∧ strN I' I 38 A.2.1 (A.2.1 + A.2.2) (nxL A z t).2 ∧ strN I' I 39 A.2.1 (A.2.1 + A.2.2) (fun q => ovS ((nxL A z t).1 q)))) := by
    intro I1 v5 v6 hs zs zc
    refine g_iload_n (i := 1) (t := 103) dX1_freezeCorrected_102 rfl rfl rfl ?_
    refine g_istore (i := 5) (t := 105) (L1 := [_, _, _, _, _, _, _]) dX1_freezeCorrected_103 (by decide) rfl rfl rfl ?_
    refine x1_fc_loop2_32 (I0 := I1) (by omega) (fun q h1 h2 => by rw [hs.at 39 rfl]; exact (hS q h1 h2).2) zc A.2.2 0 I1 _ (by omega) gSame.rf strN.rf (fun I2 L hs2 zs2 => ?_)
    refine g_retV dX1_freezeCorrected_183 rfl ⟨(hs.wk rfl).trans (hs2.wk rfl), zs.keep (hs2.at 38 rfl), fun q => ?_⟩
    rw [zs2 q, hs.at 39 rfl]
  refine g_iconst (t := 1) dX1_freezeCorrected_0 c_iconst_0 rfl ?_
  refine g_istore (i := 4) (t := 3) (L1 := [_, _, _, _, _, _, _]) dX1_freezeCorrected_1 (by decide) rfl rfl rfl ?_
  refine g_iload_n (i := 1) (t := 4) dX1_freezeCorrected_3 rfl rfl rfl ?_
  refine g_istore (i := 5) (t := 6) (L1 := [_, _, _, _, _, _, _]) dX1_freezeCorrected_4 (by decide) rfl rfl rfl ?_
  exact x1_fc_loop1_32 hO hA hf hhi hS A.2.2 0 I _ (by omega) gSame.rf strN.rf (fun q h1 h2 => absurd h2 (by omega)) T
end X1D

