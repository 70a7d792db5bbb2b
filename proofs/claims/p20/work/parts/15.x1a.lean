/-! FlexRows$Lines: breaking -/
section X1A
variable {E : gE} {I : Nat → Nat → Int32} {h : gX}
/-- the lines as they are broken -/
def xB (I : Nat → Nat → Int32) (o a1 a2 : Nat) (Q : lQ) (c : Nat) : Prop := I o 0 = nI (nln Q c) ∧ ∀ l, l < nln Q c → I a1 l = nI (frC Q c l) ∧ I a2 l = lsm Q (frC Q c (l + 1) - 1)
theorem xB.keep {I I' : Nat → Nat → Int32} {o a1 a2 : Nat} {Q : lQ} {c : Nat} (h : xB I o a1 a2 Q c) (h0 : I' o 0 = I o 0) (h1 : I' a1 = I a1) (h2 : I' a2 = I a2) : xB I' o a1 a2 Q c := by
  rw [xB, h0, h1, h2]; exact h
/-- the end of the loop's body: N the line's number -/
theorem x1_bu_tail_18 {p N : Nat} {s w gap b v4 : Int32} (hN : N < 16) (h0 : I 18 0 = nI (N + 1)) {K : gK} (kk : Wp E fX1_breakUp (gn h) 43 [.ref 18, .int w, .int gap, .int b, .int s, .int (nI (p + 1)), .int s] [] (gM (gup I 20 N s) h) K) : Wp E fX1_breakUp (gn h) 120 [.ref 18, .int w, .int gap, .int b, .int v4, .int (nI p), .int s] [] (gM I h) K := by
  refine g_iload (i := 6) (t := 122) dX1_breakUp_120 rfl rfl ?_
  refine g_istore (i := 4) (t := 124) (L1 := [_, _, _, _, _, _, _]) dX1_breakUp_122 (by decide) rfl rfl rfl ?_
  refine g_aload_n (i := 0) (r := 18) (t := 125) dX1_breakUp_124 rfl rfl (Or.inl l9_18) rfl ?_
  refine gm_getR (o := 18) (ci := 1) (k := 2) (r := 20) (t := 128) l6_18 l9_18 s_18 gf_X1_15 rfl r_18_2 l9_20 dX1_breakUp_125 rfl ?_
  refine g_aload_n (i := 0) (r := 18) (t := 129) dX1_breakUp_128 rfl rfl (Or.inl l9_18) rfl ?_
  refine gm_getI (o := 18) (ci := 1) (k := 0) (t := 132) l6_18 l9_18 s_18 gf_X1_49 rfl dX1_breakUp_129 rfl ?_
  rw [h0]
  refine g_iconst (t := 133) dX1_breakUp_132 c_iconst_1 rfl ?_
  refine g_isub (t := 134) dX1_breakUp_133 rfl ?_
  refine g_top (gi_p N) ?_
  refine g_iload (i := 4) (t := 136) dX1_breakUp_134 rfl rfl ?_
  refine gm_iast_n (a := 20) (n := 16) (t := 137) l6_20 l9_20 s_20 dX1_breakUp_136 (by omega) (by decide) rfl ?_
  refine g_iinc (i := 5) (t := 140) (L1 := [_, _, _, _, _, _, _]) dX1_breakUp_137 rfl (gi_1 _) (by decide) rfl rfl rfl ?_
  refine g_goto (t := 43) dX1_breakUp_140 (by decide) ?_
  exact kk
theorem x1_bu_loop_18 {P : dP} {c : Nat} {f : Nat → Nat} {w : Int32} {b : Bool} {I0 : Nat → Nat → Int32} (hO : xO I0 P c f) (hb : b = true ↔ I0 5 3 = nI 1) {K : gK} : ∀ (d p : Nat) (I : Nat → Nat → Int32) (v6 : Value), p + d = c → gSame [18, 19, 20] I0 I → I 18 11 = w → xB I 18 19 20 (P, I0 5, w, f) p →
    (∀ I v4 v6, gSame [18, 19, 20] I0 I → I 18 11 = w → xB I 18 19 20 (P, I0 5, w, f) c → Wp E fX1_breakUp (gn h) 143 [.ref 18, .int w, .int (I0 5 1), .int (bI b), v4, .int (nI c), v6] [] (gM I h) K) →
    Wp E fX1_breakUp (gn h) 43 [.ref 18, .int w, .int (I0 5 1), .int (bI b), .int (lsa (P, I0 5, w, f) p), .int (nI p), v6] [] (gM I h) K := by
  intro d
  induction d with
  | zero =>
    intro p I v6 hp hs hw hB kk
    have hp : p = c := by omega
    subst hp
    have h11 : I 11 0 = nI p := by rw [hs.at 11 rfl]; exact hO.2.1
    have hc := hO.1
    refine g_iload (i := 5) (t := 45) dX1_breakUp_43 rfl rfl ?_
    refine g_aload_n (i := 0) (r := 18) (t := 46) dX1_breakUp_45 rfl rfl (Or.inl l9_18) rfl ?_
    refine gm_getR (o := 18) (ci := 1) (k := 10) (r := 11) (t := 49) l6_18 l9_18 s_18 gf_X1_41 rfl r_18_10 l9_11 dX1_breakUp_46 rfl ?_
    refine gm_getI (o := 11) (ci := 2) (k := 0) (t := 52) l6_11 l9_11 s_11 gf_X1_57 rfl dX1_breakUp_49 rfl ?_
    rw [h11]
    refine g_icmp_ge_n (t1 := 143) (t2 := 55) dX1_breakUp_52 (by decide) rfl (by omega) (by omega) (fun h52 => ?_) (fun h52 => ?_)
    · exact kk I _ v6 hs hw hB
    · exfalso; omega
  | succ d ih =>
    intro p I v6 hp hs hw hB kk
    have h11 : I 11 0 = nI c := by rw [hs.at 11 rfl]; exact hO.2.1
    have hc := hO.1
    have hO' : xO I P c f := hO.keep hs rfl
    obtain ⟨hB0, hB1⟩ := hB
    obtain ⟨Q, hQ⟩ : ∃ Q, Q = (P, I0 5, w, f) := ⟨_, rfl⟩
    rw [← hQ] at hB0 hB1 ih kk ⊢
    have eob : out P (f p) = ob Q p := by rw [hQ]; rfl
    have egap : I0 5 1 = Q.2.1 1 := by rw [hQ]
    have ew : w = Q.2.2.1 := by rw [hQ]
    have eb : I0 5 3 = Q.2.1 3 := by rw [hQ]
    have hnl := nln_le Q p
    -- a new line at p
    have KN : ∀ (v4 : Value), nln Q (p + 1) = nln Q p + 1 → lin Q p = nln Q p → lsm Q p = ob Q p → ∀ I1 I2, I1 = gup (gup I 19 (nln Q p) (nI p)) 18 0 (nI (nln Q p + 1)) → I2 = gup I1 20 (nln Q p) (ob Q p) → Wp E fX1_breakUp (gn h) 43 [.ref 18, .int w, .int (I0 5 1), .int (bI b), .int (ob Q p), .int (nI (p + 1)), .int (ob Q p)] [] (gM I2 h) K := by
      intro v4 e1 e2 e3 I1 I2 e4 e5
      have := ih (p + 1) I2 (.int (ob Q p)) (by omega) (by subst e5; subst e4; exact ((hs.up rfl).up rfl).up rfl) (by subst e5; subst e4; rw [gup_o _ _ _ _ (by decide), gup_k _ _ _ (by decide), gup_o _ _ _ _ (by decide)]; exact hw) ?_ kk
      · rw [lsa, e3] at this
        exact this
      · refine ⟨by subst e5; subst e4; rw [gup_o _ _ _ _ (by decide), gup_self, e1], fun l hl => ?_⟩
        rw [e1] at hl
        by_cases z : l = nln Q p
        · subst z
          refine ⟨?_, ?_⟩
          · subst e5; subst e4
            rw [gup_o _ _ _ _ (by decide), gup_o _ _ _ _ (by decide), gup_self, frC, e2, if_neg (Nat.lt_irrefl _), frC_all Q (Nat.le_refl _)]
            rfl
          · subst e5
            rw [gup_self, frC, e2, if_pos (by omega), frC_all Q (by omega)]
            exact e3.symm
        · have hl2 : l < nln Q p := by omega
          obtain ⟨g1, g2⟩ := hB1 l hl2
          refine ⟨?_, ?_⟩
          · subst e5; subst e4
            rw [gup_o _ _ _ _ (by decide), gup_o _ _ _ _ (by decide), gup_k _ _ _ (by omega), g1, frC, e2, if_neg (by omega)]
            rfl
          · subst e5; subst e4
            rw [gup_k _ _ _ (by omega), gup_o _ _ _ _ (by decide), gup_o _ _ _ _ (by decide), g2, frC, e2, if_neg (by omega)]
            rfl
    cases p with
    | zero =>
      have hB0' : I 18 0 = nI 0 := hB0
      refine g_iload (i := 5) (t := 45) dX1_breakUp_43 rfl rfl ?_
      refine g_aload_n (i := 0) (r := 18) (t := 46) dX1_breakUp_45 rfl rfl (Or.inl l9_18) rfl ?_
      refine gm_getR (o := 18) (ci := 1) (k := 10) (r := 11) (t := 49) l6_18 l9_18 s_18 gf_X1_41 rfl r_18_10 l9_11 dX1_breakUp_46 rfl ?_
      refine gm_getI (o := 11) (ci := 2) (k := 0) (t := 52) l6_11 l9_11 s_11 gf_X1_57 rfl dX1_breakUp_49 rfl ?_
      rw [h11]
      refine g_icmp_ge_n (t1 := 143) (t2 := 55) dX1_breakUp_52 (by decide) rfl (by omega) (by omega) (fun h52 => ?_) (fun h52 => ?_)
      · exfalso; omega
      · refine g_iload (i := 4) (t := 57) dX1_breakUp_55 rfl rfl ?_
        refine g_iload_n (i := 2) (t := 58) dX1_breakUp_57 rfl rfl rfl ?_
        refine g_iadd (t := 59) dX1_breakUp_58 rfl ?_
        refine g_aload_n (i := 0) (r := 18) (t := 60) dX1_breakUp_59 rfl rfl (Or.inl l9_18) rfl ?_
        refine gm_getR (o := 18) (ci := 1) (k := 10) (r := 11) (t := 63) l6_18 l9_18 s_18 gf_X1_41 rfl r_18_10 l9_11 dX1_breakUp_60 rfl ?_
        refine g_iload (i := 5) (t := 65) dX1_breakUp_63 rfl rfl ?_
        refine g_cVp (o := 11) (t := 68) mX2_outerWish k_X1_62 imX2_outerWish seX2_outerWish l6_11 l9_11 s_11 rfl dX1_breakUp_65 (x2_outerWish hO' (by omega)) rfl rfl (by decide) (by decide) (Nat.le_of_ble_eq_true rfl) rfl (Nat.le_refl _) ?_
        refine g_iadd (t := 69) dX1_breakUp_68 rfl ?_
        refine g_istore (i := 6) (t := 71) (L1 := [_, _, _, _, _, _, _]) dX1_breakUp_69 (by decide) rfl rfl rfl ?_
        refine g_aload_n (i := 0) (r := 18) (t := 72) dX1_breakUp_71 rfl rfl (Or.inl l9_18) rfl ?_
        refine gm_getI (o := 18) (ci := 1) (k := 0) (t := 75) l6_18 l9_18 s_18 gf_X1_49 rfl dX1_breakUp_72 rfl ?_
        rw [hB0']
        refine g_if_eq (t1 := 88) (t2 := 78) dX1_breakUp_75 (by decide) rfl (fun h75 => ?_) (fun h75 => ?_)
        · refine g_aload_n (i := 0) (r := 18) (t := 89) dX1_breakUp_88 rfl rfl (Or.inl l9_18) rfl ?_
          refine gm_getR (o := 18) (ci := 1) (k := 1) (r := 19) (t := 92) l6_18 l9_18 s_18 gf_X1_9 rfl r_18_1 l9_19 dX1_breakUp_89 rfl ?_
          refine g_aload_n (i := 0) (r := 18) (t := 93) dX1_breakUp_92 rfl rfl (Or.inl l9_18) rfl ?_
          refine gm_getI (o := 18) (ci := 1) (k := 0) (t := 96) l6_18 l9_18 s_18 gf_X1_49 rfl dX1_breakUp_93 rfl ?_
          rw [hB0']
          refine g_iload (i := 5) (t := 98) dX1_breakUp_96 rfl rfl ?_
          refine gm_iast_n (a := 19) (n := 16) (t := 99) l6_19 l9_19 s_19 dX1_breakUp_98 (by omega) (by decide) rfl ?_
          refine g_aload_n (i := 0) (r := 18) (t := 100) dX1_breakUp_99 rfl rfl (Or.inl l9_18) rfl ?_
          refine g_dup (t := 101) dX1_breakUp_100 rfl rfl ?_
          refine gm_getI (o := 18) (ci := 1) (k := 0) (t := 104) l6_18 l9_18 s_18 gf_X1_49 rfl dX1_breakUp_101 rfl ?_
          rw [gup_o _ _ _ _ (by decide), hB0']
          refine g_iconst (t := 105) dX1_breakUp_104 c_iconst_1 rfl ?_
          refine g_iadd (t := 106) dX1_breakUp_105 rfl ?_
          refine g_top (gi_s 0) ?_
          refine gm_putI (o := 18) (ci := 1) (k := 0) (t := 109) l6_18 l9_18 s_18 gp_X1_49 rfl rfl rfl dX1_breakUp_106 rfl ?_
          refine g_aload_n (i := 0) (r := 18) (t := 110) dX1_breakUp_109 rfl rfl (Or.inl l9_18) rfl ?_
          refine gm_getR (o := 18) (ci := 1) (k := 10) (r := 11) (t := 113) l6_18 l9_18 s_18 gf_X1_41 rfl r_18_10 l9_11 dX1_breakUp_110 rfl ?_
          refine g_iload (i := 5) (t := 115) dX1_breakUp_113 rfl rfl ?_
          refine g_cVp (o := 11) (t := 118) mX2_outerWish k_X1_62 imX2_outerWish seX2_outerWish l6_11 l9_11 s_11 rfl dX1_breakUp_115 (x2_outerWish (hO'.keep ((gSame.rf.up (cs := [18, 19]) (o := 19) rfl).up (o := 18) rfl) rfl) (by omega)) rfl rfl (by decide) (by decide) (Nat.le_of_ble_eq_true rfl) rfl (Nat.le_refl _) ?_
          refine g_istore (i := 6) (t := 120) (L1 := [_, _, _, _, _, _, _]) dX1_breakUp_118 (by decide) rfl rfl rfl ?_
          rw [eob]
          refine x1_bu_tail_18 (by omega) (gup_self _ _ _ _) ?_
          exact KN .null rfl rfl rfl _ _ rfl rfl
        · exact absurd (by decide) h75
    | succ p =>
      have hB0' : I 18 0 = nI (lin Q p + 1) := hB0
      have hlp := lin_le Q p
      -- the line goes on
      have KO : ¬ (Q.2.1 3 = nI 1 ∧ Q.2.2.1 < (lnS Q p).1 + Q.2.1 1 + ob Q (p + 1)) → Wp E fX1_breakUp (gn h) 120 [.ref 18, .int w, .int (I0 5 1), .int (bI b), .int (lsa Q (p + 1)), .int (nI (p + 1)), .int (lsa Q (p + 1) + I0 5 1 + out P (f (p + 1)))] [] (gM I h) K := by
        intro hno
        have e0 : lnS Q (p + 1) = _ := if_neg hno
        have e2 : lin Q (p + 1) = lin Q p := by unfold lin; rw [e0]
        have e3 : lsm Q (p + 1) = lsa Q (p + 1) + I0 5 1 + out P (f (p + 1)) := by unfold lsm; rw [e0, eob, egap]; rfl
        refine x1_bu_tail_18 (by omega) hB0' ?_
        have := ih (p + 2) (gup I 20 (lin Q p) (lsa Q (p + 1) + I0 5 1 + out P (f (p + 1)))) (.int (lsa Q (p + 1) + I0 5 1 + out P (f (p + 1)))) (by omega) (hs.up rfl) (by rw [gup_o _ _ _ _ (by decide)]; exact hw) ⟨?_, fun l hl => ?_⟩ kk
        · rw [show lsa Q (p + 2) = lsm Q (p + 1) from rfl, e3] at this
          exact this
        · rw [gup_o _ _ _ _ (by decide), hB0']
          show nI (lin Q p + 1) = nI (lin Q (p + 1) + 1)
          rw [e2]
        · have hl : l < lin Q (p + 1) + 1 := hl
          rw [e2] at hl
          obtain ⟨g1, g2⟩ := hB1 l hl
          refine ⟨?_, ?_⟩
          · rw [gup_o _ _ _ _ (by decide), g1, frC_out Q (c := p + 1) (by rw [e2]; omega)]
          · by_cases z : l = lin Q p
            · subst z
              rw [gup_self, frC, e2, if_pos (by omega), frC_all Q (show nln Q (p + 1) ≤ lin Q p + 1 from Nat.le_refl _), ← e3]
              rfl
            · rw [gup_k _ _ _ (by omega), g2, frC_out Q (c := p + 1) (by rw [e2]; omega)]
      refine g_iload (i := 5) (t := 45) dX1_breakUp_43 rfl rfl ?_
      refine g_aload_n (i := 0) (r := 18) (t := 46) dX1_breakUp_45 rfl rfl (Or.inl l9_18) rfl ?_
      refine gm_getR (o := 18) (ci := 1) (k := 10) (r := 11) (t := 49) l6_18 l9_18 s_18 gf_X1_41 rfl r_18_10 l9_11 dX1_breakUp_46 rfl ?_
      refine gm_getI (o := 11) (ci := 2) (k := 0) (t := 52) l6_11 l9_11 s_11 gf_X1_57 rfl dX1_breakUp_49 rfl ?_
      rw [h11]
      refine g_icmp_ge_n (t1 := 143) (t2 := 55) dX1_breakUp_52 (by decide) rfl (by omega) (by omega) (fun h52 => ?_) (fun h52 => ?_)
      · exfalso; omega
      · refine g_iload (i := 4) (t := 57) dX1_breakUp_55 rfl rfl ?_
        refine g_iload_n (i := 2) (t := 58) dX1_breakUp_57 rfl rfl rfl ?_
        refine g_iadd (t := 59) dX1_breakUp_58 rfl ?_
        refine g_aload_n (i := 0) (r := 18) (t := 60) dX1_breakUp_59 rfl rfl (Or.inl l9_18) rfl ?_
        refine gm_getR (o := 18) (ci := 1) (k := 10) (r := 11) (t := 63) l6_18 l9_18 s_18 gf_X1_41 rfl r_18_10 l9_11 dX1_breakUp_60 rfl ?_
        refine g_iload (i := 5) (t := 65) dX1_breakUp_63 rfl rfl ?_
        refine g_cVp (o := 11) (t := 68) mX2_outerWish k_X1_62 imX2_outerWish seX2_outerWish l6_11 l9_11 s_11 rfl dX1_breakUp_65 (x2_outerWish hO' (by omega)) rfl rfl (by decide) (by decide) (Nat.le_of_ble_eq_true rfl) rfl (Nat.le_refl _) ?_
        refine g_iadd (t := 69) dX1_breakUp_68 rfl ?_
        refine g_istore (i := 6) (t := 71) (L1 := [_, _, _, _, _, _, _]) dX1_breakUp_69 (by decide) rfl rfl rfl ?_
        refine g_aload_n (i := 0) (r := 18) (t := 72) dX1_breakUp_71 rfl rfl (Or.inl l9_18) rfl ?_
        refine gm_getI (o := 18) (ci := 1) (k := 0) (t := 75) l6_18 l9_18 s_18 gf_X1_49 rfl dX1_breakUp_72 rfl ?_
        rw [hB0']
        refine g_if_eq (t1 := 88) (t2 := 78) dX1_breakUp_75 (by decide) rfl (fun h75 => ?_) (fun h75 => ?_)
        · exact absurd h75 (nI_ne0 (by omega) (by omega))
        · refine g_iload_n (i := 3) (t := 79) dX1_breakUp_78 rfl rfl rfl ?_
          refine g_if_eq (t1 := 120) (t2 := 82) dX1_breakUp_79 (by decide) rfl (fun h79 => ?_) (fun h79 => ?_)
          · refine KO (fun z => ?_)
            cases b with
            | false => exact absurd (hb.mpr (eb.trans z.1)) (by decide)
            | true => exact absurd h79 (by decide)
          · refine g_iload (i := 6) (t := 84) dX1_breakUp_82 rfl rfl ?_
            refine g_iload_n (i := 1) (t := 85) dX1_breakUp_84 rfl rfl rfl ?_
            refine g_icmp_le (t1 := 120) (t2 := 88) dX1_breakUp_85 (by decide) rfl (fun h85 => ?_) (fun h85 => ?_)
            · refine KO (fun z => ?_)
              rw [← eob, ← egap, ← ew] at z
              exact absurd h85 (Int32.not_le.mpr z.2)
            · refine g_aload_n (i := 0) (r := 18) (t := 89) dX1_breakUp_88 rfl rfl (Or.inl l9_18) rfl ?_
              refine gm_getR (o := 18) (ci := 1) (k := 1) (r := 19) (t := 92) l6_18 l9_18 s_18 gf_X1_9 rfl r_18_1 l9_19 dX1_breakUp_89 rfl ?_
              refine g_aload_n (i := 0) (r := 18) (t := 93) dX1_breakUp_92 rfl rfl (Or.inl l9_18) rfl ?_
              refine gm_getI (o := 18) (ci := 1) (k := 0) (t := 96) l6_18 l9_18 s_18 gf_X1_49 rfl dX1_breakUp_93 rfl ?_
              rw [hB0']
              refine g_iload (i := 5) (t := 98) dX1_breakUp_96 rfl rfl ?_
              refine gm_iast_n (a := 19) (n := 16) (t := 99) l6_19 l9_19 s_19 dX1_breakUp_98 (by omega) (by decide) rfl ?_
              refine g_aload_n (i := 0) (r := 18) (t := 100) dX1_breakUp_99 rfl rfl (Or.inl l9_18) rfl ?_
              refine g_dup (t := 101) dX1_breakUp_100 rfl rfl ?_
              refine gm_getI (o := 18) (ci := 1) (k := 0) (t := 104) l6_18 l9_18 s_18 gf_X1_49 rfl dX1_breakUp_101 rfl ?_
              rw [gup_o _ _ _ _ (by decide), hB0']
              refine g_iconst (t := 105) dX1_breakUp_104 c_iconst_1 rfl ?_
              refine g_iadd (t := 106) dX1_breakUp_105 rfl ?_
              refine g_top (gi_s _) ?_
              refine gm_putI (o := 18) (ci := 1) (k := 0) (t := 109) l6_18 l9_18 s_18 gp_X1_49 rfl rfl rfl dX1_breakUp_106 rfl ?_
              refine g_aload_n (i := 0) (r := 18) (t := 110) dX1_breakUp_109 rfl rfl (Or.inl l9_18) rfl ?_
              refine gm_getR (o := 18) (ci := 1) (k := 10) (r := 11) (t := 113) l6_18 l9_18 s_18 gf_X1_41 rfl r_18_10 l9_11 dX1_breakUp_110 rfl ?_
              refine g_iload (i := 5) (t := 115) dX1_breakUp_113 rfl rfl ?_
              refine g_cVp (o := 11) (t := 118) mX2_outerWish k_X1_62 imX2_outerWish seX2_outerWish l6_11 l9_11 s_11 rfl dX1_breakUp_115 (x2_outerWish (hO'.keep ((gSame.rf.up (cs := [18, 19]) (o := 19) rfl).up (o := 18) rfl) rfl) (by omega)) rfl rfl (by decide) (by decide) (Nat.le_of_ble_eq_true rfl) rfl (Nat.le_refl _) ?_
              refine g_istore (i := 6) (t := 120) (L1 := [_, _, _, _, _, _, _]) dX1_breakUp_118 (by decide) rfl rfl rfl ?_
              have hbt : b = true := by
                cases b with
                | false => exact absurd (by decide) h79
                | true => rfl
              have e0 : lnS Q (p + 1) = _ := if_pos ⟨eb.symm.trans (hb.mp hbt), by rw [← eob, ← egap, ← ew]; exact Int32.not_le.mp h85⟩
              have e2 : lin Q (p + 1) = lin Q p + 1 := by unfold lin; rw [e0]
              rw [eob]
              refine x1_bu_tail_18 (by omega) (gup_self _ _ _ _) ?_
              exact KN .null (by show lin Q (p + 1) + 1 = lin Q p + 1 + 1; rw [e2]) e2 (by unfold lsm; rw [e0]) _ _ rfl rfl
theorem x1_breakUp_18 {P : dP} {c : Nat} {f : Nat → Nat} {w : Int32} (hO : xO I P c f) : gQV E fX1_breakUp [.ref 18, .int w] I h (fun I' => gSame [18, 19, 20] I I' ∧ I' 18 11 = w ∧ xB I' 18 19 20 (P, I 5, w, f) c) := by
  refine gEv.of rfl (Nat.le_refl _) (Nat.le_of_ble_eq_true rfl) (L := [.ref 18, .int w, .null, .null, .null, .null, .null]) rfl ?_
  have hs0 : gSame [18, 19, 20] I (gup (gup I 18 11 w) 18 0 (nI 0)) := (gSame.rf.up rfl).up rfl
  refine g_aload_n (i := 0) (r := 18) (t := 1) dX1_breakUp_0 rfl rfl (Or.inl l9_18) rfl ?_
  refine g_iload_n (i := 1) (t := 2) dX1_breakUp_1 rfl rfl rfl ?_
  refine gm_putI (o := 18) (ci := 1) (k := 11) (t := 5) l6_18 l9_18 s_18 gp_X1_45 rfl rfl rfl dX1_breakUp_2 rfl ?_
  refine g_aload_n (i := 0) (r := 18) (t := 6) dX1_breakUp_5 rfl rfl (Or.inl l9_18) rfl ?_
  refine g_iconst (t := 7) dX1_breakUp_6 c_iconst_0 rfl ?_
  refine gm_putI (o := 18) (ci := 1) (k := 0) (t := 10) l6_18 l9_18 s_18 gp_X1_49 rfl rfl rfl dX1_breakUp_7 rfl ?_
  refine g_aload_n (i := 0) (r := 18) (t := 11) dX1_breakUp_10 rfl rfl (Or.inl l9_18) rfl ?_
  refine gm_getR (o := 18) (ci := 1) (k := 9) (r := 4) (t := 14) l6_18 l9_18 s_18 gf_X1_37 rfl r_18_9 l9_4 dX1_breakUp_11 rfl ?_
  refine g_iconst (t := 15) dX1_breakUp_14 c_iconst_1 rfl ?_
  refine g_cVp (o := 4) (t := 18) mX4_number k_X1_52 imX4_number seX4_number l6_4 l9_4 s_4 rfl dX1_breakUp_15 (x4_number (by omega)) rfl rfl (by decide) (by decide) (Nat.le_of_ble_eq_true rfl) rfl (Nat.le_refl _) ?_
  rw [hs0.at 5 rfl]
  refine g_istore_n (i := 2) (t := 19) (L1 := [_, _, _, _, _, _, _]) dX1_breakUp_18 rfl (by decide) rfl rfl rfl ?_
  refine g_aload_n (i := 0) (r := 18) (t := 20) dX1_breakUp_19 rfl rfl (Or.inl l9_18) rfl ?_
  refine gm_getR (o := 18) (ci := 1) (k := 9) (r := 4) (t := 23) l6_18 l9_18 s_18 gf_X1_37 rfl r_18_9 l9_4 dX1_breakUp_20 rfl ?_
  refine g_iconst (t := 24) dX1_breakUp_23 c_iconst_3 rfl ?_
  refine g_cVp (o := 4) (t := 27) mX4_number k_X1_52 imX4_number seX4_number l6_4 l9_4 s_4 rfl dX1_breakUp_24 (x4_number (by omega)) rfl rfl (by decide) (by decide) (Nat.le_of_ble_eq_true rfl) rfl (Nat.le_refl _) ?_
  rw [hs0.at 5 rfl]
  refine g_iconst (t := 28) dX1_breakUp_27 c_iconst_1 rfl ?_
  refine g_icmp_ne (t1 := 35) (t2 := 31) dX1_breakUp_28 (by decide) rfl (fun h28 => ?_) (fun h28 => ?_)
  · have HBB : false = true ↔ I 5 3 = nI 1 := ⟨fun q => absurd q (by decide), fun q => absurd q h28⟩
    refine g_iconst (t := 36) dX1_breakUp_35 c_iconst_0 rfl ?_
    refine g_istore_n (i := 3) (t := 37) (L1 := [_, _, _, _, _, _, _]) dX1_breakUp_36 rfl (by decide) rfl rfl rfl ?_
    refine g_iconst (t := 38) dX1_breakUp_37 c_iconst_0 rfl ?_
    refine g_istore (i := 4) (t := 40) (L1 := [_, _, _, _, _, _, _]) dX1_breakUp_38 (by decide) rfl rfl rfl ?_
    refine g_iconst (t := 41) dX1_breakUp_40 c_iconst_0 rfl ?_
    refine g_istore (i := 5) (t := 43) (L1 := [_, _, _, _, _, _, _]) dX1_breakUp_41 (by decide) rfl rfl rfl ?_
    refine x1_bu_loop_18 (I0 := I) hO HBB c 0 _ _ (by omega) hs0 (by rw [gup_k _ _ _ (by decide), gup_self]) ⟨gup_self _ _ _ _, fun l hl => absurd hl (Nat.not_lt_zero _)⟩ (fun I1 v4 v6 hs hw hB => ?_)
    exact g_retV dX1_breakUp_143 rfl ⟨hs, hw, hB⟩
  · have HBB : true = true ↔ I 5 3 = nI 1 := ⟨fun _ => h28, fun _ => rfl⟩
    refine g_iconst (t := 32) dX1_breakUp_31 c_iconst_1 rfl ?_
    refine g_goto (t := 36) dX1_breakUp_32 (by decide) ?_
    refine g_istore_n (i := 3) (t := 37) (L1 := [_, _, _, _, _, _, _]) dX1_breakUp_36 rfl (by decide) rfl rfl rfl ?_
    refine g_iconst (t := 38) dX1_breakUp_37 c_iconst_0 rfl ?_
    refine g_istore (i := 4) (t := 40) (L1 := [_, _, _, _, _, _, _]) dX1_breakUp_38 (by decide) rfl rfl rfl ?_
    refine g_iconst (t := 41) dX1_breakUp_40 c_iconst_0 rfl ?_
    refine g_istore (i := 5) (t := 43) (L1 := [_, _, _, _, _, _, _]) dX1_breakUp_41 (by decide) rfl rfl rfl ?_
    refine x1_bu_loop_18 (I0 := I) hO HBB c 0 _ _ (by omega) hs0 (by rw [gup_k _ _ _ (by decide), gup_self]) ⟨gup_self _ _ _ _, fun l hl => absurd hl (Nat.not_lt_zero _)⟩ (fun I1 v4 v6 hs hw hB => ?_)
    exact g_retV dX1_breakUp_143 rfl ⟨hs, hw, hB⟩
/-- the end of the loop's body: N the line's number -/
theorem x1_bu_tail_32 {p N : Nat} {s w gap b v4 : Int32} (hN : N < 16) (h0 : I 32 0 = nI (N + 1)) {K : gK} (kk : Wp E fX1_breakUp (gn h) 43 [.ref 32, .int w, .int gap, .int b, .int s, .int (nI (p + 1)), .int s] [] (gM (gup I 34 N s) h) K) : Wp E fX1_breakUp (gn h) 120 [.ref 32, .int w, .int gap, .int b, .int v4, .int (nI p), .int s] [] (gM I h) K := by
  refine g_iload (i := 6) (t := 122) dX1_breakUp_120 rfl rfl ?_
  refine g_istore (i := 4) (t := 124) (L1 := [_, _, _, _, _, _, _]) dX1_breakUp_122 (by decide) rfl rfl rfl ?_
  refine g_aload_n (i := 0) (r := 32) (t := 125) dX1_breakUp_124 rfl rfl (Or.inl l9_32) rfl ?_
  refine gm_getR (o := 32) (ci := 1) (k := 2) (r := 34) (t := 128) l6_32 l9_32 s_32 gf_X1_15 rfl r_32_2 l9_34 dX1_breakUp_125 rfl ?_
  refine g_aload_n (i := 0) (r := 32) (t := 129) dX1_breakUp_128 rfl rfl (Or.inl l9_32) rfl ?_
  refine gm_getI (o := 32) (ci := 1) (k := 0) (t := 132) l6_32 l9_32 s_32 gf_X1_49 rfl dX1_breakUp_129 rfl ?_
  rw [h0]
  refine g_iconst (t := 133) dX1_breakUp_132 c_iconst_1 rfl ?_
  refine g_isub (t := 134) dX1_breakUp_133 rfl ?_
  refine g_top (gi_p N) ?_
  refine g_iload (i := 4) (t := 136) dX1_breakUp_134 rfl rfl ?_
  refine gm_iast_n (a := 34) (n := 16) (t := 137) l6_34 l9_34 s_34 dX1_breakUp_136 (by omega) (by decide) rfl ?_
  refine g_iinc (i := 5) (t := 140) (L1 := [_, _, _, _, _, _, _]) dX1_breakUp_137 rfl (gi_1 _) (by decide) rfl rfl rfl ?_
  refine g_goto (t := 43) dX1_breakUp_140 (by decide) ?_
  exact kk
theorem x1_bu_loop_32 {P : dP} {c : Nat} {f : Nat → Nat} {w : Int32} {b : Bool} {I0 : Nat → Nat → Int32} (hO : xO I0 P c f) (hb : b = true ↔ I0 5 3 = nI 1) {K : gK} : ∀ (d p : Nat) (I : Nat → Nat → Int32) (v6 : Value), p + d = c → gSame [32, 33, 34] I0 I → I 32 11 = w → xB I 32 33 34 (P, I0 5, w, f) p →
    (∀ I v4 v6, gSame [32, 33, 34] I0 I → I 32 11 = w → xB I 32 33 34 (P, I0 5, w, f) c → Wp E fX1_breakUp (gn h) 143 [.ref 32, .int w, .int (I0 5 1), .int (bI b), v4, .int (nI c), v6] [] (gM I h) K) →
    Wp E fX1_breakUp (gn h) 43 [.ref 32, .int w, .int (I0 5 1), .int (bI b), .int (lsa (P, I0 5, w, f) p), .int (nI p), v6] [] (gM I h) K := by
  intro d
  induction d with
  | zero =>
    intro p I v6 hp hs hw hB kk
    have hp : p = c := by omega
    subst hp
    have h11 : I 11 0 = nI p := by rw [hs.at 11 rfl]; exact hO.2.1
    have hc := hO.1
    refine g_iload (i := 5) (t := 45) dX1_breakUp_43 rfl rfl ?_
    refine g_aload_n (i := 0) (r := 32) (t := 46) dX1_breakUp_45 rfl rfl (Or.inl l9_32) rfl ?_
    refine gm_getR (o := 32) (ci := 1) (k := 10) (r := 11) (t := 49) l6_32 l9_32 s_32 gf_X1_41 rfl r_32_10 l9_11 dX1_breakUp_46 rfl ?_
    refine gm_getI (o := 11) (ci := 2) (k := 0) (t := 52) l6_11 l9_11 s_11 gf_X1_57 rfl dX1_breakUp_49 rfl ?_
    rw [h11]
    refine g_icmp_ge_n (t1 := 143) (t2 := 55) dX1_breakUp_52 (by decide) rfl (by omega) (by omega) (fun h52 => ?_) (fun h52 => ?_)
    · exact kk I _ v6 hs hw hB
    · exfalso; omega
  | succ d ih =>
    intro p I v6 hp hs hw hB kk
    have h11 : I 11 0 = nI c := by rw [hs.at 11 rfl]; exact hO.2.1
    have hc := hO.1
    have hO' : xO I P c f := hO.keep hs rfl
    obtain ⟨hB0, hB1⟩ := hB
    obtain ⟨Q, hQ⟩ : ∃ Q, Q = (P, I0 5, w, f) := ⟨_, rfl⟩
    rw [← hQ] at hB0 hB1 ih kk ⊢
    have eob : out P (f p) = ob Q p := by rw [hQ]; rfl
    have egap : I0 5 1 = Q.2.1 1 := by rw [hQ]
    have ew : w = Q.2.2.1 := by rw [hQ]
    have eb : I0 5 3 = Q.2.1 3 := by rw [hQ]
    have hnl := nln_le Q p
    -- a new line at p
    have KN : ∀ (v4 : Value), nln Q (p + 1) = nln Q p + 1 → lin Q p = nln Q p → lsm Q p = ob Q p → ∀ I1 I2, I1 = gup (gup I 33 (nln Q p) (nI p)) 32 0 (nI (nln Q p + 1)) → I2 = gup I1 34 (nln Q p) (ob Q p) → Wp E fX1_breakUp (gn h) 43 [.ref 32, .int w, .int (I0 5 1), .int (bI b), .int (ob Q p), .int (nI (p + 1)), .int (ob Q p)] [] (gM I2 h) K := by
      intro v4 e1 e2 e3 I1 I2 e4 e5
      have := ih (p + 1) I2 (.int (ob Q p)) (by omega) (by subst e5; subst e4; exact ((hs.up rfl).up rfl).up rfl) (by subst e5; subst e4; rw [gup_o _ _ _ _ (by decide), gup_k _ _ _ (by decide), gup_o _ _ _ _ (by decide)]; exact hw) ?_ kk
      · rw [lsa, e3] at this
        exact this
      · refine ⟨by subst e5; subst e4; rw [gup_o _ _ _ _ (by decide), gup_self, e1], fun l hl => ?_⟩
        rw [e1] at hl
        by_cases z : l = nln Q p
        · subst z
          refine ⟨?_, ?_⟩
          · subst e5; subst e4
            rw [gup_o _ _ _ _ (by decide), gup_o _ _ _ _ (by decide), gup_self, frC, e2, if_neg (Nat.lt_irrefl _), frC_all Q (Nat.le_refl _)]
            rfl
          · subst e5
            rw [gup_self, frC, e2, if_pos (by omega), frC_all Q (by omega)]
            exact e3.symm
        · have hl2 : l < nln Q p := by omega
          obtain ⟨g1, g2⟩ := hB1 l hl2
          refine ⟨?_, ?_⟩
          · subst e5; subst e4
            rw [gup_o _ _ _ _ (by decide), gup_o _ _ _ _ (by decide), gup_k _ _ _ (by omega), g1, frC, e2, if_neg (by omega)]
            rfl
          · subst e5; subst e4
            rw [gup_k _ _ _ (by omega), gup_o _ _ _ _ (by decide), gup_o _ _ _ _ (by decide), g2, frC, e2, if_neg (by omega)]
            rfl
    cases p with
    | zero =>
      have hB0' : I 32 0 = nI 0 := hB0
      refine g_iload (i := 5) (t := 45) dX1_breakUp_43 rfl rfl ?_
      refine g_aload_n (i := 0) (r := 32) (t := 46) dX1_breakUp_45 rfl rfl (Or.inl l9_32) rfl ?_
      refine gm_getR (o := 32) (ci := 1) (k := 10) (r := 11) (t := 49) l6_32 l9_32 s_32 gf_X1_41 rfl r_32_10 l9_11 dX1_breakUp_46 rfl ?_
      refine gm_getI (o := 11) (ci := 2) (k := 0) (t := 52) l6_11 l9_11 s_11 gf_X1_57 rfl dX1_breakUp_49 rfl ?_
      rw [h11]
      refine g_icmp_ge_n (t1 := 143) (t2 := 55) dX1_breakUp_52 (by decide) rfl (by omega) (by omega) (fun h52 => ?_) (fun h52 => ?_)
      · exfalso; omega
      · refine g_iload (i := 4) (t := 57) dX1_breakUp_55 rfl rfl ?_
        refine g_iload_n (i := 2) (t := 58) dX1_breakUp_57 rfl rfl rfl ?_
        refine g_iadd (t := 59) dX1_breakUp_58 rfl ?_
        refine g_aload_n (i := 0) (r := 32) (t := 60) dX1_breakUp_59 rfl rfl (Or.inl l9_32) rfl ?_
        refine gm_getR (o := 32) (ci := 1) (k := 10) (r := 11) (t := 63) l6_32 l9_32 s_32 gf_X1_41 rfl r_32_10 l9_11 dX1_breakUp_60 rfl ?_
        refine g_iload (i := 5) (t := 65) dX1_breakUp_63 rfl rfl ?_
        refine g_cVp (o := 11) (t := 68) mX2_outerWish k_X1_62 imX2_outerWish seX2_outerWish l6_11 l9_11 s_11 rfl dX1_breakUp_65 (x2_outerWish hO' (by omega)) rfl rfl (by decide) (by decide) (Nat.le_of_ble_eq_true rfl) rfl (Nat.le_refl _) ?_
        refine g_iadd (t := 69) dX1_breakUp_68 rfl ?_
        refine g_istore (i := 6) (t := 71) (L1 := [_, _, _, _, _, _, _]) dX1_breakUp_69 (by decide) rfl rfl rfl ?_
        refine g_aload_n (i := 0) (r := 32) (t := 72) dX1_breakUp_71 rfl rfl (Or.inl l9_32) rfl ?_
        refine gm_getI (o := 32) (ci := 1) (k := 0) (t := 75) l6_32 l9_32 s_32 gf_X1_49 rfl dX1_breakUp_72 rfl ?_
        rw [hB0']
        refine g_if_eq (t1 := 88) (t2 := 78) dX1_breakUp_75 (by decide) rfl (fun h75 => ?_) (fun h75 => ?_)
        · refine g_aload_n (i := 0) (r := 32) (t := 89) dX1_breakUp_88 rfl rfl (Or.inl l9_32) rfl ?_
          refine gm_getR (o := 32) (ci := 1) (k := 1) (r := 33) (t := 92) l6_32 l9_32 s_32 gf_X1_9 rfl r_32_1 l9_33 dX1_breakUp_89 rfl ?_
          refine g_aload_n (i := 0) (r := 32) (t := 93) dX1_breakUp_92 rfl rfl (Or.inl l9_32) rfl ?_
          refine gm_getI (o := 32) (ci := 1) (k := 0) (t := 96) l6_32 l9_32 s_32 gf_X1_49 rfl dX1_breakUp_93 rfl ?_
          rw [hB0']
          refine g_iload (i := 5) (t := 98) dX1_breakUp_96 rfl rfl ?_
          refine gm_iast_n (a := 33) (n := 16) (t := 99) l6_33 l9_33 s_33 dX1_breakUp_98 (by omega) (by decide) rfl ?_
          refine g_aload_n (i := 0) (r := 32) (t := 100) dX1_breakUp_99 rfl rfl (Or.inl l9_32) rfl ?_
          refine g_dup (t := 101) dX1_breakUp_100 rfl rfl ?_
          refine gm_getI (o := 32) (ci := 1) (k := 0) (t := 104) l6_32 l9_32 s_32 gf_X1_49 rfl dX1_breakUp_101 rfl ?_
          rw [gup_o _ _ _ _ (by decide), hB0']
          refine g_iconst (t := 105) dX1_breakUp_104 c_iconst_1 rfl ?_
          refine g_iadd (t := 106) dX1_breakUp_105 rfl ?_
          refine g_top (gi_s 0) ?_
          refine gm_putI (o := 32) (ci := 1) (k := 0) (t := 109) l6_32 l9_32 s_32 gp_X1_49 rfl rfl rfl dX1_breakUp_106 rfl ?_
          refine g_aload_n (i := 0) (r := 32) (t := 110) dX1_breakUp_109 rfl rfl (Or.inl l9_32) rfl ?_
          refine gm_getR (o := 32) (ci := 1) (k := 10) (r := 11) (t := 113) l6_32 l9_32 s_32 gf_X1_41 rfl r_32_10 l9_11 dX1_breakUp_110 rfl ?_
          refine g_iload (i := 5) (t := 115) dX1_breakUp_113 rfl rfl ?_
          refine g_cVp (o := 11) (t := 118) mX2_outerWish k_X1_62 imX2_outerWish seX2_outerWish l6_11 l9_11 s_11 rfl dX1_breakUp_115 (x2_outerWish (hO'.keep ((gSame.rf.up (cs := [32, 33]) (o := 33) rfl).up (o := 32) rfl) rfl) (by omega)) rfl rfl (by decide) (by decide) (Nat.le_of_ble_eq_true rfl) rfl (Nat.le_refl _) ?_
          refine g_istore (i := 6) (t := 120) (L1 := [_, _, _, _, _, _, _]) dX1_breakUp_118 (by decide) rfl rfl rfl ?_
          rw [eob]
          refine x1_bu_tail_32 (by omega) (gup_self _ _ _ _) ?_
          exact KN .null rfl rfl rfl _ _ rfl rfl
        · exact absurd (by decide) h75
    | succ p =>
      have hB0' : I 32 0 = nI (lin Q p + 1) := hB0
      have hlp := lin_le Q p
      -- the line goes on
      have KO : ¬ (Q.2.1 3 = nI 1 ∧ Q.2.2.1 < (lnS Q p).1 + Q.2.1 1 + ob Q (p + 1)) → Wp E fX1_breakUp (gn h) 120 [.ref 32, .int w, .int (I0 5 1), .int (bI b), .int (lsa Q (p + 1)), .int (nI (p + 1)), .int (lsa Q (p + 1) + I0 5 1 + out P (f (p + 1)))] [] (gM I h) K := by
        intro hno
        have e0 : lnS Q (p + 1) = _ := if_neg hno
        have e2 : lin Q (p + 1) = lin Q p := by unfold lin; rw [e0]
        have e3 : lsm Q (p + 1) = lsa Q (p + 1) + I0 5 1 + out P (f (p + 1)) := by unfold lsm; rw [e0, eob, egap]; rfl
        refine x1_bu_tail_32 (by omega) hB0' ?_
        have := ih (p + 2) (gup I 34 (lin Q p) (lsa Q (p + 1) + I0 5 1 + out P (f (p + 1)))) (.int (lsa Q (p + 1) + I0 5 1 + out P (f (p + 1)))) (by omega) (hs.up rfl) (by rw [gup_o _ _ _ _ (by decide)]; exact hw) ⟨?_, fun l hl => ?_⟩ kk
        · rw [show lsa Q (p + 2) = lsm Q (p + 1) from rfl, e3] at this
          exact this
        · rw [gup_o _ _ _ _ (by decide), hB0']
          show nI (lin Q p + 1) = nI (lin Q (p + 1) + 1)
          rw [e2]
        · have hl : l < lin Q (p + 1) + 1 := hl
          rw [e2] at hl
          obtain ⟨g1, g2⟩ := hB1 l hl
          refine ⟨?_, ?_⟩
          · rw [gup_o _ _ _ _ (by decide), g1, frC_out Q (c := p + 1) (by rw [e2]; omega)]
          · by_cases z : l = lin Q p
            · subst z
              rw [gup_self, frC, e2, if_pos (by omega), frC_all Q (show nln Q (p + 1) ≤ lin Q p + 1 from Nat.le_refl _), ← e3]
              rfl
            · rw [gup_k _ _ _ (by omega), g2, frC_out Q (c := p + 1) (by rw [e2]; omega)]
      refine g_iload (i := 5) (t := 45) dX1_breakUp_43 rfl rfl ?_
      refine g_aload_n (i := 0) (r := 32) (t := 46) dX1_breakUp_45 rfl rfl (Or.inl l9_32) rfl ?_
      refine gm_getR (o := 32) (ci := 1) (k := 10) (r := 11) (t := 49) l6_32 l9_32 s_32 gf_X1_41 rfl r_32_10 l9_11 dX1_breakUp_46 rfl ?_
      refine gm_getI (o := 11) (ci := 2) (k := 0) (t := 52) l6_11 l9_11 s_11 gf_X1_57 rfl dX1_breakUp_49 rfl ?_
      rw [h11]
      refine g_icmp_ge_n (t1 := 143) (t2 := 55) dX1_breakUp_52 (by decide) rfl (by omega) (by omega) (fun h52 => ?_) (fun h52 => ?_)
      · exfalso; omega
      · refine g_iload (i := 4) (t := 57) dX1_breakUp_55 rfl rfl ?_
        refine g_iload_n (i := 2) (t := 58) dX1_breakUp_57 rfl rfl rfl ?_
        refine g_iadd (t := 59) dX1_breakUp_58 rfl ?_
        refine g_aload_n (i := 0) (r := 32) (t := 60) dX1_breakUp_59 rfl rfl (Or.inl l9_32) rfl ?_
        refine gm_getR (o := 32) (ci := 1) (k := 10) (r := 11) (t := 63) l6_32 l9_32 s_32 gf_X1_41 rfl r_32_10 l9_11 dX1_breakUp_60 rfl ?_
        refine g_iload (i := 5) (t := 65) dX1_breakUp_63 rfl rfl ?_
        refine g_cVp (o := 11) (t := 68) mX2_outerWish k_X1_62 imX2_outerWish seX2_outerWish l6_11 l9_11 s_11 rfl dX1_breakUp_65 (x2_outerWish hO' (by omega)) rfl rfl (by decide) (by decide) (Nat.le_of_ble_eq_true rfl) rfl (Nat.le_refl _) ?_
        refine g_iadd (t := 69) dX1_breakUp_68 rfl ?_
        refine g_istore (i := 6) (t := 71) (L1 := [_, _, _, _, _, _, _]) dX1_breakUp_69 (by decide) rfl rfl rfl ?_
        refine g_aload_n (i := 0) (r := 32) (t := 72) dX1_breakUp_71 rfl rfl (Or.inl l9_32) rfl ?_
        refine gm_getI (o := 32) (ci := 1) (k := 0) (t := 75) l6_32 l9_32 s_32 gf_X1_49 rfl dX1_breakUp_72 rfl ?_
        rw [hB0']
        refine g_if_eq (t1 := 88) (t2 := 78) dX1_breakUp_75 (by decide) rfl (fun h75 => ?_) (fun h75 => ?_)
        · exact absurd h75 (nI_ne0 (by omega) (by omega))
        · refine g_iload_n (i := 3) (t := 79) dX1_breakUp_78 rfl rfl rfl ?_
          refine g_if_eq (t1 := 120) (t2 := 82) dX1_breakUp_79 (by decide) rfl (fun h79 => ?_) (fun h79 => ?_)
          · refine KO (fun z => ?_)
            cases b with
            | false => exact absurd (hb.mpr (eb.trans z.1)) (by decide)
            | true => exact absurd h79 (by decide)
          · refine g_iload (i := 6) (t := 84) dX1_breakUp_82 rfl rfl ?_
            refine g_iload_n (i := 1) (t := 85) dX1_breakUp_84 rfl rfl rfl ?_
            refine g_icmp_le (t1 := 120) (t2 := 88) dX1_breakUp_85 (by decide) rfl (fun h85 => ?_) (fun h85 => ?_)
            · refine KO (fun z => ?_)
              rw [← eob, ← egap, ← ew] at z
              exact absurd h85 (Int32.not_le.mpr z.2)
            · refine g_aload_n (i := 0) (r := 32) (t := 89) dX1_breakUp_88 rfl rfl (Or.inl l9_32) rfl ?_
              refine gm_getR (o := 32) (ci := 1) (k := 1) (r := 33) (t := 92) l6_32 l9_32 s_32 gf_X1_9 rfl r_32_1 l9_33 dX1_breakUp_89 rfl ?_
              refine g_aload_n (i := 0) (r := 32) (t := 93) dX1_breakUp_92 rfl rfl (Or.inl l9_32) rfl ?_
              refine gm_getI (o := 32) (ci := 1) (k := 0) (t := 96) l6_32 l9_32 s_32 gf_X1_49 rfl dX1_breakUp_93 rfl ?_
              rw [hB0']
              refine g_iload (i := 5) (t := 98) dX1_breakUp_96 rfl rfl ?_
              refine gm_iast_n (a := 33) (n := 16) (t := 99) l6_33 l9_33 s_33 dX1_breakUp_98 (by omega) (by decide) rfl ?_
              refine g_aload_n (i := 0) (r := 32) (t := 100) dX1_breakUp_99 rfl rfl (Or.inl l9_32) rfl ?_
              refine g_dup (t := 101) dX1_breakUp_100 rfl rfl ?_
              refine gm_getI (o := 32) (ci := 1) (k := 0) (t := 104) l6_32 l9_32 s_32 gf_X1_49 rfl dX1_breakUp_101 rfl ?_
              rw [gup_o _ _ _ _ (by decide), hB0']
              refine g_iconst (t := 105) dX1_breakUp_104 c_iconst_1 rfl ?_
              refine g_iadd (t := 106) dX1_breakUp_105 rfl ?_
              refine g_top (gi_s _) ?_
              refine gm_putI (o := 32) (ci := 1) (k := 0) (t := 109) l6_32 l9_32 s_32 gp_X1_49 rfl rfl rfl dX1_breakUp_106 rfl ?_
              refine g_aload_n (i := 0) (r := 32) (t := 110) dX1_breakUp_109 rfl rfl (Or.inl l9_32) rfl ?_
              refine gm_getR (o := 32) (ci := 1) (k := 10) (r := 11) (t := 113) l6_32 l9_32 s_32 gf_X1_41 rfl r_32_10 l9_11 dX1_breakUp_110 rfl ?_
              refine g_iload (i := 5) (t := 115) dX1_breakUp_113 rfl rfl ?_
              refine g_cVp (o := 11) (t := 118) mX2_outerWish k_X1_62 imX2_outerWish seX2_outerWish l6_11 l9_11 s_11 rfl dX1_breakUp_115 (x2_outerWish (hO'.keep ((gSame.rf.up (cs := [32, 33]) (o := 33) rfl).up (o := 32) rfl) rfl) (by omega)) rfl rfl (by decide) (by decide) (Nat.le_of_ble_eq_true rfl) rfl (Nat.le_refl _) ?_
              refine g_istore (i := 6) (t := 120) (L1 := [_, _, _, _, _, _, _]) dX1_breakUp_118 (by decide) rfl rfl rfl ?_
              have hbt : b = true := by
                cases b with
                | false => exact absurd (by decide) h79
                | true => rfl
              have e0 : lnS Q (p + 1) = _ := if_pos ⟨eb.symm.trans (hb.mp hbt), by rw [← eob, ← egap, ← ew]; exact Int32.not_le.mp h85⟩
              have e2 : lin Q (p + 1) = lin Q p + 1 := by unfold lin; rw [e0]
              rw [eob]
              refine x1_bu_tail_32 (by omega) (gup_self _ _ _ _) ?_
              exact KN .null (by show lin Q (p + 1) + 1 = lin Q p + 1 + 1; rw [e2]) e2 (by unfold lsm; rw [e0]) _ _ rfl rfl
theorem x1_breakUp_32 {P : dP} {c : Nat} {f : Nat → Nat} {w : Int32} (hO : xO I P c f) : gQV E fX1_breakUp [.ref 32, .int w] I h (fun I' => gSame [32, 33, 34] I I' ∧ I' 32 11 = w ∧ xB I' 32 33 34 (P, I 5, w, f) c) := by
  refine gEv.of rfl (Nat.le_refl _) (Nat.le_of_ble_eq_true rfl) (L := [.ref 32, .int w, .null, .null, .null, .null, .null]) rfl ?_
  have hs0 : gSame [32, 33, 34] I (gup (gup I 32 11 w) 32 0 (nI 0)) := (gSame.rf.up rfl).up rfl
  refine g_aload_n (i := 0) (r := 32) (t := 1) dX1_breakUp_0 rfl rfl (Or.inl l9_32) rfl ?_
  refine g_iload_n (i := 1) (t := 2) dX1_breakUp_1 rfl rfl rfl ?_
  refine gm_putI (o := 32) (ci := 1) (k := 11) (t := 5) l6_32 l9_32 s_32 gp_X1_45 rfl rfl rfl dX1_breakUp_2 rfl ?_
  refine g_aload_n (i := 0) (r := 32) (t := 6) dX1_breakUp_5 rfl rfl (Or.inl l9_32) rfl ?_
  refine g_iconst (t := 7) dX1_breakUp_6 c_iconst_0 rfl ?_
  refine gm_putI (o := 32) (ci := 1) (k := 0) (t := 10) l6_32 l9_32 s_32 gp_X1_49 rfl rfl rfl dX1_breakUp_7 rfl ?_
  refine g_aload_n (i := 0) (r := 32) (t := 11) dX1_breakUp_10 rfl rfl (Or.inl l9_32) rfl ?_
  refine gm_getR (o := 32) (ci := 1) (k := 9) (r := 4) (t := 14) l6_32 l9_32 s_32 gf_X1_37 rfl r_32_9 l9_4 dX1_breakUp_11 rfl ?_
  refine g_iconst (t := 15) dX1_breakUp_14 c_iconst_1 rfl ?_
  refine g_cVp (o := 4) (t := 18) mX4_number k_X1_52 imX4_number seX4_number l6_4 l9_4 s_4 rfl dX1_breakUp_15 (x4_number (by omega)) rfl rfl (by decide) (by decide) (Nat.le_of_ble_eq_true rfl) rfl (Nat.le_refl _) ?_
  rw [hs0.at 5 rfl]
  refine g_istore_n (i := 2) (t := 19) (L1 := [_, _, _, _, _, _, _]) dX1_breakUp_18 rfl (by decide) rfl rfl rfl ?_
  refine g_aload_n (i := 0) (r := 32) (t := 20) dX1_breakUp_19 rfl rfl (Or.inl l9_32) rfl ?_
  refine gm_getR (o := 32) (ci := 1) (k := 9) (r := 4) (t := 23) l6_32 l9_32 s_32 gf_X1_37 rfl r_32_9 l9_4 dX1_breakUp_20 rfl ?_
  refine g_iconst (t := 24) dX1_breakUp_23 c_iconst_3 rfl ?_
  refine g_cVp (o := 4) (t := 27) mX4_number k_X1_52 imX4_number seX4_number l6_4 l9_4 s_4 rfl dX1_breakUp_24 (x4_number (by omega)) rfl rfl (by decide) (by decide) (Nat.le_of_ble_eq_true rfl) rfl (Nat.le_refl _) ?_
  rw [hs0.at 5 rfl]
  refine g_iconst (t := 28) dX1_breakUp_27 c_iconst_1 rfl ?_
  refine g_icmp_ne (t1 := 35) (t2 := 31) dX1_breakUp_28 (by decide) rfl (fun h28 => ?_) (fun h28 => ?_)
  · have HBB : false = true ↔ I 5 3 = nI 1 := ⟨fun q => absurd q (by decide), fun q => absurd q h28⟩
    refine g_iconst (t := 36) dX1_breakUp_35 c_iconst_0 rfl ?_
    refine g_istore_n (i := 3) (t := 37) (L1 := [_, _, _, _, _, _, _]) dX1_breakUp_36 rfl (by decide) rfl rfl rfl ?_
    refine g_iconst (t := 38) dX1_breakUp_37 c_iconst_0 rfl ?_
    refine g_istore (i := 4) (t := 40) (L1 := [_, _, _, _, _, _, _]) dX1_breakUp_38 (by decide) rfl rfl rfl ?_
    refine g_iconst (t := 41) dX1_breakUp_40 c_iconst_0 rfl ?_
    refine g_istore (i := 5) (t := 43) (L1 := [_, _, _, _, _, _, _]) dX1_breakUp_41 (by decide) rfl rfl rfl ?_
    refine x1_bu_loop_32 (I0 := I) hO HBB c 0 _ _ (by omega) hs0 (by rw [gup_k _ _ _ (by decide), gup_self]) ⟨gup_self _ _ _ _, fun l hl => absurd hl (Nat.not_lt_zero _)⟩ (fun I1 v4 v6 hs hw hB => ?_)
    exact g_retV dX1_breakUp_143 rfl ⟨hs, hw, hB⟩
  · have HBB : true = true ↔ I 5 3 = nI 1 := ⟨fun _ => h28, fun _ => rfl⟩
    refine g_iconst (t := 32) dX1_breakUp_31 c_iconst_1 rfl ?_
    refine g_goto (t := 36) dX1_breakUp_32 (by decide) ?_
    refine g_istore_n (i := 3) (t := 37) (L1 := [_, _, _, _, _, _, _]) dX1_breakUp_36 rfl (by decide) rfl rfl rfl ?_
    refine g_iconst (t := 38) dX1_breakUp_37 c_iconst_0 rfl ?_
    refine g_istore (i := 4) (t := 40) (L1 := [_, _, _, _, _, _, _]) dX1_breakUp_38 (by decide) rfl rfl rfl ?_
    refine g_iconst (t := 41) dX1_breakUp_40 c_iconst_0 rfl ?_
    refine g_istore (i := 5) (t := 43) (L1 := [_, _, _, _, _, _, _]) dX1_breakUp_41 (by decide) rfl rfl rfl ?_
    refine x1_bu_loop_32 (I0 := I) hO HBB c 0 _ _ (by omega) hs0 (by rw [gup_k _ _ _ (by decide), gup_self]) ⟨gup_self _ _ _ _, fun l hl => absurd hl (Nat.not_lt_zero _)⟩ (fun I1 v4 v6 hs hw hB => ?_)
    exact g_retV dX1_breakUp_143 rfl ⟨hs, hw, hB⟩
end X1A

