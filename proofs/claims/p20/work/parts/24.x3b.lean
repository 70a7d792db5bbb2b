/-! FlexRows$Places: across, and all -/
section X3B
variable {E : gE} {I : Nat → Nat → Int32} {h : gX}
theorem x3_sx_loop1 {A : lA} {c : Nat} {f : Nat → Nat} {l : Nat} {up : Int32} (hO : xO I (xP I) c f) (hA : A.1.1 = xP I) (hB : A.1.2.1 = I 5) (hf : A.1.2.2.2 = f) (hhi : A.2.1 + A.2.2 ≤ c) {K : gK} : ∀ (d k : Nat) (v9 : Value), k + d = A.2.2 →
    (∀ v8 v9, Wp E fX3_setAcross (gn h) 123 [.ref 27, .int (nI l), .int up, .int (nI A.2.1), .int (nI (A.2.1 + A.2.2)), .int (gtA A A.2.2), .int (abA A A.2.2), .int (blA A A.2.2), v8, v9] [] (gM I h) K) →
    Wp E fX3_setAcross (gn h) 33 [.ref 27, .int (nI l), .int up, .int (nI A.2.1), .int (nI (A.2.1 + A.2.2)), .int (gtA A k), .int (abA A k), .int (blA A k), .int (nI (A.2.1 + k)), v9] [] (gM I h) K := by
  intro d
  have hc := hO.1
  induction d with
  | zero =>
    intro k v9 hk kk
    have hk : k = A.2.2 := by omega
    subst hk
    refine g_iload (i := 8) (t := 35) dX3_setAcross_33 rfl rfl ?_
    refine g_iload (i := 4) (t := 37) dX3_setAcross_35 rfl rfl ?_
    refine g_icmp_ge_n (t1 := 123) (t2 := 40) dX3_setAcross_37 (by decide) rfl (by omega) (by omega) (fun h37 => ?_) (fun h37 => ?_)
    · exact kk _ _
    · exfalso; omega
  | succ d ih =>
    intro k v9 hk kk
    obtain ⟨g1, g2, g3, g4, g5, g6, g7⟩ := hO.2.2 (A.2.1 + k) (by omega)
    have eW : wyA A (A.2.1 + k) = way (xP I) (I 5) (f (A.2.1 + k)) := by rw [wyA, hA, hB, hf]
    refine g_iload (i := 8) (t := 35) dX3_setAcross_33 rfl rfl ?_
    refine g_iload (i := 4) (t := 37) dX3_setAcross_35 rfl rfl ?_
    refine g_icmp_ge_n (t1 := 123) (t2 := 40) dX3_setAcross_37 (by decide) rfl (by omega) (by omega) (fun h37 => ?_) (fun h37 => ?_)
    · exfalso; omega
    · refine g_aload_n (i := 0) (r := 27) (t := 41) dX3_setAcross_40 rfl rfl (Or.inl l9_27) rfl ?_
      refine gm_getR (o := 27) (ci := 3) (k := 6) (r := 11) (t := 44) l6_27 l9_27 s_27 gf_X3_28 rfl r_27_6 l9_11 dX3_setAcross_41 rfl ?_
      refine gm_getR (o := 11) (ci := 2) (k := 1) (r := 12) (t := 47) l6_11 l9_11 s_11 gf_X3_66 rfl r_11_1 l9_12 dX3_setAcross_44 rfl ?_
      refine g_iload (i := 8) (t := 49) dX3_setAcross_47 rfl rfl ?_
      refine gm_iald_n (a := 12) (n := 16) (t := 50) l6_12 l9_12 s_12 dX3_setAcross_49 (by omega) (by decide) rfl ?_
      rw [g2]
      refine g_istore (i := 9) (t := 52) (L1 := [_, _, _, _, _, _, _, _, _, _]) dX3_setAcross_50 (by decide) rfl rfl rfl ?_
      refine g_iload (i := 5) (t := 54) dX3_setAcross_52 rfl rfl ?_
      refine g_aload_n (i := 0) (r := 27) (t := 55) dX3_setAcross_54 rfl rfl (Or.inl l9_27) rfl ?_
      refine gm_getR (o := 27) (ci := 3) (k := 5) (r := 4) (t := 58) l6_27 l9_27 s_27 gf_X3_24 rfl r_27_5 l9_4 dX3_setAcross_55 rfl ?_
      refine g_iload (i := 9) (t := 60) dX3_setAcross_58 rfl rfl ?_
      refine g_bipush (t := 62) dX3_setAcross_60 c_bipush_7 rfl ?_
      refine g_cVp (o := 4) (t := 65) mX4_property k_X3_69 imX4_property seX4_property l6_4 l9_4 s_4 rfl dX3_setAcross_62 (x4_property (by omega) (by omega)) rfl rfl (by decide) (by decide) (Nat.le_of_ble_eq_true rfl) rfl (Nat.le_refl _) ?_
      refine g_max (t := 68) k_X3_95 k_max2 k_ma3 k_max4 (by decide) (by decide) (Nat.le_of_ble_eq_true rfl) dX3_setAcross_65 rfl ?_
      refine g_top (y := gtA A (k + 1)) (by rw [gtA, hA, hf]; rfl) ?_
      refine g_istore (i := 5) (t := 70) (L1 := [_, _, _, _, _, _, _, _, _, _]) dX3_setAcross_68 (by decide) rfl rfl rfl ?_
      refine g_aload_n (i := 0) (r := 27) (t := 71) dX3_setAcross_70 rfl rfl (Or.inl l9_27) rfl ?_
      refine gm_getR (o := 27) (ci := 3) (k := 5) (r := 4) (t := 74) l6_27 l9_27 s_27 gf_X3_24 rfl r_27_5 l9_4 dX3_setAcross_71 rfl ?_
      refine g_iload (i := 9) (t := 76) dX3_setAcross_74 rfl rfl ?_
      refine g_cVp (o := 4) (t := 79) mX4_wayAcross k_X3_98 imX4_wayAcross seX4_wayAcross l6_4 l9_4 s_4 rfl dX3_setAcross_76 (x4_wayAcross (by omega)) rfl rfl (by decide) (by decide) (Nat.le_of_ble_eq_true rfl) rfl (Nat.le_refl _) ?_
      refine g_iconst (t := 80) dX3_setAcross_79 c_iconst_3 rfl ?_
      refine g_icmp_ne (t1 := 117) (t2 := 83) dX3_setAcross_80 (by decide) rfl (fun h80 => ?_) (fun h80 => ?_)
      · have e1 : abA A (k + 1) = abA A k := by rw [abA, eW, if_neg h80]
        have e2 : blA A (k + 1) = blA A k := by rw [blA, eW, if_neg h80]
        refine g_iinc (i := 8) (t := 120) (L1 := [_, _, _, _, _, _, _, _, _, _]) dX3_setAcross_117 rfl (gi_1 _) (by decide) rfl rfl rfl ?_
        refine g_goto (t := 33) dX3_setAcross_120 (by decide) ?_
        have := ih (k + 1) (.int (nI (f (A.2.1 + k)))) (by omega) kk
        rw [e1, e2] at this
        exact this
      · have e1 : abA A (k + 1) = mx (abA A k) (abv (xP I) (f (A.2.1 + k))) := by rw [abA, eW, if_pos h80, hA, hf]
        have e2 : blA A (k + 1) = mx (blA A k) (xP I (f (A.2.1 + k)) 8) := by rw [blA, eW, if_pos h80, hA, hf]
        refine g_iload (i := 6) (t := 85) dX3_setAcross_83 rfl rfl ?_
        refine g_aload_n (i := 0) (r := 27) (t := 86) dX3_setAcross_85 rfl rfl (Or.inl l9_27) rfl ?_
        refine gm_getR (o := 27) (ci := 3) (k := 5) (r := 4) (t := 89) l6_27 l9_27 s_27 gf_X3_24 rfl r_27_5 l9_4 dX3_setAcross_86 rfl ?_
        refine g_iload (i := 9) (t := 91) dX3_setAcross_89 rfl rfl ?_
        refine g_cVp (o := 4) (t := 94) mX4_above k_X3_101 imX4_above seX4_above l6_4 l9_4 s_4 rfl dX3_setAcross_91 (x4_above (by omega)) rfl rfl (by decide) (by decide) (Nat.le_of_ble_eq_true rfl) rfl (Nat.le_refl _) ?_
        refine g_max (t := 97) k_X3_95 k_max2 k_ma3 k_max4 (by decide) (by decide) (Nat.le_of_ble_eq_true rfl) dX3_setAcross_94 rfl ?_
        refine g_istore (i := 6) (t := 99) (L1 := [_, _, _, _, _, _, _, _, _, _]) dX3_setAcross_97 (by decide) rfl rfl rfl ?_
        refine g_iload (i := 7) (t := 101) dX3_setAcross_99 rfl rfl ?_
        refine g_aload_n (i := 0) (r := 27) (t := 102) dX3_setAcross_101 rfl rfl (Or.inl l9_27) rfl ?_
        refine gm_getR (o := 27) (ci := 3) (k := 5) (r := 4) (t := 105) l6_27 l9_27 s_27 gf_X3_24 rfl r_27_5 l9_4 dX3_setAcross_102 rfl ?_
        refine g_iload (i := 9) (t := 107) dX3_setAcross_105 rfl rfl ?_
        refine g_bipush (t := 109) dX3_setAcross_107 c_bipush_8 rfl ?_
        refine g_cVp (o := 4) (t := 112) mX4_property k_X3_69 imX4_property seX4_property l6_4 l9_4 s_4 rfl dX3_setAcross_109 (x4_property (by omega) (by omega)) rfl rfl (by decide) (by decide) (Nat.le_of_ble_eq_true rfl) rfl (Nat.le_refl _) ?_
        refine g_max (t := 115) k_X3_95 k_max2 k_ma3 k_max4 (by decide) (by decide) (Nat.le_of_ble_eq_true rfl) dX3_setAcross_112 rfl ?_
        refine g_istore (i := 7) (t := 117) (L1 := [_, _, _, _, _, _, _, _, _, _]) dX3_setAcross_115 (by decide) rfl rfl rfl ?_
        refine g_iinc (i := 8) (t := 120) (L1 := [_, _, _, _, _, _, _, _, _, _]) dX3_setAcross_117 rfl (gi_1 _) (by decide) rfl rfl rfl ?_
        refine g_goto (t := 33) dX3_setAcross_120 (by decide) ?_
        have := ih (k + 1) (.int (nI (f (A.2.1 + k)))) (by omega) kk
        rw [e1, e2] at this
        exact this
theorem x3_setAcross {Q : lQ} {c l : Nat} {f : Nat → Nat} {up : Int32} (hO : xO I (xP I) c f) (hQ : Q = (xP I, I 5, I 5 0, f)) (hB : xB I 18 19 20 Q c) (hl : l < nln Q c) : gQV E fX3_setAcross [.ref 27, .int (nI l), .int up] I h (fun I' => gSame [29, 30, 31] I I' ∧ oneN I' I 30 l up ∧ oneN I' I 31 l (lhA (lnA Q c l)) ∧ strN I' I 29 (frC Q c l) (frC Q c (l + 1)) (fun p => up + loA (lnA Q c l) p)) := by
  refine gEv.of rfl (Nat.le_refl _) (Nat.le_of_ble_eq_true rfl) (L := [.ref 27, .int (nI l), .int up, .null, .null, .null, .null, .null, .null, .null]) rfl ?_
  have hc := hO.1
  have hnl := nln_le Q c
  have hlt := frC_pos Q c l hl
  have hle := frC_le Q c (l + 1)
  have h1 := (hB.2 l hl).1
  have hA : (lnA Q c l).1.1 = xP I := by show Q.1 = _; rw [hQ]
  have hB5 : (lnA Q c l).1.2.1 = I 5 := by show Q.2.1 = _; rw [hQ]
  have hf : (lnA Q c l).1.2.2.2 = f := by show Q.2.2.2 = _; rw [hQ]
  have hlo : (lnA Q c l).2.1 = frC Q c l := rfl
  have hhi : (lnA Q c l).2.1 + (lnA Q c l).2.2 = frC Q c (l + 1) := by show frC Q c l + (frC Q c (l + 1) - frC Q c l) = _; omega
  rw [← hhi] at hle ⊢
  have L : ∀ (d k : Nat) (J : Nat → Nat → Int32) (w5 w7 : Int32) (v9 : Value), k + d = (lnA Q c l).2.2 → gSame [29, 30, 31] I J → oneN J I 30 l up → oneN J I 31 l (lhA (lnA Q c l)) → strN J I 29 (lnA Q c l).2.1 ((lnA Q c l).2.1 + k) (fun p => up + loA (lnA Q c l) p) → Wp E fX3_setAcross (gn h) 149 [.ref 27, .int (nI l), .int up, .int (nI (lnA Q c l).2.1), .int (nI ((lnA Q c l).2.1 + (lnA Q c l).2.2)), .int w5, .int (abA (lnA Q c l) (lnA Q c l).2.2), .int w7, .int (nI ((lnA Q c l).2.1 + k)), v9] [] (gM J h) (gRet fX3_setAcross (gn h) (fun r σ' => ∃ I' : Nat → Nat → Int32, r = none ∧ σ' = gM I' h ∧ gSame [29, 30, 31] I I' ∧ oneN I' I 30 l up ∧ oneN I' I 31 l (lhA (lnA Q c l)) ∧ strN I' I 29 (lnA Q c l).2.1 ((lnA Q c l).2.1 + (lnA Q c l).2.2) (fun p => up + loA (lnA Q c l) p))) := by
    intro d
    induction d with
    | zero =>
      intro k J w5 w7 v9 hk hs o30 o31 zs
      have hk : k = (lnA Q c l).2.2 := by omega
      subst hk
      refine g_iload (i := 8) (t := 151) dX3_setAcross_149 rfl rfl ?_
      refine g_iload (i := 4) (t := 153) dX3_setAcross_151 rfl rfl ?_
      refine g_icmp_ge_n (t1 := 193) (t2 := 156) dX3_setAcross_153 (by decide) rfl (by omega) (by omega) (fun h153 => ?_) (fun h153 => ?_)
      · exact g_retV dX3_setAcross_193 rfl (⟨hs, o30, o31, zs⟩)
      · exfalso; omega
    | succ d ih =>
      intro k J w5 w7 v9 hk hs o30 o31 zs
      obtain ⟨g1, g2, g3, g4, g5, g6, g7⟩ := hO.2.2 ((lnA Q c l).2.1 + k) (by omega)
      have eJ : xP J = xP I := by funext i w; show J 6 _ = I 6 _; rw [hs.at 6 rfl]
      refine g_iload (i := 8) (t := 151) dX3_setAcross_149 rfl rfl ?_
      refine g_iload (i := 4) (t := 153) dX3_setAcross_151 rfl rfl ?_
      refine g_icmp_ge_n (t1 := 193) (t2 := 156) dX3_setAcross_153 (by decide) rfl (by omega) (by omega) (fun h153 => ?_) (fun h153 => ?_)
      · exfalso; omega
      · refine g_aload_n (i := 0) (r := 27) (t := 157) dX3_setAcross_156 rfl rfl (Or.inl l9_27) rfl ?_
        refine gm_getR (o := 27) (ci := 3) (k := 2) (r := 29) (t := 160) l6_27 l9_27 s_27 gf_X3_15 rfl r_27_2 l9_29 dX3_setAcross_157 rfl ?_
        refine g_iload (i := 8) (t := 162) dX3_setAcross_160 rfl rfl ?_
        refine g_iload_n (i := 2) (t := 163) dX3_setAcross_162 rfl rfl rfl ?_
        refine g_aload_n (i := 0) (r := 27) (t := 164) dX3_setAcross_163 rfl rfl (Or.inl l9_27) rfl ?_
        refine g_aload_n (i := 0) (r := 27) (t := 165) dX3_setAcross_164 rfl rfl (Or.inl l9_27) rfl ?_
        refine gm_getR (o := 27) (ci := 3) (k := 6) (r := 11) (t := 168) l6_27 l9_27 s_27 gf_X3_28 rfl r_27_6 l9_11 dX3_setAcross_165 rfl ?_
        refine gm_getR (o := 11) (ci := 2) (k := 1) (r := 12) (t := 171) l6_11 l9_11 s_11 gf_X3_66 rfl r_11_1 l9_12 dX3_setAcross_168 rfl ?_
        refine g_iload (i := 8) (t := 173) dX3_setAcross_171 rfl rfl ?_
        refine gm_iald_n (a := 12) (n := 16) (t := 174) l6_12 l9_12 s_12 dX3_setAcross_173 (by omega) (by decide) rfl ?_
        rw [show J 12 = I 12 from hs.at 12 rfl, g2]
        refine g_aload_n (i := 0) (r := 27) (t := 175) dX3_setAcross_174 rfl rfl (Or.inl l9_27) rfl ?_
        refine gm_getR (o := 27) (ci := 3) (k := 4) (r := 31) (t := 178) l6_27 l9_27 s_27 gf_X3_21 rfl r_27_4 l9_31 dX3_setAcross_175 rfl ?_
        refine g_iload_n (i := 1) (t := 179) dX3_setAcross_178 rfl rfl rfl ?_
        refine gm_iald_n (a := 31) (n := 16) (t := 180) l6_31 l9_31 s_31 dX3_setAcross_179 (by omega) (by decide) rfl ?_
        rw [o31.at]
        refine g_iload (i := 6) (t := 182) dX3_setAcross_180 rfl rfl ?_
        refine g_cVp (o := 27) (t := 185) mX3_lowered k_X3_104 imX3_lowered seX3_lowered l6_27 l9_27 s_27 rfl dX3_setAcross_182 (x3_lowered (by omega)) rfl rfl (by decide) (by decide) (Nat.le_of_ble_eq_true rfl) rfl (Nat.le_refl _) ?_
        refine g_iadd (t := 186) dX3_setAcross_185 rfl ?_
        refine g_top (y := up + loA (lnA Q c l) ((lnA Q c l).2.1 + k)) (by rw [loA, eJ, show J 5 = I 5 from hs.at 5 rfl, hA, hB5, hf]) ?_
        refine gm_iast_n (a := 29) (n := 16) (t := 187) l6_29 l9_29 s_29 dX3_setAcross_186 (by omega) (by decide) rfl ?_
        refine g_iinc (i := 8) (t := 190) (L1 := [_, _, _, _, _, _, _, _, _, _]) dX3_setAcross_187 rfl (gi_1 _) (by decide) rfl rfl rfl ?_
        refine g_goto (t := 149) dX3_setAcross_190 (by decide) ?_
        exact ih (k + 1) _ w5 w7 v9 (by omega) (hs.up rfl) (o30.keep (gup_rowo _ _ _ (by decide))) (o31.keep (gup_rowo _ _ _ (by decide))) (zs.next (by omega) rfl)
  have T : ∀ v8 v9, Wp E fX3_setAcross (gn h) 123 [.ref 27, .int (nI l), .int up, .int (nI (lnA Q c l).2.1), .int (nI ((lnA Q c l).2.1 + (lnA Q c l).2.2)), .int (gtA (lnA Q c l) (lnA Q c l).2.2), .int (abA (lnA Q c l) (lnA Q c l).2.2), .int (blA (lnA Q c l) (lnA Q c l).2.2), v8, v9] [] (gM I h) (gRet fX3_setAcross (gn h) (fun r σ' => ∃ I' : Nat → Nat → Int32, r = none ∧ σ' = gM I' h ∧ gSame [29, 30, 31] I I' ∧ oneN I' I 30 l up ∧ oneN I' I 31 l (lhA (lnA Q c l)) ∧ strN I' I 29 (lnA Q c l).2.1 ((lnA Q c l).2.1 + (lnA Q c l).2.2) (fun p => up + loA (lnA Q c l) p))) := by
    intro v8 v9
    refine g_aload_n (i := 0) (r := 27) (t := 124) dX3_setAcross_123 rfl rfl (Or.inl l9_27) rfl ?_
    refine gm_getR (o := 27) (ci := 3) (k := 3) (r := 30) (t := 127) l6_27 l9_27 s_27 gf_X3_18 rfl r_27_3 l9_30 dX3_setAcross_124 rfl ?_
    refine g_iload_n (i := 1) (t := 128) dX3_setAcross_127 rfl rfl rfl ?_
    refine g_iload_n (i := 2) (t := 129) dX3_setAcross_128 rfl rfl rfl ?_
    refine gm_iast_n (a := 30) (n := 16) (t := 130) l6_30 l9_30 s_30 dX3_setAcross_129 (by omega) (by decide) rfl ?_
    refine g_aload_n (i := 0) (r := 27) (t := 131) dX3_setAcross_130 rfl rfl (Or.inl l9_27) rfl ?_
    refine gm_getR (o := 27) (ci := 3) (k := 4) (r := 31) (t := 134) l6_27 l9_27 s_27 gf_X3_21 rfl r_27_4 l9_31 dX3_setAcross_131 rfl ?_
    refine g_iload_n (i := 1) (t := 135) dX3_setAcross_134 rfl rfl rfl ?_
    refine g_iload (i := 5) (t := 137) dX3_setAcross_135 rfl rfl ?_
    refine g_iload (i := 6) (t := 139) dX3_setAcross_137 rfl rfl ?_
    refine g_iload (i := 7) (t := 141) dX3_setAcross_139 rfl rfl ?_
    refine g_iadd (t := 142) dX3_setAcross_141 rfl ?_
    refine g_max (t := 145) k_X3_95 k_max2 k_ma3 k_max4 (by decide) (by decide) (Nat.le_of_ble_eq_true rfl) dX3_setAcross_142 rfl ?_
    refine g_top (y := lhA (lnA Q c l)) rfl ?_
    refine gm_iast_n (a := 31) (n := 16) (t := 146) l6_31 l9_31 s_31 dX3_setAcross_145 (by omega) (by decide) rfl ?_
    refine g_iload_n (i := 3) (t := 147) dX3_setAcross_146 rfl rfl rfl ?_
    refine g_istore (i := 8) (t := 149) (L1 := [_, _, _, _, _, _, _, _, _, _]) dX3_setAcross_147 (by decide) rfl rfl rfl ?_
    exact L _ 0 _ _ _ _ (Nat.zero_add _) ((gSame.rf.up rfl).up rfl) ((oneN.one rfl).keep (gup_rowo _ _ _ (by decide))) (oneN.one (gup_rowo _ _ _ (by decide))) (strN.rf.keep ((gup_rowo _ _ _ (by decide)).trans (gup_rowo _ _ _ (by decide))))
  refine g_aload_n (i := 0) (r := 27) (t := 1) dX3_setAcross_0 rfl rfl (Or.inl l9_27) rfl ?_
  refine gm_getR (o := 27) (ci := 3) (k := 7) (r := 18) (t := 4) l6_27 l9_27 s_27 gf_X3_32 rfl r_27_7 l9_18 dX3_setAcross_1 rfl ?_
  refine gm_getR (o := 18) (ci := 1) (k := 1) (r := 19) (t := 7) l6_18 l9_18 s_18 gf_X3_76 rfl r_18_1 l9_19 dX3_setAcross_4 rfl ?_
  refine g_iload_n (i := 1) (t := 8) dX3_setAcross_7 rfl rfl rfl ?_
  refine gm_iald_n (a := 19) (n := 16) (t := 9) l6_19 l9_19 s_19 dX3_setAcross_8 (by omega) (by decide) rfl ?_
  rw [h1, ← hlo]
  refine g_istore_n (i := 3) (t := 10) (L1 := [_, _, _, _, _, _, _, _, _, _]) dX3_setAcross_9 rfl (by decide) rfl rfl rfl ?_
  refine g_aload_n (i := 0) (r := 27) (t := 11) dX3_setAcross_10 rfl rfl (Or.inl l9_27) rfl ?_
  refine gm_getR (o := 27) (ci := 3) (k := 7) (r := 18) (t := 14) l6_27 l9_27 s_27 gf_X3_32 rfl r_27_7 l9_18 dX3_setAcross_11 rfl ?_
  refine g_iload_n (i := 1) (t := 15) dX3_setAcross_14 rfl rfl rfl ?_
  refine g_cVp (o := 18) (t := 18) mX1_end k_X3_79 imX1_end seX1_end l6_18 l9_18 s_18 rfl dX3_setAcross_15 (x1_end_18 hO.2.1 hc hB hl) rfl rfl (by decide) (by decide) (Nat.le_of_ble_eq_true rfl) rfl (Nat.le_refl _) ?_
  rw [← hhi]
  refine g_istore (i := 4) (t := 20) (L1 := [_, _, _, _, _, _, _, _, _, _]) dX3_setAcross_18 (by decide) rfl rfl rfl ?_
  refine g_iconst (t := 21) dX3_setAcross_20 c_iconst_0 rfl ?_
  refine g_istore (i := 5) (t := 23) (L1 := [_, _, _, _, _, _, _, _, _, _]) dX3_setAcross_21 (by decide) rfl rfl rfl ?_
  refine g_bipush (t := 25) dX3_setAcross_23 c_bipush_m49 rfl ?_
  refine g_istore (i := 6) (t := 27) (L1 := [_, _, _, _, _, _, _, _, _, _]) dX3_setAcross_25 (by decide) rfl rfl rfl ?_
  refine g_iconst (t := 28) dX3_setAcross_27 c_iconst_0 rfl ?_
  refine g_istore (i := 7) (t := 30) (L1 := [_, _, _, _, _, _, _, _, _, _]) dX3_setAcross_28 (by decide) rfl rfl rfl ?_
  refine g_iload_n (i := 3) (t := 31) dX3_setAcross_30 rfl rfl rfl ?_
  refine g_istore (i := 8) (t := 33) (L1 := [_, _, _, _, _, _, _, _, _, _]) dX3_setAcross_31 (by decide) rfl rfl rfl ?_
  exact x3_sx_loop1 hO hA hB5 hf hle _ 0 _ (Nat.zero_add _) T
theorem x3_find {Q : lQ} {c : Nat} {f : Nat → Nat} (hO : xO I (xP I) c f) (hQ : Q = (xP I, I 5, I 5 0, f)) (hB : xB I 18 19 20 Q c) (hS : xS I Q c (nln Q c)) : gQV E fX3_find [.ref 27] I h (fun I' => gSame [27, 28, 29, 30, 31] I I' ∧ xW I' Q c (nln Q c)) := by
  refine gEv.of rfl (Nat.le_refl _) (Nat.le_of_ble_eq_true rfl) (L := [.ref 27, .null, .null]) rfl ?_
  have hc := hO.1
  have hnl := nln_le Q c
  have eB : Q.2.1 = I 5 := by rw [hQ]
  have L : ∀ (d l : Nat) (J : Nat → Nat → Int32) (v2 : Value), l + d = nln Q c → gSame [27, 28, 29, 30, 31] I J → xW J Q c l → Wp E fX3_find (gn h) 7 [.ref 27, .int (nI l), v2] [] (gM J h) (gRet fX3_find (gn h) (fun r σ' => ∃ I' : Nat → Nat → Int32, r = none ∧ σ' = gM I' h ∧ gSame [27, 28, 29, 30, 31] I I' ∧ xW I' Q c (nln Q c))) := by
    intro d
    induction d with
    | zero =>
      intro l J v2 hl hs hw
      have hl : l = nln Q c := by omega
      subst hl
      refine g_iload_n (i := 1) (t := 8) dX3_find_7 rfl rfl rfl ?_
      refine g_aload_n (i := 0) (r := 27) (t := 9) dX3_find_8 rfl rfl (Or.inl l9_27) rfl ?_
      refine gm_getR (o := 27) (ci := 3) (k := 7) (r := 18) (t := 12) l6_27 l9_27 s_27 gf_X3_32 rfl r_27_7 l9_18 dX3_find_9 rfl ?_
      refine gm_getI (o := 18) (ci := 1) (k := 0) (t := 15) l6_18 l9_18 s_18 gf_X3_40 rfl dX3_find_12 rfl ?_
      rw [show J 18 = I 18 from hs.at 18 rfl, hB.1]
      refine g_icmp_ge_n (t1 := 69) (t2 := 18) dX3_find_15 (by decide) rfl (by omega) (by omega) (fun h15 => ?_) (fun h15 => ?_)
      · exact g_retV dX3_find_69 rfl (⟨hs, hw⟩)
      · exfalso; omega
    | succ d ih =>
      intro l J v2 hl hs hw
      have eJ : xP J = xP I := by funext i w; show J 6 _ = I 6 _; rw [hs.at 6 rfl]
      have hOJ := hO.keepP hs rfl
      have hQJ : Q = (xP J, J 5, J 5 0, f) := by rw [eJ, hs.at 5 rfl]; exact hQ
      have hBJ := hB.keepS hs rfl
      have hSJ : xS J Q c (nln Q c) := by rw [xS, hs.at 21 rfl, hs.at 22 rfl, hs.at 23 rfl, hs.at 24 rfl, hs.at 25 rfl]; exact hS
      have T : ∀ (J1 : Nat → Nat → Int32) (up : Int32) (v2 : Value), gSame [28] J J1 → strN J1 J 28 (frC Q c l) (frC Q c (l + 1)) (lfA (lnA Q c l)) → up = ltQ Q c l → Wp E fX3_find (gn h) 44 [.ref 27, .int (nI l), v2] [.int up] (gM J1 h) (gRet fX3_find (gn h) (fun r σ' => ∃ I' : Nat → Nat → Int32, r = none ∧ σ' = gM I' h ∧ gSame [27, 28, 29, 30, 31] I I' ∧ xW I' Q c (nln Q c))) := by
        intro J1 up v2 hs1 hz hu
        have eJ1 : xP J1 = xP J := by funext i w; show J1 6 _ = J 6 _; rw [hs1.at 6 rfl]
        have hQ1 : Q = (xP J1, J1 5, J1 5 0, f) := by rw [eJ1, hs1.at 5 rfl]; exact hQJ
        refine g_istore_n (i := 2) (t := 45) (L1 := [_, _, _]) dX3_find_44 rfl (by decide) rfl rfl rfl ?_
        refine g_aload_n (i := 0) (r := 27) (t := 46) dX3_find_45 rfl rfl (Or.inl l9_27) rfl ?_
        refine g_iload_n (i := 1) (t := 47) dX3_find_46 rfl rfl rfl ?_
        refine g_iload_n (i := 2) (t := 48) dX3_find_47 rfl rfl rfl ?_
        refine g_cVv (o := 27) (t := 51) mX3_setAcross k_X3_54 imX3_setAcross seX3_setAcross l6_27 l9_27 s_27 rfl dX3_find_48 (x3_setAcross (hOJ.keepP hs1 rfl) hQ1 (hBJ.keepS hs1 rfl) (by omega)) rfl rfl (by decide) (by decide) (Nat.le_of_ble_eq_true rfl) rfl (Nat.le_refl _) (fun J2 q2 => ?_)
        refine g_aload_n (i := 0) (r := 27) (t := 52) dX3_find_51 rfl rfl (Or.inl l9_27) rfl ?_
        refine g_iload_n (i := 2) (t := 53) dX3_find_52 rfl rfl rfl ?_
        refine g_aload_n (i := 0) (r := 27) (t := 54) dX3_find_53 rfl rfl (Or.inl l9_27) rfl ?_
        refine gm_getR (o := 27) (ci := 3) (k := 4) (r := 31) (t := 57) l6_27 l9_27 s_27 gf_X3_21 rfl r_27_4 l9_31 dX3_find_54 rfl ?_
        refine g_iload_n (i := 1) (t := 58) dX3_find_57 rfl rfl rfl ?_
        refine gm_iald_n (a := 31) (n := 16) (t := 59) l6_31 l9_31 s_31 dX3_find_58 (by omega) (by decide) rfl ?_
        rw [q2.2.2.1.at]
        refine g_iadd (t := 60) dX3_find_59 rfl ?_
        refine gm_putI (o := 27) (ci := 3) (k := 0) (t := 63) l6_27 l9_27 s_27 gp_X3_36 rfl rfl rfl dX3_find_60 rfl ?_
        refine g_iinc (i := 1) (t := 66) (L1 := [_, _, _]) dX3_find_63 rfl (gi_1 _) (by decide) rfl rfl rfl ?_
        refine g_goto (t := 7) dX3_find_66 (by decide) ?_
        refine ih (l + 1) _ _ (by omega) ((hs.trans (hs1.wk rfl)).trans ((q2.1.wk rfl).up rfl)) ⟨?_, fun k hk => ?_, fun p hp hk => ?_⟩
        · rw [gup_self, hu]; rfl
        · rw [gup_o _ _ _ _ (by decide), gup_o _ _ _ _ (by decide)]
          by_cases y : k = l
          · subst y
            exact ⟨q2.2.1.at.trans hu, q2.2.2.1.at⟩
          · rw [q2.2.1.ne y, q2.2.2.1.ne y, hs1.at 30 rfl, hs1.at 31 rfl]
            exact hw.2.1 k (by omega)
        · rw [gup_o _ _ _ _ (by decide), gup_o _ _ _ _ (by decide), q2.1.at 28 rfl, hz p, q2.2.2.2 p, hs1.at 29 rfl]
          by_cases y : lin Q p = l
          · subst y
            have y2 := (frC_lin Q (c := c) hp).mp rfl
            rw [if_pos y2, if_pos y2, hu]
            exact ⟨rfl, rfl⟩
          · have z : ¬ (frC Q c l ≤ p ∧ p < frC Q c (l + 1)) := fun z => y ((frC_lin Q hp).mpr z)
            rw [if_neg z, if_neg z]
            exact hw.2.2 p hp (by omega)
      cases l with
      | zero =>
        refine g_iload_n (i := 1) (t := 8) dX3_find_7 rfl rfl rfl ?_
        refine g_aload_n (i := 0) (r := 27) (t := 9) dX3_find_8 rfl rfl (Or.inl l9_27) rfl ?_
        refine gm_getR (o := 27) (ci := 3) (k := 7) (r := 18) (t := 12) l6_27 l9_27 s_27 gf_X3_32 rfl r_27_7 l9_18 dX3_find_9 rfl ?_
        refine gm_getI (o := 18) (ci := 1) (k := 0) (t := 15) l6_18 l9_18 s_18 gf_X3_40 rfl dX3_find_12 rfl ?_
        rw [show J 18 = I 18 from hs.at 18 rfl, hB.1]
        refine g_icmp_ge_n (t1 := 69) (t2 := 18) dX3_find_15 (by decide) rfl (by omega) (by omega) (fun h15 => ?_) (fun h15 => ?_)
        · exfalso; omega
        · refine g_aload_n (i := 0) (r := 27) (t := 19) dX3_find_18 rfl rfl (Or.inl l9_27) rfl ?_
          refine g_iload_n (i := 1) (t := 20) dX3_find_19 rfl rfl rfl ?_
          refine g_cVv (o := 27) (t := 23) mX3_setAlong k_X3_45 imX3_setAlong seX3_setAlong l6_27 l9_27 s_27 rfl dX3_find_20 (x3_setAlong hOJ hQJ hBJ hSJ (by omega)) rfl rfl (by decide) (by decide) (Nat.le_of_ble_eq_true rfl) rfl (Nat.le_refl _) (fun J1 q1 => ?_)
          refine g_iload_n (i := 1) (t := 24) dX3_find_23 rfl rfl rfl ?_
          refine g_if_ne (t1 := 31) (t2 := 27) dX3_find_24 (by decide) rfl (fun h24 => ?_) (fun h24 => ?_)
          · exact absurd rfl h24
          · refine g_iconst (t := 28) dX3_find_27 c_iconst_0 rfl ?_
            refine g_goto (t := 44) dX3_find_28 (by decide) ?_
            exact T J1 _ _ q1.1 q1.2 rfl
      | succ l =>
        refine g_iload_n (i := 1) (t := 8) dX3_find_7 rfl rfl rfl ?_
        refine g_aload_n (i := 0) (r := 27) (t := 9) dX3_find_8 rfl rfl (Or.inl l9_27) rfl ?_
        refine gm_getR (o := 27) (ci := 3) (k := 7) (r := 18) (t := 12) l6_27 l9_27 s_27 gf_X3_32 rfl r_27_7 l9_18 dX3_find_9 rfl ?_
        refine gm_getI (o := 18) (ci := 1) (k := 0) (t := 15) l6_18 l9_18 s_18 gf_X3_40 rfl dX3_find_12 rfl ?_
        rw [show J 18 = I 18 from hs.at 18 rfl, hB.1]
        refine g_icmp_ge_n (t1 := 69) (t2 := 18) dX3_find_15 (by decide) rfl (by omega) (by omega) (fun h15 => ?_) (fun h15 => ?_)
        · exfalso; omega
        · refine g_aload_n (i := 0) (r := 27) (t := 19) dX3_find_18 rfl rfl (Or.inl l9_27) rfl ?_
          refine g_iload_n (i := 1) (t := 20) dX3_find_19 rfl rfl rfl ?_
          refine g_cVv (o := 27) (t := 23) mX3_setAlong k_X3_45 imX3_setAlong seX3_setAlong l6_27 l9_27 s_27 rfl dX3_find_20 (x3_setAlong hOJ hQJ hBJ hSJ (by omega)) rfl rfl (by decide) (by decide) (Nat.le_of_ble_eq_true rfl) rfl (Nat.le_refl _) (fun J1 q1 => ?_)
          refine g_iload_n (i := 1) (t := 24) dX3_find_23 rfl rfl rfl ?_
          refine g_if_ne (t1 := 31) (t2 := 27) dX3_find_24 (by decide) rfl (fun h24 => ?_) (fun h24 => ?_)
          · refine g_aload_n (i := 0) (r := 27) (t := 32) dX3_find_31 rfl rfl (Or.inl l9_27) rfl ?_
            refine gm_getI (o := 27) (ci := 3) (k := 0) (t := 35) l6_27 l9_27 s_27 gf_X3_36 rfl dX3_find_32 rfl ?_
            refine g_aload_n (i := 0) (r := 27) (t := 36) dX3_find_35 rfl rfl (Or.inl l9_27) rfl ?_
            refine gm_getR (o := 27) (ci := 3) (k := 5) (r := 4) (t := 39) l6_27 l9_27 s_27 gf_X3_24 rfl r_27_5 l9_4 dX3_find_36 rfl ?_
            refine g_iconst (t := 40) dX3_find_39 c_iconst_2 rfl ?_
            refine g_cVp (o := 4) (t := 43) mX4_number k_X3_49 imX4_number seX4_number l6_4 l9_4 s_4 rfl dX3_find_40 (x4_number (by omega)) rfl rfl (by decide) (by decide) (Nat.le_of_ble_eq_true rfl) rfl (Nat.le_refl _) ?_
            refine g_iadd (t := 44) dX3_find_43 rfl ?_
            refine T J1 _ _ q1.1 q1.2 ?_
            rw [q1.1.at 27 rfl, q1.1.at 5 rfl, hw.1, ltQ, eB, hs.at 5 rfl]
            rfl
          · exact absurd h24 (nI_ne0 (by omega) (by omega))
  refine g_aload_n (i := 0) (r := 27) (t := 1) dX3_find_0 rfl rfl (Or.inl l9_27) rfl ?_
  refine g_iconst (t := 2) dX3_find_1 c_iconst_0 rfl ?_
  refine gm_putI (o := 27) (ci := 3) (k := 0) (t := 5) l6_27 l9_27 s_27 gp_X3_36 rfl rfl rfl dX3_find_2 rfl ?_
  refine g_iconst (t := 6) dX3_find_5 c_iconst_0 rfl ?_
  refine g_istore_n (i := 1) (t := 7) (L1 := [_, _, _]) dX3_find_6 rfl (by decide) rfl rfl rfl ?_
  exact L _ 0 _ _ (Nat.zero_add _) (gSame.rf.up rfl) ⟨gup_self _ _ _ _, fun l hl => absurd hl (Nat.not_lt_zero _), fun p _ hl => absurd hl (Nat.not_lt_zero _)⟩
end X3B

