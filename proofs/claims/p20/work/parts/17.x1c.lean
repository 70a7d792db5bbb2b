/-! FlexRows$Lines: a pass -/
theorem add_n0 (x : Int32) : x + nI 0 = x := by
  rw [nI_0]
  exact Int32.add_zero x
theorem strN.skip {I I0 : Nat → Nat → Int32} {a lo p : Nat} {g : Nat → Int32} (h : strN I I0 a lo p g) (hp : lo ≤ p) (hv : I0 a p = g p) : strN I I0 a lo (p + 1) g := fun q => by
  rw [h q]
  by_cases z : q = p
  · subst z; rw [if_neg (by omega), if_pos (by omega), hv]
  · by_cases y : lo ≤ q ∧ q < p
    · rw [if_pos y, if_pos (by omega)]
    · rw [if_neg y, if_neg (by omega)]
theorem strN.in {I I0 : Nat → Nat → Int32} {a lo p q : Nat} {g : Nat → Int32} (h : strN I I0 a lo p g) (h1 : lo ≤ q) (h2 : q < p) : I a q = g q := by rw [h q, if_pos ⟨h1, h2⟩]
theorem strN.ge {I I0 : Nat → Nat → Int32} {a lo p q : Nat} {g : Nat → Int32} (h : strN I I0 a lo p g) (h2 : p ≤ q) : I a q = I0 a q := by rw [h q, if_neg (by omega)]
section X1C
variable {E : gE} {I : Nat → Nat → Int32} {h : gX}
def feG (A : lA) (z : lZ) (p : Nat) : Int32 := if z.1 p = none then A.1.1 (A.1.2.2.2 p) 0 else z.2 p
def szG (A : lA) (z : lZ) (p : Nat) : Int32 := if z.1 p = none then nzL A z p else z.2 p
def coG (A : lA) (z : lZ) (p : Nat) : Int32 := if z.1 p = none then crL A z p else nI 0
theorem x1_so_loop1_18 {A : lA} {z : lZ} {c : Nat} {f : Nat → Nat} {rm : Int32} (hO : xO I (xP I) c f) (hA : A.1.1 = xP I) (hf : A.1.2.2.2 = f) (hZ : xZ_18 I A z) (hhi : A.2.1 + A.2.2 ≤ c) {K : gK} : ∀ (d k : Nat) (v8 : Value), k + d = A.2.2 →
    (∀ v7 v8, Wp E fX1_shareOut (gn h) 94 [.ref 18, .int (nI A.2.1), .int (nI (A.2.1 + A.2.2)), .int rm, .int (bI (grL A)), .int (feL A z), .int (ttL A z), v7, v8, .null, .null, .null] [] (gM I h) K) →
    Wp E fX1_shareOut (gn h) 9 [.ref 18, .int (nI A.2.1), .int (nI (A.2.1 + A.2.2)), .int rm, .int (bI (grL A)), .int (sbS (rmL A) (feG A z) A.2.1 k), .int (smS (wgL A z) A.2.1 k), .int (nI (A.2.1 + k)), v8, .null, .null, .null] [] (gM I h) K := by
  intro d
  have hc := hO.1
  induction d with
  | zero =>
    intro k v8 hk kk
    have hk : k = A.2.2 := by omega
    subst hk
    refine g_iload (i := 7) (t := 11) dX1_shareOut_9 rfl rfl ?_
    refine g_iload_n (i := 2) (t := 12) dX1_shareOut_11 rfl rfl rfl ?_
    refine g_icmp_ge_n (t1 := 94) (t2 := 15) dX1_shareOut_12 (by decide) rfl (by omega) (by omega) (fun h12 => ?_) (fun h12 => ?_)
    · exact kk _ _
    · exfalso; omega
  | succ d ih =>
    intro k v8 hk kk
    obtain ⟨e1, e2, e3⟩ := hZ (A.2.1 + k) (by omega) (by omega)
    obtain ⟨g1, g2, g3, g4, g5, g6, g7⟩ := hO.2.2 (A.2.1 + k) (by omega)
    have hov := ovS_none _ e3
    by_cases hz : z.1 (A.2.1 + k) = none
    · refine g_iload (i := 7) (t := 11) dX1_shareOut_9 rfl rfl ?_
      refine g_iload_n (i := 2) (t := 12) dX1_shareOut_11 rfl rfl rfl ?_
      refine g_icmp_ge_n (t1 := 94) (t2 := 15) dX1_shareOut_12 (by decide) rfl (by omega) (by omega) (fun h12 => ?_) (fun h12 => ?_)
      · exfalso; omega
      · refine g_aload_n (i := 0) (r := 18) (t := 16) dX1_shareOut_15 rfl rfl (Or.inl l9_18) rfl ?_
        refine gm_getR (o := 18) (ci := 1) (k := 7) (r := 25) (t := 19) l6_18 l9_18 s_18 gf_X1_31 rfl r_18_7 l9_25 dX1_shareOut_16 rfl ?_
        refine g_iload (i := 7) (t := 21) dX1_shareOut_19 rfl rfl ?_
        refine gm_iald_n (a := 25) (n := 16) (t := 22) l6_25 l9_25 s_25 dX1_shareOut_21 (by omega) (by decide) rfl ?_
        rw [e2]
        refine g_iconst (t := 23) dX1_shareOut_22 c_iconst_m1 rfl ?_
        refine g_icmp_ne (t1 := 30) (t2 := 26) dX1_shareOut_23 (by decide) rfl (fun h23 => ?_) (fun h23 => ?_)
        · exact absurd (hov.mpr hz) h23
        · refine g_iconst (t := 27) dX1_shareOut_26 c_iconst_1 rfl ?_
          refine g_goto (t := 31) dX1_shareOut_27 (by decide) ?_
          refine g_istore (i := 8) (t := 33) (L1 := [_, _, _, _, _, _, _, _, _, _, _, _]) dX1_shareOut_31 (by decide) rfl rfl rfl ?_
          refine g_iload (i := 5) (t := 35) dX1_shareOut_33 rfl rfl ?_
          refine g_iload (i := 8) (t := 37) dX1_shareOut_35 rfl rfl ?_
          refine g_if_eq (t1 := 53) (t2 := 40) dX1_shareOut_37 (by decide) rfl (fun h37 => ?_) (fun h37 => ?_)
          · exact absurd h37 (by decide)
          · refine g_aload_n (i := 0) (r := 18) (t := 41) dX1_shareOut_40 rfl rfl (Or.inl l9_18) rfl ?_
            refine gm_getR (o := 18) (ci := 1) (k := 10) (r := 11) (t := 44) l6_18 l9_18 s_18 gf_X1_41 rfl r_18_10 l9_11 dX1_shareOut_41 rfl ?_
            refine gm_getR (o := 11) (ci := 2) (k := 2) (r := 13) (t := 47) l6_11 l9_11 s_11 gf_X1_98 rfl r_11_2 l9_13 dX1_shareOut_44 rfl ?_
            refine g_iload (i := 7) (t := 49) dX1_shareOut_47 rfl rfl ?_
            refine gm_iald_n (a := 13) (n := 16) (t := 50) l6_13 l9_13 s_13 dX1_shareOut_49 (by omega) (by decide) rfl ?_
            refine g_goto (t := 60) dX1_shareOut_50 (by decide) ?_
            refine g_isub (t := 61) dX1_shareOut_60 rfl ?_
            refine g_top (y := sbS (rmL A) (feG A z) A.2.1 (k + 1)) (by rw [sbS, feG, if_pos hz, hA, hf, g3]) ?_
            refine g_istore (i := 5) (t := 63) (L1 := [_, _, _, _, _, _, _, _, _, _, _, _]) dX1_shareOut_61 (by decide) rfl rfl rfl ?_
            refine g_iload (i := 6) (t := 65) dX1_shareOut_63 rfl rfl ?_
            refine g_iload (i := 8) (t := 67) dX1_shareOut_65 rfl rfl ?_
            refine g_if_eq (t1 := 84) (t2 := 70) dX1_shareOut_67 (by decide) rfl (fun h67 => ?_) (fun h67 => ?_)
            · exact absurd h67 (by decide)
            · refine g_aload_n (i := 0) (r := 18) (t := 71) dX1_shareOut_70 rfl rfl (Or.inl l9_18) rfl ?_
              refine gm_getR (o := 18) (ci := 1) (k := 10) (r := 11) (t := 74) l6_18 l9_18 s_18 gf_X1_41 rfl r_18_10 l9_11 dX1_shareOut_71 rfl ?_
              refine g_iload (i := 7) (t := 76) dX1_shareOut_74 rfl rfl ?_
              refine g_iload (i := 4) (t := 78) dX1_shareOut_76 rfl rfl ?_
              refine g_cVp (o := 11) (t := 81) mX2_weight k_X1_101 imX2_weight seX2_weight l6_11 l9_11 s_11 rfl dX1_shareOut_78 (x2_weight hO (by omega)) rfl rfl (by decide) (by decide) (Nat.le_of_ble_eq_true rfl) rfl (Nat.le_refl _) ?_
              refine g_goto (t := 85) dX1_shareOut_81 (by decide) ?_
              refine g_iadd (t := 86) dX1_shareOut_85 rfl ?_
              refine g_top (y := smS (wgL A z) A.2.1 (k + 1)) (by rw [smS, wgL, if_pos hz, hA, hf]) ?_
              refine g_istore (i := 6) (t := 88) (L1 := [_, _, _, _, _, _, _, _, _, _, _, _]) dX1_shareOut_86 (by decide) rfl rfl rfl ?_
              refine g_iinc (i := 7) (t := 91) (L1 := [_, _, _, _, _, _, _, _, _, _, _, _]) dX1_shareOut_88 rfl (gi_1 _) (by decide) rfl rfl rfl ?_
              refine g_goto (t := 9) dX1_shareOut_91 (by decide) ?_
              exact ih (k + 1) _ (by omega) kk
    · refine g_iload (i := 7) (t := 11) dX1_shareOut_9 rfl rfl ?_
      refine g_iload_n (i := 2) (t := 12) dX1_shareOut_11 rfl rfl rfl ?_
      refine g_icmp_ge_n (t1 := 94) (t2 := 15) dX1_shareOut_12 (by decide) rfl (by omega) (by omega) (fun h12 => ?_) (fun h12 => ?_)
      · exfalso; omega
      · refine g_aload_n (i := 0) (r := 18) (t := 16) dX1_shareOut_15 rfl rfl (Or.inl l9_18) rfl ?_
        refine gm_getR (o := 18) (ci := 1) (k := 7) (r := 25) (t := 19) l6_18 l9_18 s_18 gf_X1_31 rfl r_18_7 l9_25 dX1_shareOut_16 rfl ?_
        refine g_iload (i := 7) (t := 21) dX1_shareOut_19 rfl rfl ?_
        refine gm_iald_n (a := 25) (n := 16) (t := 22) l6_25 l9_25 s_25 dX1_shareOut_21 (by omega) (by decide) rfl ?_
        rw [e2]
        refine g_iconst (t := 23) dX1_shareOut_22 c_iconst_m1 rfl ?_
        refine g_icmp_ne (t1 := 30) (t2 := 26) dX1_shareOut_23 (by decide) rfl (fun h23 => ?_) (fun h23 => ?_)
        · refine g_iconst (t := 31) dX1_shareOut_30 c_iconst_0 rfl ?_
          refine g_istore (i := 8) (t := 33) (L1 := [_, _, _, _, _, _, _, _, _, _, _, _]) dX1_shareOut_31 (by decide) rfl rfl rfl ?_
          refine g_iload (i := 5) (t := 35) dX1_shareOut_33 rfl rfl ?_
          refine g_iload (i := 8) (t := 37) dX1_shareOut_35 rfl rfl ?_
          refine g_if_eq (t1 := 53) (t2 := 40) dX1_shareOut_37 (by decide) rfl (fun h37 => ?_) (fun h37 => ?_)
          · refine g_aload_n (i := 0) (r := 18) (t := 54) dX1_shareOut_53 rfl rfl (Or.inl l9_18) rfl ?_
            refine gm_getR (o := 18) (ci := 1) (k := 6) (r := 24) (t := 57) l6_18 l9_18 s_18 gf_X1_28 rfl r_18_6 l9_24 dX1_shareOut_54 rfl ?_
            refine g_iload (i := 7) (t := 59) dX1_shareOut_57 rfl rfl ?_
            refine gm_iald_n (a := 24) (n := 16) (t := 60) l6_24 l9_24 s_24 dX1_shareOut_59 (by omega) (by decide) rfl ?_
            refine g_isub (t := 61) dX1_shareOut_60 rfl ?_
            refine g_top (y := sbS (rmL A) (feG A z) A.2.1 (k + 1)) (by rw [sbS, feG, if_neg hz, e1]) ?_
            refine g_istore (i := 5) (t := 63) (L1 := [_, _, _, _, _, _, _, _, _, _, _, _]) dX1_shareOut_61 (by decide) rfl rfl rfl ?_
            refine g_iload (i := 6) (t := 65) dX1_shareOut_63 rfl rfl ?_
            refine g_iload (i := 8) (t := 67) dX1_shareOut_65 rfl rfl ?_
            refine g_if_eq (t1 := 84) (t2 := 70) dX1_shareOut_67 (by decide) rfl (fun h67 => ?_) (fun h67 => ?_)
            · refine g_iconst (t := 85) dX1_shareOut_84 c_iconst_0 rfl ?_
              refine g_iadd (t := 86) dX1_shareOut_85 rfl ?_
              refine g_top (y := smS (wgL A z) A.2.1 (k + 1)) (by rw [smS, wgL, if_neg hz]) ?_
              refine g_istore (i := 6) (t := 88) (L1 := [_, _, _, _, _, _, _, _, _, _, _, _]) dX1_shareOut_86 (by decide) rfl rfl rfl ?_
              refine g_iinc (i := 7) (t := 91) (L1 := [_, _, _, _, _, _, _, _, _, _, _, _]) dX1_shareOut_88 rfl (gi_1 _) (by decide) rfl rfl rfl ?_
              refine g_goto (t := 9) dX1_shareOut_91 (by decide) ?_
              exact ih (k + 1) _ (by omega) kk
            · exact absurd (by decide) h67
          · exact absurd (by decide) h37
        · exact absurd (hov.mp h23) hz
theorem x1_so_loop2_18 {A : lA} {z : lZ} {c : Nat} {f : Nat → Nat} {rm : Int32} {I0 : Nat → Nat → Int32} (hO : xO I0 (xP I0) c f) (hA : A.1.1 = xP I0) (hf : A.1.2.2.2 = f) (hZ : xZ_18 I0 A z) (hhi : A.2.1 + A.2.2 ≤ c) {v5 : Value} {K : gK} : ∀ (d k : Nat) (I : Nat → Nat → Int32) (v10 v11 : Value), k + d = A.2.2 → gSame [24] I0 I → strN I I0 24 A.2.1 (A.2.1 + k) (szG A z) →
    (∀ I L, gSame [24] I0 I → strN I I0 24 A.2.1 (A.2.1 + A.2.2) (szG A z) → Wp E fX1_shareOut (gn h) 214 L [] (gM I h) K) →
    Wp E fX1_shareOut (gn h) 119 [.ref 18, .int (nI A.2.1), .int (nI (A.2.1 + A.2.2)), .int rm, .int (bI (grL A)), v5, .int (ttL A z), .int (shL A z), .int (smS (wgL A z) A.2.1 k), .int (nI (A.2.1 + k)), v10, v11] [] (gM I h) K := by
  intro d
  have hc := hO.1
  induction d with
  | zero =>
    intro k I v10 v11 hk hs zs kk
    have hk : k = A.2.2 := by omega
    subst hk
    refine g_iload (i := 9) (t := 121) dX1_shareOut_119 rfl rfl ?_
    refine g_iload_n (i := 2) (t := 122) dX1_shareOut_121 rfl rfl rfl ?_
    refine g_icmp_ge_n (t1 := 214) (t2 := 125) dX1_shareOut_122 (by decide) rfl (by omega) (by omega) (fun h122 => ?_) (fun h122 => ?_)
    · exact kk I _ hs zs
    · exfalso; omega
  | succ d ih =>
    intro k I v10 v11 hk hs zs kk
    obtain ⟨e1, e2, e3⟩ := hZ (A.2.1 + k) (by omega) (by omega)
    have hO1 := hO.keepP hs rfl
    have eP : xP I = xP I0 := by funext i w; show I 6 _ = I0 6 _; rw [hs.at 6 rfl]
    obtain ⟨g1, g2, g3, g4, g5, g6, g7⟩ := hO1.2.2 (A.2.1 + k) (by omega)
    have hov := ovS_none _ e3
    have e2' : I 25 (A.2.1 + k) = ovS (z.1 (A.2.1 + k)) := by rw [hs.at 25 rfl, e2]
    by_cases hz : z.1 (A.2.1 + k) = none
    · have T : ∀ v : Int32, v = (if grL A then gtL A z (A.2.1 + k) else -gtL A z (A.2.1 + k)) → ∀ v10 v11, Wp E fX1_shareOut (gn h) 206 [.ref 18, .int (nI A.2.1), .int (nI (A.2.1 + A.2.2)), .int rm, .int (bI (grL A)), v5, .int (ttL A z), .int (shL A z), .int (smS (wgL A z) A.2.1 (k + 1)), .int (nI (A.2.1 + k)), v10, v11] [.int v, .int (I 13 (A.2.1 + k)), .int (nI (A.2.1 + k)), .ref 24] (gM I h) K := by
        intro v hv v10 v11
        refine g_iadd (t := 207) dX1_shareOut_206 rfl ?_
        refine gm_iast_n (a := 24) (n := 16) (t := 208) l6_24 l9_24 s_24 dX1_shareOut_207 (by omega) (by decide) rfl ?_
        refine g_iinc (i := 9) (t := 211) (L1 := [_, _, _, _, _, _, _, _, _, _, _, _]) dX1_shareOut_208 rfl (gi_1 _) (by decide) rfl rfl rfl ?_
        refine g_goto (t := 119) dX1_shareOut_211 (by decide) ?_
        exact ih (k + 1) _ _ _ (by omega) (hs.up rfl) (zs.next (by omega) (by rw [szG, if_pos hz, nzL, hv, hA, hf, g3, ← eP])) kk
      refine g_iload (i := 9) (t := 121) dX1_shareOut_119 rfl rfl ?_
      refine g_iload_n (i := 2) (t := 122) dX1_shareOut_121 rfl rfl rfl ?_
      refine g_icmp_ge_n (t1 := 214) (t2 := 125) dX1_shareOut_122 (by decide) rfl (by omega) (by omega) (fun h122 => ?_) (fun h122 => ?_)
      · exfalso; omega
      · refine g_aload_n (i := 0) (r := 18) (t := 126) dX1_shareOut_125 rfl rfl (Or.inl l9_18) rfl ?_
        refine gm_getR (o := 18) (ci := 1) (k := 7) (r := 25) (t := 129) l6_18 l9_18 s_18 gf_X1_31 rfl r_18_7 l9_25 dX1_shareOut_126 rfl ?_
        refine g_iload (i := 9) (t := 131) dX1_shareOut_129 rfl rfl ?_
        refine gm_iald_n (a := 25) (n := 16) (t := 132) l6_25 l9_25 s_25 dX1_shareOut_131 (by omega) (by decide) rfl ?_
        rw [e2']
        refine g_iconst (t := 133) dX1_shareOut_132 c_iconst_m1 rfl ?_
        refine g_icmp_ne (t1 := 208) (t2 := 136) dX1_shareOut_133 (by decide) rfl (fun h133 => ?_) (fun h133 => ?_)
        · exact absurd (hov.mpr hz) h133
        · refine g_iload (i := 7) (t := 138) dX1_shareOut_136 rfl rfl ?_
          refine g_iload (i := 8) (t := 140) dX1_shareOut_138 rfl rfl ?_
          refine g_iload (i := 6) (t := 142) dX1_shareOut_140 rfl rfl ?_
          refine g_cSp (t := 145) mX1_part k_X1_111 smX1_part dX1_shareOut_142 (x1_part) rfl rfl (by decide) (by decide) (Nat.le_of_ble_eq_true rfl) rfl (Nat.le_refl _) ?_
          refine g_istore (i := 10) (t := 147) (L1 := [_, _, _, _, _, _, _, _, _, _, _, _]) dX1_shareOut_145 (by decide) rfl rfl rfl ?_
          refine g_iload (i := 8) (t := 149) dX1_shareOut_147 rfl rfl ?_
          refine g_aload_n (i := 0) (r := 18) (t := 150) dX1_shareOut_149 rfl rfl (Or.inl l9_18) rfl ?_
          refine gm_getR (o := 18) (ci := 1) (k := 10) (r := 11) (t := 153) l6_18 l9_18 s_18 gf_X1_41 rfl r_18_10 l9_11 dX1_shareOut_150 rfl ?_
          refine g_iload (i := 9) (t := 155) dX1_shareOut_153 rfl rfl ?_
          refine g_iload (i := 4) (t := 157) dX1_shareOut_155 rfl rfl ?_
          refine g_cVp (o := 11) (t := 160) mX2_weight k_X1_101 imX2_weight seX2_weight l6_11 l9_11 s_11 rfl dX1_shareOut_157 (x2_weight hO1 (by omega)) rfl rfl (by decide) (by decide) (Nat.le_of_ble_eq_true rfl) rfl (Nat.le_refl _) ?_
          refine g_iadd (t := 161) dX1_shareOut_160 rfl ?_
          refine g_top (y := smS (wgL A z) A.2.1 (k + 1)) (by rw [smS, wgL, if_pos hz, hA, hf, ← eP]) ?_
          refine g_istore (i := 8) (t := 163) (L1 := [_, _, _, _, _, _, _, _, _, _, _, _]) dX1_shareOut_161 (by decide) rfl rfl rfl ?_
          refine g_iload (i := 7) (t := 165) dX1_shareOut_163 rfl rfl ?_
          refine g_iload (i := 8) (t := 167) dX1_shareOut_165 rfl rfl ?_
          refine g_iload (i := 6) (t := 169) dX1_shareOut_167 rfl rfl ?_
          refine g_cSp (t := 172) mX1_part k_X1_111 smX1_part dX1_shareOut_169 (x1_part) rfl rfl (by decide) (by decide) (Nat.le_of_ble_eq_true rfl) rfl (Nat.le_refl _) ?_
          refine g_iload (i := 10) (t := 174) dX1_shareOut_172 rfl rfl ?_
          refine g_isub (t := 175) dX1_shareOut_174 rfl ?_
          refine g_top (y := gtL A z (A.2.1 + k)) (by rw [gtL, Nat.add_sub_cancel_left]) ?_
          refine g_istore (i := 11) (t := 177) (L1 := [_, _, _, _, _, _, _, _, _, _, _, _]) dX1_shareOut_175 (by decide) rfl rfl rfl ?_
          refine g_aload_n (i := 0) (r := 18) (t := 178) dX1_shareOut_177 rfl rfl (Or.inl l9_18) rfl ?_
          refine gm_getR (o := 18) (ci := 1) (k := 6) (r := 24) (t := 181) l6_18 l9_18 s_18 gf_X1_28 rfl r_18_6 l9_24 dX1_shareOut_178 rfl ?_
          refine g_iload (i := 9) (t := 183) dX1_shareOut_181 rfl rfl ?_
          refine g_aload_n (i := 0) (r := 18) (t := 184) dX1_shareOut_183 rfl rfl (Or.inl l9_18) rfl ?_
          refine gm_getR (o := 18) (ci := 1) (k := 10) (r := 11) (t := 187) l6_18 l9_18 s_18 gf_X1_41 rfl r_18_10 l9_11 dX1_shareOut_184 rfl ?_
          refine gm_getR (o := 11) (ci := 2) (k := 2) (r := 13) (t := 190) l6_11 l9_11 s_11 gf_X1_98 rfl r_11_2 l9_13 dX1_shareOut_187 rfl ?_
          refine g_iload (i := 9) (t := 192) dX1_shareOut_190 rfl rfl ?_
          refine gm_iald_n (a := 13) (n := 16) (t := 193) l6_13 l9_13 s_13 dX1_shareOut_192 (by omega) (by decide) rfl ?_
          refine g_iload (i := 4) (t := 195) dX1_shareOut_193 rfl rfl ?_
          refine g_if_eq (t1 := 203) (t2 := 198) dX1_shareOut_195 (by decide) rfl (fun h195 => ?_) (fun h195 => ?_)
          · refine g_iload (i := 11) (t := 205) dX1_shareOut_203 rfl rfl ?_
            refine g_ineg (t := 206) dX1_shareOut_205 rfl ?_
            refine T _ ?_ _ _
            first
            | (rw [bI_0 h195]; rfl)
            | (rw [bI_n0 h195]; rfl)
          · refine g_iload (i := 11) (t := 200) dX1_shareOut_198 rfl rfl ?_
            refine g_goto (t := 206) dX1_shareOut_200 (by decide) ?_
            refine T _ ?_ _ _
            first
            | (rw [bI_0 h195]; rfl)
            | (rw [bI_n0 h195]; rfl)
    · refine g_iload (i := 9) (t := 121) dX1_shareOut_119 rfl rfl ?_
      refine g_iload_n (i := 2) (t := 122) dX1_shareOut_121 rfl rfl rfl ?_
      refine g_icmp_ge_n (t1 := 214) (t2 := 125) dX1_shareOut_122 (by decide) rfl (by omega) (by omega) (fun h122 => ?_) (fun h122 => ?_)
      · exfalso; omega
      · refine g_aload_n (i := 0) (r := 18) (t := 126) dX1_shareOut_125 rfl rfl (Or.inl l9_18) rfl ?_
        refine gm_getR (o := 18) (ci := 1) (k := 7) (r := 25) (t := 129) l6_18 l9_18 s_18 gf_X1_31 rfl r_18_7 l9_25 dX1_shareOut_126 rfl ?_
        refine g_iload (i := 9) (t := 131) dX1_shareOut_129 rfl rfl ?_
        refine gm_iald_n (a := 25) (n := 16) (t := 132) l6_25 l9_25 s_25 dX1_shareOut_131 (by omega) (by decide) rfl ?_
        rw [e2']
        refine g_iconst (t := 133) dX1_shareOut_132 c_iconst_m1 rfl ?_
        refine g_icmp_ne (t1 := 208) (t2 := 136) dX1_shareOut_133 (by decide) rfl (fun h133 => ?_) (fun h133 => ?_)
        · refine g_iinc (i := 9) (t := 211) (L1 := [_, _, _, _, _, _, _, _, _, _, _, _]) dX1_shareOut_208 rfl (gi_1 _) (by decide) rfl rfl rfl ?_
          refine g_goto (t := 119) dX1_shareOut_211 (by decide) ?_
          refine Wp.eq rfl ?_ rfl rfl (ih (k + 1) I v10 v11 (by omega) hs (zs.skip (by omega) (by rw [szG, if_neg hz, e1])) kk)
          rw [smS, wgL, if_neg hz, add_n0]; rfl
        · exact absurd (hov.mp h133) hz
theorem x1_shareOut_18 {A : lA} {z : lZ} {c : Nat} {f : Nat → Nat} (hO : xO I (xP I) c f) (hA : A.1.1 = xP I) (hf : A.1.2.2.2 = f) (hZ : xZ_18 I A z) (hhi : A.2.1 + A.2.2 ≤ c) : gQV E fX1_shareOut [.ref 18, .int (nI A.2.1), .int (nI (A.2.1 + A.2.2)), .int (rmL A), .int (bI (grL A))] I h (fun I' => gSame [24] I I' ∧ strN I' I 24 A.2.1 (A.2.1 + A.2.2) (szG A z)) := by
  refine gEv.of rfl (Nat.le_refl _) (Nat.le_of_ble_eq_true rfl) (L := [.ref 18, .int (nI A.2.1), .int (nI (A.2.1 + A.2.2)), .int (rmL A), .int (bI (grL A)), .null, .null, .null, .null, .null, .null, .null]) rfl ?_
  have T : ∀ (v : Int32) (v7 v8 : Value), v = (if grL A then feL A z else -feL A z) → Wp E fX1_shareOut (gn h) 107 [.ref 18, .int (nI A.2.1), .int (nI (A.2.1 + A.2.2)), .int (rmL A), .int (bI (grL A)), .int (feL A z), .int (ttL A z), v7, v8, .null, .null, .null] [.int v] (gM I h) (gRet fX1_shareOut (gn h) (fun r σ' => ∃ I' : Nat → Nat → Int32, r = none ∧ σ' = gM I' h ∧ gSame [24] I I' ∧ strN I' I 24 A.2.1 (A.2.1 + A.2.2) (szG A z))) := by
    intro v v7 v8 hv
    refine g_iconst (t := 108) dX1_shareOut_107 c_iconst_0 rfl ?_
    refine g_max (t := 111) k_X1_105 k_max2 k_ma3 k_max4 (by decide) (by decide) (Nat.le_of_ble_eq_true rfl) dX1_shareOut_108 rfl ?_
    refine g_top (y := shL A z) (by rw [hv]; rfl) ?_
    refine g_istore (i := 7) (t := 113) (L1 := [_, _, _, _, _, _, _, _, _, _, _, _]) dX1_shareOut_111 (by decide) rfl rfl rfl ?_
    refine g_iconst (t := 114) dX1_shareOut_113 c_iconst_0 rfl ?_
    refine g_istore (i := 8) (t := 116) (L1 := [_, _, _, _, _, _, _, _, _, _, _, _]) dX1_shareOut_114 (by decide) rfl rfl rfl ?_
    refine g_iload_n (i := 1) (t := 117) dX1_shareOut_116 rfl rfl rfl ?_
    refine g_istore (i := 9) (t := 119) (L1 := [_, _, _, _, _, _, _, _, _, _, _, _]) dX1_shareOut_117 (by decide) rfl rfl rfl ?_
    exact x1_so_loop2_18 hO hA hf hZ hhi A.2.2 0 I _ _ (by omega) gSame.rf strN.rf (fun I1 L hs zs => g_retV dX1_shareOut_214 rfl ⟨hs, zs⟩)
  have T2 : ∀ (v7 v8 : Value), Wp E fX1_shareOut (gn h) 94 [.ref 18, .int (nI A.2.1), .int (nI (A.2.1 + A.2.2)), .int (rmL A), .int (bI (grL A)), .int (feL A z), .int (ttL A z), v7, v8, .null, .null, .null] [] (gM I h) (gRet fX1_shareOut (gn h) (fun r σ' => ∃ I' : Nat → Nat → Int32, r = none ∧ σ' = gM I' h ∧ gSame [24] I I' ∧ strN I' I 24 A.2.1 (A.2.1 + A.2.2) (szG A z))) := by
    intro v7 v8
    refine g_iload (i := 4) (t := 96) dX1_shareOut_94 rfl rfl ?_
    refine g_if_eq (t1 := 104) (t2 := 99) dX1_shareOut_96 (by decide) rfl (fun h96 => ?_) (fun h96 => ?_)
    · refine g_iload (i := 5) (t := 106) dX1_shareOut_104 rfl rfl ?_
      refine g_ineg (t := 107) dX1_shareOut_106 rfl ?_
      refine T _ _ _ ?_
      first
      | (rw [bI_0 h96]; rfl)
      | (rw [bI_n0 h96]; rfl)
    · refine g_iload (i := 5) (t := 101) dX1_shareOut_99 rfl rfl ?_
      refine g_goto (t := 107) dX1_shareOut_101 (by decide) ?_
      refine T _ _ _ ?_
      first
      | (rw [bI_0 h96]; rfl)
      | (rw [bI_n0 h96]; rfl)
  refine g_iload_n (i := 3) (t := 1) dX1_shareOut_0 rfl rfl rfl ?_
  refine g_istore (i := 5) (t := 3) (L1 := [_, _, _, _, _, _, _, _, _, _, _, _]) dX1_shareOut_1 (by decide) rfl rfl rfl ?_
  refine g_iconst (t := 4) dX1_shareOut_3 c_iconst_0 rfl ?_
  refine g_istore (i := 6) (t := 6) (L1 := [_, _, _, _, _, _, _, _, _, _, _, _]) dX1_shareOut_4 (by decide) rfl rfl rfl ?_
  refine g_iload_n (i := 1) (t := 7) dX1_shareOut_6 rfl rfl rfl ?_
  refine g_istore (i := 7) (t := 9) (L1 := [_, _, _, _, _, _, _, _, _, _, _, _]) dX1_shareOut_7 (by decide) rfl rfl rfl ?_
  exact x1_so_loop1_18 hO hA hf hZ hhi A.2.2 0 _ (by omega) T2
theorem x1_so_loop1_32 {A : lA} {z : lZ} {c : Nat} {f : Nat → Nat} {rm : Int32} (hO : xO I (xP I) c f) (hA : A.1.1 = xP I) (hf : A.1.2.2.2 = f) (hZ : xZ_32 I A z) (hhi : A.2.1 + A.2.2 ≤ c) {K : gK} : ∀ (d k : Nat) (v8 : Value), k + d = A.2.2 →
    (∀ v7 v8, Wp E fX1_shareOut (gn h) 94 [.ref 32, .int (nI A.2.1), .int (nI (A.2.1 + A.2.2)), .int rm, .int (bI (grL A)), .int (feL A z), .int (ttL A z), v7, v8, .null, .null, .null] [] (gM I h) K) →
    Wp E fX1_shareOut (gn h) 9 [.ref 32, .int (nI A.2.1), .int (nI (A.2.1 + A.2.2)), .int rm, .int (bI (grL A)), .int (sbS (rmL A) (feG A z) A.2.1 k), .int (smS (wgL A z) A.2.1 k), .int (nI (A.2.1 + k)), v8, .null, .null, .null] [] (gM I h) K := by
  intro d
  have hc := hO.1
  induction d with
  | zero =>
    intro k v8 hk kk
    have hk : k = A.2.2 := by omega
    subst hk
    refine g_iload (i := 7) (t := 11) dX1_shareOut_9 rfl rfl ?_
    refine g_iload_n (i := 2) (t := 12) dX1_shareOut_11 rfl rfl rfl ?_
    refine g_icmp_ge_n (t1 := 94) (t2 := 15) dX1_shareOut_12 (by decide) rfl (by omega) (by omega) (fun h12 => ?_) (fun h12 => ?_)
    · exact kk _ _
    · exfalso; omega
  | succ d ih =>
    intro k v8 hk kk
    obtain ⟨e1, e2, e3⟩ := hZ (A.2.1 + k) (by omega) (by omega)
    obtain ⟨g1, g2, g3, g4, g5, g6, g7⟩ := hO.2.2 (A.2.1 + k) (by omega)
    have hov := ovS_none _ e3
    by_cases hz : z.1 (A.2.1 + k) = none
    · refine g_iload (i := 7) (t := 11) dX1_shareOut_9 rfl rfl ?_
      refine g_iload_n (i := 2) (t := 12) dX1_shareOut_11 rfl rfl rfl ?_
      refine g_icmp_ge_n (t1 := 94) (t2 := 15) dX1_shareOut_12 (by decide) rfl (by omega) (by omega) (fun h12 => ?_) (fun h12 => ?_)
      · exfalso; omega
      · refine g_aload_n (i := 0) (r := 32) (t := 16) dX1_shareOut_15 rfl rfl (Or.inl l9_32) rfl ?_
        refine gm_getR (o := 32) (ci := 1) (k := 7) (r := 39) (t := 19) l6_32 l9_32 s_32 gf_X1_31 rfl r_32_7 l9_39 dX1_shareOut_16 rfl ?_
        refine g_iload (i := 7) (t := 21) dX1_shareOut_19 rfl rfl ?_
        refine gm_iald_n (a := 39) (n := 16) (t := 22) l6_39 l9_39 s_39 dX1_shareOut_21 (by omega) (by decide) rfl ?_
        rw [e2]
        refine g_iconst (t := 23) dX1_shareOut_22 c_iconst_m1 rfl ?_
        refine g_icmp_ne (t1 := 30) (t2 := 26) dX1_shareOut_23 (by decide) rfl (fun h23 => ?_) (fun h23 => ?_)
        · exact absurd (hov.mpr hz) h23
        · refine g_iconst (t := 27) dX1_shareOut_26 c_iconst_1 rfl ?_
          refine g_goto (t := 31) dX1_shareOut_27 (by decide) ?_
          refine g_istore (i := 8) (t := 33) (L1 := [_, _, _, _, _, _, _, _, _, _, _, _]) dX1_shareOut_31 (by decide) rfl rfl rfl ?_
          refine g_iload (i := 5) (t := 35) dX1_shareOut_33 rfl rfl ?_
          refine g_iload (i := 8) (t := 37) dX1_shareOut_35 rfl rfl ?_
          refine g_if_eq (t1 := 53) (t2 := 40) dX1_shareOut_37 (by decide) rfl (fun h37 => ?_) (fun h37 => ?_)
          · exact absurd h37 (by decide)
          · refine g_aload_n (i := 0) (r := 32) (t := 41) dX1_shareOut_40 rfl rfl (Or.inl l9_32) rfl ?_
            refine gm_getR (o := 32) (ci := 1) (k := 10) (r := 11) (t := 44) l6_32 l9_32 s_32 gf_X1_41 rfl r_32_10 l9_11 dX1_shareOut_41 rfl ?_
            refine gm_getR (o := 11) (ci := 2) (k := 2) (r := 13) (t := 47) l6_11 l9_11 s_11 gf_X1_98 rfl r_11_2 l9_13 dX1_shareOut_44 rfl ?_
            refine g_iload (i := 7) (t := 49) dX1_shareOut_47 rfl rfl ?_
            refine gm_iald_n (a := 13) (n := 16) (t := 50) l6_13 l9_13 s_13 dX1_shareOut_49 (by omega) (by decide) rfl ?_
            refine g_goto (t := 60) dX1_shareOut_50 (by decide) ?_
            refine g_isub (t := 61) dX1_shareOut_60 rfl ?_
            refine g_top (y := sbS (rmL A) (feG A z) A.2.1 (k + 1)) (by rw [sbS, feG, if_pos hz, hA, hf, g3]) ?_
            refine g_istore (i := 5) (t := 63) (L1 := [_, _, _, _, _, _, _, _, _, _, _, _]) dX1_shareOut_61 (by decide) rfl rfl rfl ?_
            refine g_iload (i := 6) (t := 65) dX1_shareOut_63 rfl rfl ?_
            refine g_iload (i := 8) (t := 67) dX1_shareOut_65 rfl rfl ?_
            refine g_if_eq (t1 := 84) (t2 := 70) dX1_shareOut_67 (by decide) rfl (fun h67 => ?_) (fun h67 => ?_)
            · exact absurd h67 (by decide)
            · refine g_aload_n (i := 0) (r := 32) (t := 71) dX1_shareOut_70 rfl rfl (Or.inl l9_32) rfl ?_
              refine gm_getR (o := 32) (ci := 1) (k := 10) (r := 11) (t := 74) l6_32 l9_32 s_32 gf_X1_41 rfl r_32_10 l9_11 dX1_shareOut_71 rfl ?_
              refine g_iload (i := 7) (t := 76) dX1_shareOut_74 rfl rfl ?_
              refine g_iload (i := 4) (t := 78) dX1_shareOut_76 rfl rfl ?_
              refine g_cVp (o := 11) (t := 81) mX2_weight k_X1_101 imX2_weight seX2_weight l6_11 l9_11 s_11 rfl dX1_shareOut_78 (x2_weight hO (by omega)) rfl rfl (by decide) (by decide) (Nat.le_of_ble_eq_true rfl) rfl (Nat.le_refl _) ?_
              refine g_goto (t := 85) dX1_shareOut_81 (by decide) ?_
              refine g_iadd (t := 86) dX1_shareOut_85 rfl ?_
              refine g_top (y := smS (wgL A z) A.2.1 (k + 1)) (by rw [smS, wgL, if_pos hz, hA, hf]) ?_
              refine g_istore (i := 6) (t := 88) (L1 := [_, _, _, _, _, _, _, _, _, _, _, _]) dX1_shareOut_86 (by decide) rfl rfl rfl ?_
              refine g_iinc (i := 7) (t := 91) (L1 := [_, _, _, _, _, _, _, _, _, _, _, _]) dX1_shareOut_88 rfl (gi_1 _) (by decide) rfl rfl rfl ?_
              refine g_goto (t := 9) dX1_shareOut_91 (by decide) ?_
              exact ih (k + 1) _ (by omega) kk
    · refine g_iload (i := 7) (t := 11) dX1_shareOut_9 rfl rfl ?_
      refine g_iload_n (i := 2) (t := 12) dX1_shareOut_11 rfl rfl rfl ?_
      refine g_icmp_ge_n (t1 := 94) (t2 := 15) dX1_shareOut_12 (by decide) rfl (by omega) (by omega) (fun h12 => ?_) (fun h12 => ?_)
      · exfalso; omega
      · refine g_aload_n (i := 0) (r := 32) (t := 16) dX1_shareOut_15 rfl rfl (Or.inl l9_32) rfl ?_
        refine gm_getR (o := 32) (ci := 1) (k := 7) (r := 39) (t := 19) l6_32 l9_32 s_32 gf_X1_31 rfl r_32_7 l9_39 dX1_shareOut_16 rfl ?_
        refine g_iload (i := 7) (t := 21) dX1_shareOut_19 rfl rfl ?_
        refine gm_iald_n (a := 39) (n := 16) (t := 22) l6_39 l9_39 s_39 dX1_shareOut_21 (by omega) (by decide) rfl ?_
        rw [e2]
        refine g_iconst (t := 23) dX1_shareOut_22 c_iconst_m1 rfl ?_
        refine g_icmp_ne (t1 := 30) (t2 := 26) dX1_shareOut_23 (by decide) rfl (fun h23 => ?_) (fun h23 => ?_)
        · refine g_iconst (t := 31) dX1_shareOut_30 c_iconst_0 rfl ?_
          refine g_istore (i := 8) (t := 33) (L1 := [_, _, _, _, _, _, _, _, _, _, _, _]) dX1_shareOut_31 (by decide) rfl rfl rfl ?_
          refine g_iload (i := 5) (t := 35) dX1_shareOut_33 rfl rfl ?_
          refine g_iload (i := 8) (t := 37) dX1_shareOut_35 rfl rfl ?_
          refine g_if_eq (t1 := 53) (t2 := 40) dX1_shareOut_37 (by decide) rfl (fun h37 => ?_) (fun h37 => ?_)
          · refine g_aload_n (i := 0) (r := 32) (t := 54) dX1_shareOut_53 rfl rfl (Or.inl l9_32) rfl ?_
            refine gm_getR (o := 32) (ci := 1) (k := 6) (r := 38) (t := 57) l6_32 l9_32 s_32 gf_X1_28 rfl r_32_6 l9_38 dX1_shareOut_54 rfl ?_
            refine g_iload (i := 7) (t := 59) dX1_shareOut_57 rfl rfl ?_
            refine gm_iald_n (a := 38) (n := 16) (t := 60) l6_38 l9_38 s_38 dX1_shareOut_59 (by omega) (by decide) rfl ?_
            refine g_isub (t := 61) dX1_shareOut_60 rfl ?_
            refine g_top (y := sbS (rmL A) (feG A z) A.2.1 (k + 1)) (by rw [sbS, feG, if_neg hz, e1]) ?_
            refine g_istore (i := 5) (t := 63) (L1 := [_, _, _, _, _, _, _, _, _, _, _, _]) dX1_shareOut_61 (by decide) rfl rfl rfl ?_
            refine g_iload (i := 6) (t := 65) dX1_shareOut_63 rfl rfl ?_
            refine g_iload (i := 8) (t := 67) dX1_shareOut_65 rfl rfl ?_
            refine g_if_eq (t1 := 84) (t2 := 70) dX1_shareOut_67 (by decide) rfl (fun h67 => ?_) (fun h67 => ?_)
            · refine g_iconst (t := 85) dX1_shareOut_84 c_iconst_0 rfl ?_
              refine g_iadd (t := 86) dX1_shareOut_85 rfl ?_
              refine g_top (y := smS (wgL A z) A.2.1 (k + 1)) (by rw [smS, wgL, if_neg hz]) ?_
              refine g_istore (i := 6) (t := 88) (L1 := [_, _, _, _, _, _, _, _, _, _, _, _]) dX1_shareOut_86 (by decide) rfl rfl rfl ?_
              refine g_iinc (i := 7) (t := 91) (L1 := [_, _, _, _, _, _, _, _, _, _, _, _]) dX1_shareOut_88 rfl (gi_1 _) (by decide) rfl rfl rfl ?_
              refine g_goto (t := 9) dX1_shareOut_91 (by decide) ?_
              exact ih (k + 1) _ (by omega) kk
            · exact absurd (by decide) h67
          · exact absurd (by decide) h37
        · exact absurd (hov.mp h23) hz
theorem x1_so_loop2_32 {A : lA} {z : lZ} {c : Nat} {f : Nat → Nat} {rm : Int32} {I0 : Nat → Nat → Int32} (hO : xO I0 (xP I0) c f) (hA : A.1.1 = xP I0) (hf : A.1.2.2.2 = f) (hZ : xZ_32 I0 A z) (hhi : A.2.1 + A.2.2 ≤ c) {v5 : Value} {K : gK} : ∀ (d k : Nat) (I : Nat → Nat → Int32) (v10 v11 : Value), k + d = A.2.2 → gSame [38] I0 I → strN I I0 38 A.2.1 (A.2.1 + k) (szG A z) →
    (∀ I L, gSame [38] I0 I → strN I I0 38 A.2.1 (A.2.1 + A.2.2) (szG A z) → Wp E fX1_shareOut (gn h) 214 L [] (gM I h) K) →
    Wp E fX1_shareOut (gn h) 119 [.ref 32, .int (nI A.2.1), .int (nI (A.2.1 + A.2.2)), .int rm, .int (bI (grL A)), v5, .int (ttL A z), .int (shL A z), .int (smS (wgL A z) A.2.1 k), .int (nI (A.2.1 + k)), v10, v11] [] (gM I h) K := by
  intro d
  have hc := hO.1
  induction d with
  | zero =>
    intro k I v10 v11 hk hs zs kk
    have hk : k = A.2.2 := by omega
    subst hk
    refine g_iload (i := 9) (t := 121) dX1_shareOut_119 rfl rfl ?_
    refine g_iload_n (i := 2) (t := 122) dX1_shareOut_121 rfl rfl rfl ?_
    refine g_icmp_ge_n (t1 := 214) (t2 := 125) dX1_shareOut_122 (by decide) rfl (by omega) (by omega) (fun h122 => ?_) (fun h122 => ?_)
    · exact kk I _ hs zs
    · exfalso; omega
  | succ d ih =>
    intro k I v10 v11 hk hs zs kk
    obtain ⟨e1, e2, e3⟩ := hZ (A.2.1 + k) (by omega) (by omega)
    have hO1 := hO.keepP hs rfl
    have eP : xP I = xP I0 := by funext i w; show I 6 _ = I0 6 _; rw [hs.at 6 rfl]
    obtain ⟨g1, g2, g3, g4, g5, g6, g7⟩ := hO1.2.2 (A.2.1 + k) (by omega)
    have hov := ovS_none _ e3
    have e2' : I 39 (A.2.1 + k) = ovS (z.1 (A.2.1 + k)) := by rw [hs.at 39 rfl, e2]
    by_cases hz : z.1 (A.2.1 + k) = none
    · have T : ∀ v : Int32, v = (if grL A then gtL A z (A.2.1 + k) else -gtL A z (A.2.1 + k)) → ∀ v10 v11, Wp E fX1_shareOut (gn h) 206 [.ref 32, .int (nI A.2.1), .int (nI (A.2.1 + A.2.2)), .int rm, .int (bI (grL A)), v5, .int (ttL A z), .int (shL A z), .int (smS (wgL A z) A.2.1 (k + 1)), .int (nI (A.2.1 + k)), v10, v11] [.int v, .int (I 13 (A.2.1 + k)), .int (nI (A.2.1 + k)), .ref 38] (gM I h) K := by
        intro v hv v10 v11
        refine g_iadd (t := 207) dX1_shareOut_206 rfl ?_
        refine gm_iast_n (a := 38) (n := 16) (t := 208) l6_38 l9_38 s_38 dX1_shareOut_207 (by omega) (by decide) rfl ?_
        refine g_iinc (i := 9) (t := 211) (L1 := [_, _, _, _, _, _, _, _, _, _, _, _]) dX1_shareOut_208 rfl (gi_1 _) (by decide) rfl rfl rfl ?_
        refine g_goto (t := 119) dX1_shareOut_211 (by decide) ?_
        exact ih (k + 1) _ _ _ (by omega) (hs.up rfl) (zs.next (by omega) (by rw [szG, if_pos hz, nzL, hv, hA, hf, g3, ← eP])) kk
      refine g_iload (i := 9) (t := 121) dX1_shareOut_119 rfl rfl ?_
      refine g_iload_n (i := 2) (t := 122) dX1_shareOut_121 rfl rfl rfl ?_
      refine g_icmp_ge_n (t1 := 214) (t2 := 125) dX1_shareOut_122 (by decide) rfl (by omega) (by omega) (fun h122 => ?_) (fun h122 => ?_)
      · exfalso; omega
      · refine g_aload_n (i := 0) (r := 32) (t := 126) dX1_shareOut_125 rfl rfl (Or.inl l9_32) rfl ?_
        refine gm_getR (o := 32) (ci := 1) (k := 7) (r := 39) (t := 129) l6_32 l9_32 s_32 gf_X1_31 rfl r_32_7 l9_39 dX1_shareOut_126 rfl ?_
        refine g_iload (i := 9) (t := 131) dX1_shareOut_129 rfl rfl ?_
        refine gm_iald_n (a := 39) (n := 16) (t := 132) l6_39 l9_39 s_39 dX1_shareOut_131 (by omega) (by decide) rfl ?_
        rw [e2']
        refine g_iconst (t := 133) dX1_shareOut_132 c_iconst_m1 rfl ?_
        refine g_icmp_ne (t1 := 208) (t2 := 136) dX1_shareOut_133 (by decide) rfl (fun h133 => ?_) (fun h133 => ?_)
        · exact absurd (hov.mpr hz) h133
        · refine g_iload (i := 7) (t := 138) dX1_shareOut_136 rfl rfl ?_
          refine g_iload (i := 8) (t := 140) dX1_shareOut_138 rfl rfl ?_
          refine g_iload (i := 6) (t := 142) dX1_shareOut_140 rfl rfl ?_
          refine g_cSp (t := 145) mX1_part k_X1_111 smX1_part dX1_shareOut_142 (x1_part) rfl rfl (by decide) (by decide) (Nat.le_of_ble_eq_true rfl) rfl (Nat.le_refl _) ?_
          refine g_istore (i := 10) (t := 147) (L1 := [_, _, _, _, _, _, _, _, _, _, _, _]) dX1_shareOut_145 (by decide) rfl rfl rfl ?_
          refine g_iload (i := 8) (t := 149) dX1_shareOut_147 rfl rfl ?_
          refine g_aload_n (i := 0) (r := 32) (t := 150) dX1_shareOut_149 rfl rfl (Or.inl l9_32) rfl ?_
          refine gm_getR (o := 32) (ci := 1) (k := 10) (r := 11) (t := 153) l6_32 l9_32 s_32 gf_X1_41 rfl r_32_10 l9_11 dX1_shareOut_150 rfl ?_
          refine g_iload (i := 9) (t := 155) dX1_shareOut_153 rfl rfl ?_
          refine g_iload (i := 4) (t := 157) dX1_shareOut_155 rfl rfl ?_
          refine g_cVp (o := 11) (t := 160) mX2_weight k_X1_101 imX2_weight seX2_weight l6_11 l9_11 s_11 rfl dX1_shareOut_157 (x2_weight hO1 (by omega)) rfl rfl (by decide) (by decide) (Nat.le_of_ble_eq_true rfl) rfl (Nat.le_refl _) ?_
          refine g_iadd (t := 161) dX1_shareOut_160 rfl ?_
          refine g_top (y := smS (wgL A z) A.2.1 (k + 1)) (by rw [smS, wgL, if_pos hz, hA, hf, ← eP]) ?_
          refine g_istore (i := 8) (t := 163) (L1 := [_, _, _, _, _, _, _, _, _, _, _, _]) dX1_shareOut_161 (by decide) rfl rfl rfl ?_
          refine g_iload (i := 7) (t := 165) dX1_shareOut_163 rfl rfl ?_
          refine g_iload (i := 8) (t := 167) dX1_shareOut_165 rfl rfl ?_
          refine g_iload (i := 6) (t := 169) dX1_shareOut_167 rfl rfl ?_
          refine g_cSp (t := 172) mX1_part k_X1_111 smX1_part dX1_shareOut_169 (x1_part) rfl rfl (by decide) (by decide) (Nat.le_of_ble_eq_true rfl) rfl (Nat.le_refl _) ?_
          refine g_iload (i := 10) (t := 174) dX1_shareOut_172 rfl rfl ?_
          refine g_isub (t := 175) dX1_shareOut_174 rfl ?_
          refine g_top (y := gtL A z (A.2.1 + k)) (by rw [gtL, Nat.add_sub_cancel_left]) ?_
          refine g_istore (i := 11) (t := 177) (L1 := [_, _, _, _, _, _, _, _, _, _, _, _]) dX1_shareOut_175 (by decide) rfl rfl rfl ?_
          refine g_aload_n (i := 0) (r := 32) (t := 178) dX1_shareOut_177 rfl rfl (Or.inl l9_32) rfl ?_
          refine gm_getR (o := 32) (ci := 1) (k := 6) (r := 38) (t := 181) l6_32 l9_32 s_32 gf_X1_28 rfl r_32_6 l9_38 dX1_shareOut_178 rfl ?_
          refine g_iload (i := 9) (t := 183) dX1_shareOut_181 rfl rfl ?_
          refine g_aload_n (i := 0) (r := 32) (t := 184) dX1_shareOut_183 rfl rfl (Or.inl l9_32) rfl ?_
          refine gm_getR (o := 32) (ci := 1) (k := 10) (r := 11) (t := 187) l6_32 l9_32 s_32 gf_X1_41 rfl r_32_10 l9_11 dX1_shareOut_184 rfl ?_
          refine gm_getR (o := 11) (ci := 2) (k := 2) (r := 13) (t := 190) l6_11 l9_11 s_11 gf_X1_98 rfl r_11_2 l9_13 dX1_shareOut_187 rfl ?_
          refine g_iload (i := 9) (t := 192) dX1_shareOut_190 rfl rfl ?_
          refine gm_iald_n (a := 13) (n := 16) (t := 193) l6_13 l9_13 s_13 dX1_shareOut_192 (by omega) (by decide) rfl ?_
          refine g_iload (i := 4) (t := 195) dX1_shareOut_193 rfl rfl ?_
          refine g_if_eq (t1 := 203) (t2 := 198) dX1_shareOut_195 (by decide) rfl (fun h195 => ?_) (fun h195 => ?_)
          · refine g_iload (i := 11) (t := 205) dX1_shareOut_203 rfl rfl ?_
            refine g_ineg (t := 206) dX1_shareOut_205 rfl ?_
            refine T _ ?_ _ _
            first
            | (rw [bI_0 h195]; rfl)
            | (rw [bI_n0 h195]; rfl)
          · refine g_iload (i := 11) (t := 200) dX1_shareOut_198 rfl rfl ?_
            refine g_goto (t := 206) dX1_shareOut_200 (by decide) ?_
            refine T _ ?_ _ _
            first
            | (rw [bI_0 h195]; rfl)
            | (rw [bI_n0 h195]; rfl)
    · refine g_iload (i := 9) (t := 121) dX1_shareOut_119 rfl rfl ?_
      refine g_iload_n (i := 2) (t := 122) dX1_shareOut_121 rfl rfl rfl ?_
      refine g_icmp_ge_n (t1 := 214) (t2 := 125) dX1_shareOut_122 (by decide) rfl (by omega) (by omega) (fun h122 => ?_) (fun h122 => ?_)
      · exfalso; omega
      · refine g_aload_n (i := 0) (r := 32) (t := 126) dX1_shareOut_125 rfl rfl (Or.inl l9_32) rfl ?_
        refine gm_getR (o := 32) (ci := 1) (k := 7) (r := 39) (t := 129) l6_32 l9_32 s_32 gf_X1_31 rfl r_32_7 l9_39 dX1_shareOut_126 rfl ?_
        refine g_iload (i := 9) (t := 131) dX1_shareOut_129 rfl rfl ?_
        refine gm_iald_n (a := 39) (n := 16) (t := 132) l6_39 l9_39 s_39 dX1_shareOut_131 (by omega) (by decide) rfl ?_
        rw [e2']
        refine g_iconst (t := 133) dX1_shareOut_132 c_iconst_m1 rfl ?_
        refine g_icmp_ne (t1 := 208) (t2 := 136) dX1_shareOut_133 (by decide) rfl (fun h133 => ?_) (fun h133 => ?_)
        · refine g_iinc (i := 9) (t := 211) (L1 := [_, _, _, _, _, _, _, _, _, _, _, _]) dX1_shareOut_208 rfl (gi_1 _) (by decide) rfl rfl rfl ?_
          refine g_goto (t := 119) dX1_shareOut_211 (by decide) ?_
          refine Wp.eq rfl ?_ rfl rfl (ih (k + 1) I v10 v11 (by omega) hs (zs.skip (by omega) (by rw [szG, if_neg hz, e1])) kk)
          rw [smS, wgL, if_neg hz, add_n0]; rfl
        · exact absurd (hov.mp h133) hz
theorem x1_shareOut_32 {A : lA} {z : lZ} {c : Nat} {f : Nat → Nat} (hO : xO I (xP I) c f) (hA : A.1.1 = xP I) (hf : A.1.2.2.2 = f) (hZ : xZ_32 I A z) (hhi : A.2.1 + A.2.2 ≤ c) : gQV E fX1_shareOut [.ref 32, .int (nI A.2.1), .int (nI (A.2.1 + A.2.2)), .int (rmL A), .int (bI (grL A))] I h (fun I' => gSame [38] I I' ∧ strN I' I 38 A.2.1 (A.2.1 + A.2.2) (szG A z)) := by
  refine gEv.of rfl (Nat.le_refl _) (Nat.le_of_ble_eq_true rfl) (L := [.ref 32, .int (nI A.2.1), .int (nI (A.2.1 + A.2.2)), .int (rmL A), .int (bI (grL A)), .null, .null, .null, .null, .null, .null, .null]) rfl ?_
  have T : ∀ (v : Int32) (v7 v8 : Value), v = (if grL A then feL A z else -feL A z) → Wp E fX1_shareOut (gn h) 107 [.ref 32, .int (nI A.2.1), .int (nI (A.2.1 + A.2.2)), .int (rmL A), .int (bI (grL A)), .int (feL A z), .int (ttL A z), v7, v8, .null, .null, .null] [.int v] (gM I h) (gRet fX1_shareOut (gn h) (fun r σ' => ∃ I' : Nat → Nat → Int32, r = none ∧ σ' = gM I' h ∧ gSame [38] I I' ∧ strN I' I 38 A.2.1 (A.2.1 + A.2.2) (szG A z))) := by
    intro v v7 v8 hv
    refine g_iconst (t := 108) dX1_shareOut_107 c_iconst_0 rfl ?_
    refine g_max (t := 111) k_X1_105 k_max2 k_ma3 k_max4 (by decide) (by decide) (Nat.le_of_ble_eq_true rfl) dX1_shareOut_108 rfl ?_
    refine g_top (y := shL A z) (by rw [hv]; rfl) ?_
    refine g_istore (i := 7) (t := 113) (L1 := [_, _, _, _, _, _, _, _, _, _, _, _]) dX1_shareOut_111 (by decide) rfl rfl rfl ?_
    refine g_iconst (t := 114) dX1_shareOut_113 c_iconst_0 rfl ?_
    refine g_istore (i := 8) (t := 116) (L1 := [_, _, _, _, _, _, _, _, _, _, _, _]) dX1_shareOut_114 (by decide) rfl rfl rfl ?_
    refine g_iload_n (i := 1) (t := 117) dX1_shareOut_116 rfl rfl rfl ?_
    refine g_istore (i := 9) (t := 119) (L1 := [_, _, _, _, _, _, _, _, _, _, _, _]) dX1_shareOut_117 (by decide) rfl rfl rfl ?_
    exact x1_so_loop2_32 hO hA hf hZ hhi A.2.2 0 I _ _ (by omega) gSame.rf strN.rf (fun I1 L hs zs => g_retV dX1_shareOut_214 rfl ⟨hs, zs⟩)
  have T2 : ∀ (v7 v8 : Value), Wp E fX1_shareOut (gn h) 94 [.ref 32, .int (nI A.2.1), .int (nI (A.2.1 + A.2.2)), .int (rmL A), .int (bI (grL A)), .int (feL A z), .int (ttL A z), v7, v8, .null, .null, .null] [] (gM I h) (gRet fX1_shareOut (gn h) (fun r σ' => ∃ I' : Nat → Nat → Int32, r = none ∧ σ' = gM I' h ∧ gSame [38] I I' ∧ strN I' I 38 A.2.1 (A.2.1 + A.2.2) (szG A z))) := by
    intro v7 v8
    refine g_iload (i := 4) (t := 96) dX1_shareOut_94 rfl rfl ?_
    refine g_if_eq (t1 := 104) (t2 := 99) dX1_shareOut_96 (by decide) rfl (fun h96 => ?_) (fun h96 => ?_)
    · refine g_iload (i := 5) (t := 106) dX1_shareOut_104 rfl rfl ?_
      refine g_ineg (t := 107) dX1_shareOut_106 rfl ?_
      refine T _ _ _ ?_
      first
      | (rw [bI_0 h96]; rfl)
      | (rw [bI_n0 h96]; rfl)
    · refine g_iload (i := 5) (t := 101) dX1_shareOut_99 rfl rfl ?_
      refine g_goto (t := 107) dX1_shareOut_101 (by decide) ?_
      refine T _ _ _ ?_
      first
      | (rw [bI_0 h96]; rfl)
      | (rw [bI_n0 h96]; rfl)
  refine g_iload_n (i := 3) (t := 1) dX1_shareOut_0 rfl rfl rfl ?_
  refine g_istore (i := 5) (t := 3) (L1 := [_, _, _, _, _, _, _, _, _, _, _, _]) dX1_shareOut_1 (by decide) rfl rfl rfl ?_
  refine g_iconst (t := 4) dX1_shareOut_3 c_iconst_0 rfl ?_
  refine g_istore (i := 6) (t := 6) (L1 := [_, _, _, _, _, _, _, _, _, _, _, _]) dX1_shareOut_4 (by decide) rfl rfl rfl ?_
  refine g_iload_n (i := 1) (t := 7) dX1_shareOut_6 rfl rfl rfl ?_
  refine g_istore (i := 7) (t := 9) (L1 := [_, _, _, _, _, _, _, _, _, _, _, _]) dX1_shareOut_7 (by decide) rfl rfl rfl ?_
  exact x1_so_loop1_32 hO hA hf hZ hhi A.2.2 0 _ (by omega) T2
end X1C

