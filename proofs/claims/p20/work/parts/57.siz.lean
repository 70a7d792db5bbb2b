/-! the lines' sizes, as the law asks them -/
theorem lsm_same {Q : lQ} {p : Nat} (e : lin Q (p + 1) = lin Q p) : lsm Q (p + 1) = lsm Q p + Q.2.1 1 + ob Q (p + 1) := by
  unfold lin at e
  unfold lsm
  rw [lnS] at e ⊢
  by_cases c : Q.2.1 3 = nI 1 ∧ Q.2.2.1 < (lnS Q p).1 + Q.2.1 1 + ob Q (p + 1)
  · rw [if_pos c] at e
    have e : (lnS Q p).2 + 1 = (lnS Q p).2 := e
    omega
  · rw [if_neg c]
theorem lsm_new {Q : lQ} {p : Nat} (e : ¬ lin Q (p + 1) = lin Q p) : lsm Q (p + 1) = ob Q (p + 1) := by
  unfold lin at e
  unfold lsm
  rw [lnS] at e ⊢
  by_cases c : Q.2.1 3 = nI 1 ∧ Q.2.2.1 < (lnS Q p).1 + Q.2.1 1 + ob Q (p + 1)
  · rw [if_pos c]
  · rw [if_neg c] at e
    exact absurd rfl e
def ouK (S : sT) (l : Nat) : Nat → Int32
  | 0 => nI 0
  | m + 1 => lsm (sQ S.1) ((sA S l).2.1 + m)
def fiK (S : sT) (l m : Nat) : Int32 := if m = 0 then -1 else nI (sA S l).2.1
/-- one item more of the line -/
theorem ouK_s {S : sT} {l p : Nat} (hp : p < sC S.1) (e : lin (sQ S.1) p = l) : ouK S l (mA S l p) + ((if mA S l p = 0 then nI 0 else S.1.2.2 1) + wsh S.1.2.1 ((sQ S.1).2.2.2 p) + nI 2 * S.1.2.1 ((sQ S.1).2.2.2 p) 5) = ouK S l (mA S l p + 1) := by
  obtain ⟨y1, y2, y3⟩ := mA_y hp e
  have e1 : (sA S l).2.1 = frC (sQ S.1) (sC S.1) l := rfl
  have eo : ob (sQ S.1) p = wsh S.1.2.1 ((sQ S.1).2.2.2 p) + nI 2 * S.1.2.1 ((sQ S.1).2.2.2 p) 5 := rfl
  rw [Int32.add_assoc _ (wsh _ _) _, ← eo]
  show _ = lsm (sQ S.1) ((sA S l).2.1 + mA S l p)
  rw [y3]
  cases hm : mA S l p with
  | zero =>
    rw [if_pos rfl]
    show nI 0 + (nI 0 + ob (sQ S.1) p) = _
    rw [nI_0, Int32.zero_add, Int32.zero_add]
    cases p with
    | zero => rfl
    | succ p =>
      refine (lsm_new (fun u => ?_)).symm
      have := (frC_lin (sQ S.1) (c := sC S.1) (show p < sC S.1 by omega)).mp (u.symm.trans e)
      rw [hm] at y3
      omega
  | succ m =>
    rw [if_neg (Nat.succ_ne_zero m)]
    rw [hm] at y3
    obtain ⟨p, rfl⟩ : ∃ u, p = u + 1 := ⟨p - 1, by omega⟩
    show lsm (sQ S.1) ((sA S l).2.1 + m) + (S.1.2.2 1 + ob (sQ S.1) (p + 1)) = _
    rw [show (sA S l).2.1 + m = p by omega, ← Int32.add_assoc]
    have h1 := (frC_lin (sQ S.1) (c := sC S.1) hp).mp e
    have h2 := (frC_lin (sQ S.1) (c := sC S.1) (l := l) (show p < sC S.1 by omega)).mpr ⟨by omega, by omega⟩
    exact (lsm_same (e.trans h2.symm)).symm
def zX (h : gX) (z : Nat) : Prop := z + h.1 < gn h ∧ z < 1000 ∧ gsh h z = .inr (0, 48) ∧ 44 ≤ z
section SIZ
variable {E : gE} {I : Nat → Nat → Int32} {h hl : gX} {S : sT} {z l : Nat}
abbrev arG (E : gE) (h hl : gX) (pc : Nat) (L st : List Value) (I J : Nat → Nat → Int32) (S : sT) : Prop := Wp E fL_areSizes (gn h + 6) pc L st (gM J hl) (gRet fL_areSizes (gn h + 6) (fun r σ' => ∃ (I' : Nat → Nat → Int32) (h' : gX), σ' = gM I' h' ∧ gn h' = gn h + 6 ∧ (r = some (.int (nI 1)) ∧ rX I' S ∧ I' 41 = I 41 ∧ I' 42 = I 42 ∧ I' 43 = I 43)))
def lJ (I J : Nat → Nat → Int32) (S : sT) : Prop := rX J S ∧ J 41 = I 41 ∧ J 42 = I 42 ∧ J 43 = I 43
theorem lJ.cl {J J2 : Nat → Nat → Int32} (hJ : lJ I J S) (hs : gSame CL J J2) (hX : rX J2 S) : lJ I J2 S := ⟨hX, (hs.at 41 rfl).trans hJ.2.1, (hs.at 42 rfl).trans hJ.2.2.1, (hs.at 43 rfl).trans hJ.2.2.2⟩
theorem cl_z {J J2 : Nat → Nat → Int32} (hs : gSame CL J J2) (hz : 44 ≤ z) : J2 z = J z := hs z (by simp [CL]; omega)
theorem lJ.law {J : Nat → Nat → Int32} (hJ : lJ I J S) (hA : aX I S) : aX J S := by
  unfold aX
  rw [hJ.2.1, hJ.2.2.1]
  exact hA
theorem siz_in {v4 : Value} (hA : aX I S) (hO : orX I S) (hzX : zX hl z) (hle : gn hl ≤ gn h + 6) (kk : ∀ (J : Nat → Nat → Int32) (v9 : Value), lJ I J S → shP J z S l → arG E h hl 197 [.ref 0, .ref 41, .ref 42, .ref 43, .ref z, .int (nI l), .int (nI (sA S l).2.2), .int (fiK S l (sA S l).2.2), .int (ouK S l (sA S l).2.2), v9] [] I J S) (hl16 : l < 16) : ∀ (d p : Nat) (J : Nat → Nat → Int32), p + d = sC S.1 → lJ I J S → shP J z S l → arG E h hl 40 [.ref 0, .ref 41, .ref 42, .ref 43, .ref z, .int (nI l), .int (nI (mA S l p)), .int (fiK S l (mA S l p)), .int (ouK S l (mA S l p)), .int (nI p)] [] I J S := by
  obtain ⟨l6_z, l9_z, s_z, hz4⟩ := id hzX
  obtain ⟨a1, a2, a3, a4⟩ := id hA
  obtain ⟨o1, o2, o3⟩ := id hO
  have hc5 : sC S.1 ≤ S.1.1 := ordS_le S.1.2.1 S.1.1
  have h16 : S.1.1 ≤ 16 := by omega
  intro d
  induction d with
  | zero =>
    intro p J hp hJ hP
    have hp : p = sC S.1 := by omega
    subst hp
    rw [mA_c]
    refine g_iload (i := 9) (t := 42) dL_areSizes_40 rfl rfl ?_
    refine g_aload_n (i := 3) (r := 43) (t := 43) dL_areSizes_42 rfl rfl (Or.inl l9_43) rfl ?_
    refine g_bipush (t := 45) dL_areSizes_43 c_bipush_16 rfl ?_
    refine gm_iald_x (a := 43) (n := 24) (t := 46) l6_43 l9_43 s_43 dL_areSizes_45 rfl (by omega) (by decide) rfl ?_
    rw [hJ.2.2.2, o2]
    refine g_icmp_ge_n (t1 := 197) (t2 := 49) dL_areSizes_46 (by decide) rfl (by omega) (by omega) (fun h46 => ?_) (fun h46 => ?_)
    · exact kk J _ hJ hP
    · exfalso; omega
  | succ d ih =>
    intro p J hp hJ hP
    obtain ⟨o4, o5⟩ := o1 p (by omega)
    have hlp := lin_le (sQ S.1) p
    by_cases hy : lin (sQ S.1) p = l
    · obtain ⟨y1, y2, y3⟩ := mA_y (by omega) hy
      have ih := ih (p + 1)
      rw [y2] at ih
      have hf : (sQ S.1).2.2.2 p < S.1.1 := ordS_lt S.1.2.1 S.1.1 p (show p < sC S.1 by omega)
      have ef : fA S l (mA S l p) = (sQ S.1).2.2.2 p := by
        show (sQ S.1).2.2.2 ((sA S l).2.1 + mA S l p) = _
        rw [y3]
      have hz := hP.1 (mA S l p) y1
      rw [ef, y3] at hz
      obtain ⟨hz1, hz2⟩ := hz
      have ez3 : liV S.1 p 3 = (ztL (sA S l) (npL (sA S l))).2 p := by
        show (ztL (lnA (sQ S.1) (sC S.1) (lin (sQ S.1) p)) (npL (lnA (sQ S.1) (sC S.1) (lin (sQ S.1) p)))).2 p = _
        rw [hy]
      have ez7 : liV S.1 p 7 = ovS ((ztL (sA S l) (npL (sA S l))).1 p) := by
        show ovS ((ztL (lnA (sQ S.1) (sC S.1) (lin (sQ S.1) p)) (npL (lnA (sQ S.1) (sC S.1) (lin (sQ S.1) p)))).1 p) = _
        rw [hy]
      have ez6 : liV S.1 p 6 = (ztL (sA S l) (npL (sA S l))).2 p - wsh S.1.2.1 ((sQ S.1).2.2.2 p) := by
        rw [← ez3]
        rfl
      have ew : ∀ J2 : Nat → Nat → Int32, J2 41 = I 41 → wsh (aP J2) ((sQ S.1).2.2.2 p) = wsh S.1.2.1 ((sQ S.1).2.2.2 p) := fun J2 e2 => wsh_cong (by show J2 41 _ = _; rw [e2]; exact a3 _ 0 hf (by decide)) (by show J2 41 _ = _; rw [e2]; exact a3 _ 3 hf (by decide)) (by show J2 41 _ = _; rw [e2]; exact a3 _ 4 hf (by decide))
      have eou := ouK_s (S := S) (l := l) (show p < sC S.1 by omega) hy
      have T118 : ∀ (p8 : Int32), p8 = ouK S l (mA S l p + 1) → arG E h hl 118 [.ref 0, .ref 41, .ref 42, .ref 43, .ref z, .int (nI l), .int (nI (mA S l p + 1)), .int (fiK S l (mA S l p + 1)), .int p8, .int (nI p)] [] I J S := by
        intro p8 hp8
        subst hp8
        refine g_aload_n (i := 0) (r := 0) (t := 119) dL_areSizes_118 rfl rfl (Or.inl l9_0) rfl ?_
        refine g_aload_n (i := 3) (r := 43) (t := 120) dL_areSizes_119 rfl rfl (Or.inl l9_43) rfl ?_
        refine g_iload (i := 9) (t := 122) dL_areSizes_120 rfl rfl ?_
        refine gm_iald_x (a := 43) (n := 24) (t := 123) l6_43 l9_43 s_43 dL_areSizes_122 rfl (by omega) (by decide) rfl ?_
        rw [hJ.2.2.2, o4]
        refine g_iconst (t := 124) dL_areSizes_123 c_iconst_3 rfl ?_
        refine g_cVi (o := 0) (t := 127) mX6_lies k_L_86 imX6_lies seX6_lies l6_0 l9_0 s_0 rfl dL_areSizes_124 (x6_lies hJ.1) rfl rfl (by decide) (by decide) (Nat.le_of_ble_eq_true rfl) rfl hle (fun v124 J124 q124 => ?_)
        obtain ⟨zq1, zq2, zq3⟩ := q124
        have e124 := (li_y h16 (show p < sC S.1 by omega) (by decide) zq3).trans ez3
        have zJ1 := hJ.cl zq1 zq2
        have zz1 := cl_z zq1 hz4
        refine g_aload (i := 4) (r := z) (t := 129) dL_areSizes_127 rfl (Or.inl l9_z) rfl ?_
        refine g_aload_n (i := 3) (r := 43) (t := 130) dL_areSizes_129 rfl rfl (Or.inl l9_43) rfl ?_
        refine g_iload (i := 9) (t := 132) dL_areSizes_130 rfl rfl ?_
        refine gm_iald_x (a := 43) (n := 24) (t := 133) l6_43 l9_43 s_43 dL_areSizes_132 rfl (by omega) (by decide) rfl ?_
        rw [zJ1.2.2.2, o4]
        refine gm_iald_x (a := z) (n := 48) (t := 134) l6_z l9_z s_z dL_areSizes_133 rfl (by omega) (by decide) rfl ?_
        rw [zz1, hz1]
        refine g_icmp_ne (t1 := 189) (t2 := 137) dL_areSizes_134 (by decide) rfl (fun h134 => ?_) (fun h134 => ?_)
        · exact absurd e124 h134
        · refine g_aload_n (i := 0) (r := 0) (t := 138) dL_areSizes_137 rfl rfl (Or.inl l9_0) rfl ?_
          refine g_aload_n (i := 3) (r := 43) (t := 139) dL_areSizes_138 rfl rfl (Or.inl l9_43) rfl ?_
          refine g_iload (i := 9) (t := 141) dL_areSizes_139 rfl rfl ?_
          refine gm_iald_x (a := 43) (n := 24) (t := 142) l6_43 l9_43 s_43 dL_areSizes_141 rfl (by omega) (by decide) rfl ?_
          rw [zJ1.2.2.2, o4]
          refine g_bipush (t := 144) dL_areSizes_142 c_bipush_6 rfl ?_
          refine g_cVi (o := 0) (t := 147) mX6_lies k_L_86 imX6_lies seX6_lies l6_0 l9_0 s_0 rfl dL_areSizes_144 (x6_lies zJ1.1) rfl rfl (by decide) (by decide) (Nat.le_of_ble_eq_true rfl) rfl hle (fun v144 J144 q144 => ?_)
          obtain ⟨zq4, zq5, zq6⟩ := q144
          have e144 := (li_y h16 (show p < sC S.1 by omega) (by decide) zq6).trans ez6
          have zJ2 := zJ1.cl zq4 zq5
          have zz2 := (cl_z zq4 hz4).trans zz1
          refine g_aload (i := 4) (r := z) (t := 149) dL_areSizes_147 rfl (Or.inl l9_z) rfl ?_
          refine g_aload_n (i := 3) (r := 43) (t := 150) dL_areSizes_149 rfl rfl (Or.inl l9_43) rfl ?_
          refine g_iload (i := 9) (t := 152) dL_areSizes_150 rfl rfl ?_
          refine gm_iald_x (a := 43) (n := 24) (t := 153) l6_43 l9_43 s_43 dL_areSizes_152 rfl (by omega) (by decide) rfl ?_
          rw [zJ2.2.2.2, o4]
          refine gm_iald_x (a := z) (n := 48) (t := 154) l6_z l9_z s_z dL_areSizes_153 rfl (by omega) (by decide) rfl ?_
          rw [zz2, hz1]
          refine g_aload_n (i := 1) (r := 41) (t := 155) dL_areSizes_154 rfl rfl (Or.inl l9_41) rfl ?_
          refine g_aload_n (i := 3) (r := 43) (t := 156) dL_areSizes_155 rfl rfl (Or.inl l9_43) rfl ?_
          refine g_iload (i := 9) (t := 158) dL_areSizes_156 rfl rfl ?_
          refine gm_iald_x (a := 43) (n := 24) (t := 159) l6_43 l9_43 s_43 dL_areSizes_158 rfl (by omega) (by decide) rfl ?_
          rw [zJ2.2.2.2, o4]
          refine g_cSp (t := 162) mL_wish k_L_79 smL_wish dL_areSizes_159 (l_wish (by omega)) rfl rfl (by decide) (by decide) (Nat.le_of_ble_eq_true rfl) rfl hle ?_
          rw [ew _ zJ2.2.1]
          refine g_isub (t := 163) dL_areSizes_162 rfl ?_
          refine g_icmp_ne (t1 := 189) (t2 := 166) dL_areSizes_163 (by decide) rfl (fun h163 => ?_) (fun h163 => ?_)
          · exact absurd e144 h163
          · refine g_aload_n (i := 0) (r := 0) (t := 167) dL_areSizes_166 rfl rfl (Or.inl l9_0) rfl ?_
            refine g_aload_n (i := 3) (r := 43) (t := 168) dL_areSizes_167 rfl rfl (Or.inl l9_43) rfl ?_
            refine g_iload (i := 9) (t := 170) dL_areSizes_168 rfl rfl ?_
            refine gm_iald_x (a := 43) (n := 24) (t := 171) l6_43 l9_43 s_43 dL_areSizes_170 rfl (by omega) (by decide) rfl ?_
            rw [zJ2.2.2.2, o4]
            refine g_bipush (t := 173) dL_areSizes_171 c_bipush_7 rfl ?_
            refine g_cVi (o := 0) (t := 176) mX6_lies k_L_86 imX6_lies seX6_lies l6_0 l9_0 s_0 rfl dL_areSizes_173 (x6_lies zJ2.1) rfl rfl (by decide) (by decide) (Nat.le_of_ble_eq_true rfl) rfl hle (fun v173 J173 q173 => ?_)
            obtain ⟨zq7, zq8, zq9⟩ := q173
            have e173 := (li_y h16 (show p < sC S.1 by omega) (by decide) zq9).trans ez7
            have zJ3 := zJ2.cl zq7 zq8
            have zz3 := (cl_z zq7 hz4).trans zz2
            refine g_aload (i := 4) (r := z) (t := 178) dL_areSizes_176 rfl (Or.inl l9_z) rfl ?_
            refine g_bipush (t := 180) dL_areSizes_178 c_bipush_8 rfl ?_
            refine g_aload_n (i := 3) (r := 43) (t := 181) dL_areSizes_180 rfl rfl (Or.inl l9_43) rfl ?_
            refine g_iload (i := 9) (t := 183) dL_areSizes_181 rfl rfl ?_
            refine gm_iald_x (a := 43) (n := 24) (t := 184) l6_43 l9_43 s_43 dL_areSizes_183 rfl (by omega) (by decide) rfl ?_
            rw [zJ3.2.2.2, o4]
            refine g_iadd (t := 185) dL_areSizes_184 rfl ?_
            refine gm_iald_x (a := z) (n := 48) (t := 186) l6_z l9_z s_z dL_areSizes_185 (ix_a _ _) (by omega) (by decide) rfl ?_
            rw [zz3, hz2]
            refine g_icmp_eq (t1 := 191) (t2 := 189) dL_areSizes_186 (by decide) rfl (fun h186 => ?_) (fun h186 => ?_)
            · refine g_iinc (i := 9) (t := 194) (L1 := [_, _, _, _, _, _, _, _, _, _]) dL_areSizes_191 rfl (gi_1 _) (by decide) rfl rfl rfl ?_
              refine g_goto (t := 40) dL_areSizes_194 (by decide) ?_
              refine ih J173 (by omega) zJ3 ⟨fun j hj => ?_, ?_, ?_, ?_⟩
              · rw [zz3]; exact hP.1 j hj
              · rw [zz3]; exact hP.2.1
              · rw [zz3]; exact hP.2.2.1
              · rw [zz3]; exact hP.2.2.2
            · exact absurd e173 h186
      have T89 : ∀ (x : Int32), x = (if mA S l p = 0 then nI 0 else S.1.2.2 1) → arG E h hl 89 [.ref 0, .ref 41, .ref 42, .ref 43, .ref z, .int (nI l), .int (nI (mA S l p)), .int (fiK S l (mA S l p + 1)), .int (ouK S l (mA S l p)), .int (nI p)] [.int x, .int (ouK S l (mA S l p))] I J S := by
        intro x hx
        subst hx
        refine g_aload_n (i := 1) (r := 41) (t := 90) dL_areSizes_89 rfl rfl (Or.inl l9_41) rfl ?_
        refine g_aload_n (i := 3) (r := 43) (t := 91) dL_areSizes_90 rfl rfl (Or.inl l9_43) rfl ?_
        refine g_iload (i := 9) (t := 93) dL_areSizes_91 rfl rfl ?_
        refine gm_iald_x (a := 43) (n := 24) (t := 94) l6_43 l9_43 s_43 dL_areSizes_93 rfl (by omega) (by decide) rfl ?_
        rw [hJ.2.2.2, o4]
        refine g_cSp (t := 97) mL_wish k_L_79 smL_wish dL_areSizes_94 (l_wish (by omega)) rfl rfl (by decide) (by decide) (Nat.le_of_ble_eq_true rfl) rfl hle ?_
        rw [ew _ hJ.2.1]
        refine g_iadd (t := 98) dL_areSizes_97 rfl ?_
        refine g_iconst (t := 99) dL_areSizes_98 c_iconst_2 rfl ?_
        refine g_aload_n (i := 1) (r := 41) (t := 100) dL_areSizes_99 rfl rfl (Or.inl l9_41) rfl ?_
        refine g_bipush (t := 102) dL_areSizes_100 c_bipush_12 rfl ?_
        refine g_aload_n (i := 3) (r := 43) (t := 103) dL_areSizes_102 rfl rfl (Or.inl l9_43) rfl ?_
        refine g_iload (i := 9) (t := 105) dL_areSizes_103 rfl rfl ?_
        refine gm_iald_x (a := 43) (n := 24) (t := 106) l6_43 l9_43 s_43 dL_areSizes_105 rfl (by omega) (by decide) rfl ?_
        rw [hJ.2.2.2, o4]
        refine g_imul (t := 107) dL_areSizes_106 rfl ?_
        refine g_iconst (t := 108) dL_areSizes_107 c_iconst_5 rfl ?_
        refine g_iadd (t := 109) dL_areSizes_108 rfl ?_
        refine gm_iald_x (a := 41) (n := 64) (t := 110) l6_41 l9_41 s_41 dL_areSizes_109 (ix_ma _ _ _) (by omega) (by decide) rfl ?_
        rw [hJ.2.1, a3 _ 5 hf (by decide)]
        refine g_imul (t := 111) dL_areSizes_110 rfl ?_
        refine g_iadd (t := 112) dL_areSizes_111 rfl ?_
        refine g_iadd (t := 113) dL_areSizes_112 rfl ?_
        refine g_istore (i := 8) (t := 115) (L1 := [_, _, _, _, _, _, _, _, _, _]) dL_areSizes_113 (by decide) rfl rfl rfl ?_
        refine g_iinc (i := 6) (t := 118) (L1 := [_, _, _, _, _, _, _, _, _, _]) dL_areSizes_115 rfl (gi_1 _) (by decide) rfl rfl rfl ?_
        exact T118 _ eou
      have T73 : ∀ (x : Int32), x = fiK S l (mA S l p + 1) → arG E h hl 73 [.ref 0, .ref 41, .ref 42, .ref 43, .ref z, .int (nI l), .int (nI (mA S l p)), .int (fiK S l (mA S l p)), .int (ouK S l (mA S l p)), .int (nI p)] [.int x] I J S := by
        intro x hx
        subst hx
        by_cases m0 : mA S l p = 0
        · rw [m0] at T89 ⊢
          rw [if_pos rfl] at T89
          refine g_istore (i := 7) (t := 75) (L1 := [_, _, _, _, _, _, _, _, _, _]) dL_areSizes_73 (by decide) rfl rfl rfl ?_
          refine g_iload (i := 8) (t := 77) dL_areSizes_75 rfl rfl ?_
          refine g_iload (i := 6) (t := 79) dL_areSizes_77 rfl rfl ?_
          refine g_if_le (t1 := 88) (t2 := 82) dL_areSizes_79 (by decide) rfl (fun h79 => ?_) (fun h79 => ?_)
          · refine g_iconst (t := 89) dL_areSizes_88 c_iconst_0 rfl ?_
            exact T89 _ rfl
          · exact absurd (show nI 0 ≤ 0 by decide +kernel) h79
        · rw [if_neg m0] at T89
          refine g_istore (i := 7) (t := 75) (L1 := [_, _, _, _, _, _, _, _, _, _]) dL_areSizes_73 (by decide) rfl rfl rfl ?_
          refine g_iload (i := 8) (t := 77) dL_areSizes_75 rfl rfl ?_
          refine g_iload (i := 6) (t := 79) dL_areSizes_77 rfl rfl ?_
          refine g_if_le (t1 := 88) (t2 := 82) dL_areSizes_79 (by decide) rfl (fun h79 => ?_) (fun h79 => ?_)
          · exact absurd h79 (Int32.not_le.mpr (nI_lt (Nat.pos_of_ne_zero m0) (by omega)))
          · refine g_aload_n (i := 2) (r := 42) (t := 83) dL_areSizes_82 rfl rfl (Or.inl l9_42) rfl ?_
            refine g_iconst (t := 84) dL_areSizes_83 c_iconst_1 rfl ?_
            refine gm_iald_x (a := 42) (n := 8) (t := 85) l6_42 l9_42 s_42 dL_areSizes_84 rfl (by omega) (by decide) rfl ?_
            rw [hJ.2.2.1, a4 1 (by decide)]
            refine g_goto (t := 89) dL_areSizes_85 (by decide) ?_
            exact T89 _ rfl
      by_cases m0 : mA S l p = 0
      · have e1 : fiK S l (mA S l p) = -1 := if_pos m0
        have e2 : nI p = fiK S l (mA S l p + 1) := by
          unfold fiK
          rw [if_neg (Nat.succ_ne_zero _), ← y3, m0]
          rfl
        rw [e1] at T73 ⊢
        refine g_iload (i := 9) (t := 42) dL_areSizes_40 rfl rfl ?_
        refine g_aload_n (i := 3) (r := 43) (t := 43) dL_areSizes_42 rfl rfl (Or.inl l9_43) rfl ?_
        refine g_bipush (t := 45) dL_areSizes_43 c_bipush_16 rfl ?_
        refine gm_iald_x (a := 43) (n := 24) (t := 46) l6_43 l9_43 s_43 dL_areSizes_45 rfl (by omega) (by decide) rfl ?_
        rw [hJ.2.2.2, o2]
        refine g_icmp_ge_n (t1 := 197) (t2 := 49) dL_areSizes_46 (by decide) rfl (by omega) (by omega) (fun h46 => ?_) (fun h46 => ?_)
        · exfalso; omega
        · refine g_aload_n (i := 3) (r := 43) (t := 50) dL_areSizes_49 rfl rfl (Or.inl l9_43) rfl ?_
          refine g_bipush (t := 52) dL_areSizes_50 c_bipush_8 rfl ?_
          refine g_iload (i := 9) (t := 54) dL_areSizes_52 rfl rfl ?_
          refine g_iadd (t := 55) dL_areSizes_54 rfl ?_
          refine gm_iald_x (a := 43) (n := 24) (t := 56) l6_43 l9_43 s_43 dL_areSizes_55 (ix_a _ _) (by omega) (by decide) rfl ?_
          rw [hJ.2.2.2, o5, hy]
          refine g_iload (i := 5) (t := 58) dL_areSizes_56 rfl rfl ?_
          refine g_icmp_ne (t1 := 191) (t2 := 61) dL_areSizes_58 (by decide) rfl (fun h58 => ?_) (fun h58 => ?_)
          · exact absurd rfl h58
          · refine g_iload (i := 7) (t := 63) dL_areSizes_61 rfl rfl ?_
            refine g_if_ge (t1 := 71) (t2 := 66) dL_areSizes_63 (by decide) rfl (fun h63 => ?_) (fun h63 => ?_)
            · exact absurd neg1_lt (Int32.not_lt.mpr h63)
            · refine g_iload (i := 9) (t := 68) dL_areSizes_66 rfl rfl ?_
              refine g_goto (t := 73) dL_areSizes_68 (by decide) ?_
              exact T73 _ e2
      · have e1 : fiK S l (mA S l p) = nI (sA S l).2.1 := if_neg m0
        have e2 : nI (sA S l).2.1 = fiK S l (mA S l p + 1) := (if_neg (Nat.succ_ne_zero _)).symm
        have hlo : (sA S l).2.1 < 1000 := by have := sA_le S l; omega
        rw [e1] at T73 ⊢
        refine g_iload (i := 9) (t := 42) dL_areSizes_40 rfl rfl ?_
        refine g_aload_n (i := 3) (r := 43) (t := 43) dL_areSizes_42 rfl rfl (Or.inl l9_43) rfl ?_
        refine g_bipush (t := 45) dL_areSizes_43 c_bipush_16 rfl ?_
        refine gm_iald_x (a := 43) (n := 24) (t := 46) l6_43 l9_43 s_43 dL_areSizes_45 rfl (by omega) (by decide) rfl ?_
        rw [hJ.2.2.2, o2]
        refine g_icmp_ge_n (t1 := 197) (t2 := 49) dL_areSizes_46 (by decide) rfl (by omega) (by omega) (fun h46 => ?_) (fun h46 => ?_)
        · exfalso; omega
        · refine g_aload_n (i := 3) (r := 43) (t := 50) dL_areSizes_49 rfl rfl (Or.inl l9_43) rfl ?_
          refine g_bipush (t := 52) dL_areSizes_50 c_bipush_8 rfl ?_
          refine g_iload (i := 9) (t := 54) dL_areSizes_52 rfl rfl ?_
          refine g_iadd (t := 55) dL_areSizes_54 rfl ?_
          refine gm_iald_x (a := 43) (n := 24) (t := 56) l6_43 l9_43 s_43 dL_areSizes_55 (ix_a _ _) (by omega) (by decide) rfl ?_
          rw [hJ.2.2.2, o5, hy]
          refine g_iload (i := 5) (t := 58) dL_areSizes_56 rfl rfl ?_
          refine g_icmp_ne (t1 := 191) (t2 := 61) dL_areSizes_58 (by decide) rfl (fun h58 => ?_) (fun h58 => ?_)
          · exact absurd rfl h58
          · refine g_iload (i := 7) (t := 63) dL_areSizes_61 rfl rfl ?_
            refine g_if_ge (t1 := 71) (t2 := 66) dL_areSizes_63 (by decide) rfl (fun h63 => ?_) (fun h63 => ?_)
            · refine g_iload (i := 7) (t := 73) dL_areSizes_71 rfl rfl ?_
              exact T73 _ e2
            · exact absurd (nI_ge0 (by omega)) h63
    · have ih := ih (p + 1)
      rw [mA_n (by omega) hy] at ih
      refine g_iload (i := 9) (t := 42) dL_areSizes_40 rfl rfl ?_
      refine g_aload_n (i := 3) (r := 43) (t := 43) dL_areSizes_42 rfl rfl (Or.inl l9_43) rfl ?_
      refine g_bipush (t := 45) dL_areSizes_43 c_bipush_16 rfl ?_
      refine gm_iald_x (a := 43) (n := 24) (t := 46) l6_43 l9_43 s_43 dL_areSizes_45 rfl (by omega) (by decide) rfl ?_
      rw [hJ.2.2.2, o2]
      refine g_icmp_ge_n (t1 := 197) (t2 := 49) dL_areSizes_46 (by decide) rfl (by omega) (by omega) (fun h46 => ?_) (fun h46 => ?_)
      · exfalso; omega
      · refine g_aload_n (i := 3) (r := 43) (t := 50) dL_areSizes_49 rfl rfl (Or.inl l9_43) rfl ?_
        refine g_bipush (t := 52) dL_areSizes_50 c_bipush_8 rfl ?_
        refine g_iload (i := 9) (t := 54) dL_areSizes_52 rfl rfl ?_
        refine g_iadd (t := 55) dL_areSizes_54 rfl ?_
        refine gm_iald_x (a := 43) (n := 24) (t := 56) l6_43 l9_43 s_43 dL_areSizes_55 (ix_a _ _) (by omega) (by decide) rfl ?_
        rw [hJ.2.2.2, o5]
        refine g_iload (i := 5) (t := 58) dL_areSizes_56 rfl rfl ?_
        refine g_icmp_ne (t1 := 191) (t2 := 61) dL_areSizes_58 (by decide) rfl (fun h58 => ?_) (fun h58 => ?_)
        · refine g_iinc (i := 9) (t := 194) (L1 := [_, _, _, _, _, _, _, _, _, _]) dL_areSizes_191 rfl (gi_1 _) (by decide) rfl rfl rfl ?_
          refine g_goto (t := 40) dL_areSizes_194 (by decide) ?_
          exact ih J (by omega) hJ hP
        · exact absurd ((nI_eq (by omega) (by omega)).mp h58) hy
end SIZ

