/-! FlexRows$Lines: a line, and all of them -/
theorem xB.keepS {I I' : Nat → Nat → Int32} {o a1 a2 : Nat} {Q : lQ} {c : Nat} {cs : List Nat} (h : xB I o a1 a2 Q c) (hs : gSame cs I I') (hc : [o, a1, a2].all (fun c => !cs.contains c) = true) : xB I' o a1 a2 Q c := by
  have key : ∀ c ∈ [o, a1, a2], I' c = I c := fun c hm => hs.at c (by have := List.all_eq_true.mp hc c hm; simpa using this)
  exact h.keep (by rw [key o (by simp)]) (key a1 (by simp)) (key a2 (by simp))
/-- a line of the lines -/
def lnA (Q : lQ) (c l : Nat) : lA := (Q, frC Q c l, frC Q c (l + 1) - frC Q c l)
/-- one place of an array -/
def oneN (I I0 : Nat → Nat → Int32) (a l : Nat) (v : Int32) : Prop := ∀ q, I a q = if q = l then v else I0 a q
theorem oneN.one {I I0 : Nat → Nat → Int32} {a l : Nat} {v : Int32} (h : I a = I0 a) : oneN (gup I a l v) I0 a l v := fun q => by
  rw [gup_at]
  by_cases z : q = l
  · rw [if_pos z, if_pos z]
  · rw [if_neg z, if_neg z, h]
theorem oneN.two {I I0 : Nat → Nat → Int32} {a l : Nat} {v w : Int32} (h : oneN I I0 a l v) : oneN (gup I a l w) I0 a l w := fun q => by
  rw [gup_at]
  by_cases z : q = l
  · rw [if_pos z, if_pos z]
  · rw [if_neg z, if_neg z, h q, if_neg z]
theorem oneN.keep {I I' I0 : Nat → Nat → Int32} {a l : Nat} {v : Int32} (h : oneN I I0 a l v) (e : I' a = I a) : oneN I' I0 a l v := fun q => by rw [e]; exact h q
theorem oneN.at {I I0 : Nat → Nat → Int32} {a l : Nat} {v : Int32} (h : oneN I I0 a l v) : I a l = v := by rw [h l, if_pos rfl]
theorem oneN.ne {I I0 : Nat → Nat → Int32} {a l q : Nat} {v : Int32} (h : oneN I I0 a l v) (hq : q ≠ l) : I a q = I0 a q := by rw [h q, if_neg hq]
theorem strN.over {I I1 I0 : Nat → Nat → Int32} {a lo p : Nat} {g g2 : Nat → Int32} (h : strN I1 I0 a lo p g) (h2 : strN I I1 a lo p g2) : strN I I0 a lo p g2 := fun q => by
  rw [h2 q]
  by_cases y : lo ≤ q ∧ q < p
  · rw [if_pos y, if_pos y]
  · rw [if_neg y, if_neg y, h q, if_neg y]
theorem strN.base {I I1 I0 : Nat → Nat → Int32} {a lo p : Nat} {g : Nat → Int32} (h : strN I I1 a lo p g) (e : I1 a = I0 a) : strN I I0 a lo p g := fun q => by rw [h q, e]
theorem psL_done (A : lA) {k t : Nat} (h : opL A (ztL A t) = false) : psL A k t = t := by
  cases k with
  | zero => rfl
  | succ k => rw [psL, if_neg (by rw [h]; decide)]
theorem psL_le (A : lA) : ∀ k t, psL A k t ≤ t + k
  | 0, t => Nat.le_refl _
  | k + 1, t => by
    rw [psL]
    split
    · have := psL_le A k (t + 1); omega
    · omega
section X1E
variable {E : gE} {I : Nat → Nat → Int32} {h : gX}
def xL_18 (I I0 : Nat → Nat → Int32) (A : lA) (l : Nat) : Prop := oneN I I0 21 l (reL A) ∧ oneN I I0 22 l (nI (npL A)) ∧ oneN I I0 23 l (bI (grL A)) ∧ strN I I0 24 A.2.1 (A.2.1 + A.2.2) (ztL A (npL A)).2 ∧ strN I I0 25 A.2.1 (A.2.1 + A.2.2) (fun q => ovS ((ztL A (npL A)).1 q))
theorem x1_sl_rest_18 {A : lA} {l : Nat} {r : Int32} {I0 : Nat → Nat → Int32} (hl : l < 16) (hhi : A.2.1 + A.2.2 ≤ 16) {z : Nat → Int32} {v4 v5 : Value} {w6 : Int32} {K : gK} : ∀ (d k : Nat) (I : Nat → Nat → Int32), k + d = A.2.2 → gSame [21] I0 I → oneN I I0 21 l (sbS r z A.2.1 k) → (∀ q, A.2.1 ≤ q → q < A.2.1 + A.2.2 → I0 24 q = z q) →
    (∀ I L, gSame [21] I0 I → oneN I I0 21 l (sbS r z A.2.1 A.2.2) → Wp E fX1_shareLine (gn h) 211 L [] (gM I h) K) →
    Wp E fX1_shareLine (gn h) 183 [.ref 18, .int (nI l), .int (nI A.2.1), .int (nI (A.2.1 + A.2.2)), v4, v5, .int w6, .int (nI (A.2.1 + k))] [] (gM I h) K := by
  intro d
  induction d with
  | zero =>
    intro k I hk hs ho hz kk
    have hk : k = A.2.2 := by omega
    subst hk
    refine g_iload (i := 7) (t := 185) dX1_shareLine_183 rfl rfl ?_
    refine g_iload_n (i := 3) (t := 186) dX1_shareLine_185 rfl rfl rfl ?_
    refine g_icmp_ge_n (t1 := 211) (t2 := 189) dX1_shareLine_186 (by decide) rfl (by omega) (by omega) (fun h186 => ?_) (fun h186 => ?_)
    · exact kk I _ hs ho
    · exfalso; omega
  | succ d ih =>
    intro k I hk hs ho hz kk
    have e6 : I 24 (A.2.1 + k) = z (A.2.1 + k) := by rw [hs.at 24 rfl]; exact hz _ (by omega) (by omega)
    refine g_iload (i := 7) (t := 185) dX1_shareLine_183 rfl rfl ?_
    refine g_iload_n (i := 3) (t := 186) dX1_shareLine_185 rfl rfl rfl ?_
    refine g_icmp_ge_n (t1 := 211) (t2 := 189) dX1_shareLine_186 (by decide) rfl (by omega) (by omega) (fun h186 => ?_) (fun h186 => ?_)
    · exfalso; omega
    · refine g_aload_n (i := 0) (r := 18) (t := 190) dX1_shareLine_189 rfl rfl (Or.inl l9_18) rfl ?_
      refine gm_getR (o := 18) (ci := 1) (k := 3) (r := 21) (t := 193) l6_18 l9_18 s_18 gf_X1_18 rfl r_18_3 l9_21 dX1_shareLine_190 rfl ?_
      refine g_iload_n (i := 1) (t := 194) dX1_shareLine_193 rfl rfl rfl ?_
      refine g_dup2 (t := 195) dX1_shareLine_194 rfl rfl rfl ?_
      refine gm_iald_n (a := 21) (n := 16) (t := 196) l6_21 l9_21 s_21 dX1_shareLine_195 (by omega) (by decide) rfl ?_
      rw [ho.at]
      refine g_aload_n (i := 0) (r := 18) (t := 197) dX1_shareLine_196 rfl rfl (Or.inl l9_18) rfl ?_
      refine gm_getR (o := 18) (ci := 1) (k := 6) (r := 24) (t := 200) l6_18 l9_18 s_18 gf_X1_28 rfl r_18_6 l9_24 dX1_shareLine_197 rfl ?_
      refine g_iload (i := 7) (t := 202) dX1_shareLine_200 rfl rfl ?_
      refine gm_iald_n (a := 24) (n := 16) (t := 203) l6_24 l9_24 s_24 dX1_shareLine_202 (by omega) (by decide) rfl ?_
      rw [e6]
      refine g_isub (t := 204) dX1_shareLine_203 rfl ?_
      refine gm_iast_n (a := 21) (n := 16) (t := 205) l6_21 l9_21 s_21 dX1_shareLine_204 (by omega) (by decide) rfl ?_
      refine g_iinc (i := 7) (t := 208) (L1 := [_, _, _, _, _, _, _, _]) dX1_shareLine_205 rfl (gi_1 _) (by decide) rfl rfl rfl ?_
      refine g_goto (t := 183) dX1_shareLine_208 (by decide) ?_
      exact ih (k + 1) _ (by omega) (hs.up rfl) ho.two hz kk
theorem x1_sl_turns_18 {A : lA} {l c : Nat} {f : Nat → Nat} {I0 : Nat → Nat → Int32} (hl : l < 16) (hO : xO I0 (xP I0) c f) (hA : A.1.1 = xP I0) (hf : A.1.2.2.2 = f) (hhi : A.2.1 + A.2.2 ≤ c) {v5 : Value} {K : gK} : ∀ (d t : Nat) (I : Nat → Nat → Int32), t + d = 16 → gSame [22, 23, 24, 25, 26] I0 I → oneN I I0 22 l (nI t) → oneN I I0 23 l (bI (grL A)) → strN I I0 24 A.2.1 (A.2.1 + A.2.2) (ztL A t).2 → strN I I0 25 A.2.1 (A.2.1 + A.2.2) (fun q => ovS ((ztL A t).1 q)) → psL A d t = npL A →
    (∀ I v, gSame [22, 23, 24, 25, 26] I0 I → oneN I I0 22 l (nI (npL A)) → oneN I I0 23 l (bI (grL A)) → strN I I0 24 A.2.1 (A.2.1 + A.2.2) (ztL A (npL A)).2 → strN I I0 25 A.2.1 (A.2.1 + A.2.2) (fun q => ovS ((ztL A (npL A)).1 q)) → Wp E fX1_shareLine (gn h) 172 [.ref 18, .int (nI l), .int (nI A.2.1), .int (nI (A.2.1 + A.2.2)), .int (rmL A), v5, .int (bI (grL A)), v] [] (gM I h) K) →
    Wp E fX1_shareLine (gn h) 124 [.ref 18, .int (nI l), .int (nI A.2.1), .int (nI (A.2.1 + A.2.2)), .int (rmL A), v5, .int (bI (grL A)), .int (nI (t + 1))] [] (gM I h) K := by
  intro d
  have hc := hO.1
  induction d with
  | zero =>
    intro t I ht hs ho o5 z6 z7 hp kk
    have ht : t = 16 := by omega
    subst ht
    have hp : 16 = npL A := hp
    rw [← hp] at kk
    refine g_iload (i := 7) (t := 126) dX1_shareLine_124 rfl rfl ?_
    refine g_bipush (t := 128) dX1_shareLine_126 c_bipush_16 rfl ?_
    refine g_icmp_gt_n (t1 := 172) (t2 := 131) dX1_shareLine_128 (by decide) rfl (by omega) (by omega) (fun h128 => ?_) (fun h128 => ?_)
    · exact kk I _ hs ho o5 z6 z7
    · exfalso; omega
  | succ d ih =>
    intro t I ht hs ho o5 z6 z7 hp kk
    have hO1 := hO.keepP hs rfl
    have eP : xP I = xP I0 := by funext i w; show I 6 _ = I0 6 _; rw [hs.at 6 rfl]
    have hA1 : A.1.1 = xP I := hA.trans eP.symm
    have hZ : xZ_18 I A (ztL A t) := fun q h1 h2 => ⟨z6.in h1 h2, z7.in h1 h2, fun u hu => by have := ztL_le A t q u hu; omega⟩
    refine g_iload (i := 7) (t := 126) dX1_shareLine_124 rfl rfl ?_
    refine g_bipush (t := 128) dX1_shareLine_126 c_bipush_16 rfl ?_
    refine g_icmp_gt_n (t1 := 172) (t2 := 131) dX1_shareLine_128 (by decide) rfl (by omega) (by omega) (fun h128 => ?_) (fun h128 => ?_)
    · exfalso; omega
    · refine g_aload_n (i := 0) (r := 18) (t := 132) dX1_shareLine_131 rfl rfl (Or.inl l9_18) rfl ?_
      refine g_iload_n (i := 2) (t := 133) dX1_shareLine_132 rfl rfl rfl ?_
      refine g_iload_n (i := 3) (t := 134) dX1_shareLine_133 rfl rfl rfl ?_
      refine g_cVp (o := 18) (t := 137) mX1_hasOpen k_X1_82 imX1_hasOpen seX1_hasOpen l6_18 l9_18 s_18 rfl dX1_shareLine_134 (x1_hasOpen_18 hZ (by omega)) rfl rfl (by decide) (by decide) (Nat.le_of_ble_eq_true rfl) rfl (Nat.le_refl _) ?_
      refine g_if_eq (t1 := 172) (t2 := 140) dX1_shareLine_137 (by decide) rfl (fun h137 => ?_) (fun h137 => ?_)
      · have hn := bI_0 h137
        rw [psL_done A hn] at hp
        rw [← hp] at kk
        exact kk I _ hs ho o5 z6 z7
      · refine g_aload_n (i := 0) (r := 18) (t := 141) dX1_shareLine_140 rfl rfl (Or.inl l9_18) rfl ?_
        refine g_iload_n (i := 2) (t := 142) dX1_shareLine_141 rfl rfl rfl ?_
        refine g_iload_n (i := 3) (t := 143) dX1_shareLine_142 rfl rfl rfl ?_
        refine g_iload (i := 4) (t := 145) dX1_shareLine_143 rfl rfl ?_
        refine g_iload (i := 6) (t := 147) dX1_shareLine_145 rfl rfl ?_
        refine g_cVv (o := 18) (t := 150) mX1_shareOut k_X1_86 imX1_shareOut seX1_shareOut l6_18 l9_18 s_18 rfl dX1_shareLine_147 (x1_shareOut_18 hO1 hA1 hf hZ hhi) rfl rfl (by decide) (by decide) (Nat.le_of_ble_eq_true rfl) rfl (Nat.le_refl _) (fun J1 q1 => ?_)
        refine g_aload_n (i := 0) (r := 18) (t := 151) dX1_shareLine_150 rfl rfl (Or.inl l9_18) rfl ?_
        refine g_iload_n (i := 2) (t := 152) dX1_shareLine_151 rfl rfl rfl ?_
        refine g_iload_n (i := 3) (t := 153) dX1_shareLine_152 rfl rfl rfl ?_
        refine g_iload (i := 7) (t := 155) dX1_shareLine_153 rfl rfl ?_
        refine g_cVv (o := 18) (t := 158) mX1_freezeCorrected k_X1_90 imX1_freezeCorrected seX1_freezeCorrected l6_18 l9_18 s_18 rfl dX1_shareLine_155 (x1_freezeCorrected_18 (z := ztL A t) (hO1.keepP q1.1 rfl) (hA1.trans (by funext i w; show I 6 _ = J1 6 _; rw [q1.1.at 6 rfl])) hf hhi (fun q y1 y2 => ⟨q1.2.in y1 y2, by rw [q1.1.at 25 rfl]; exact (hZ q y1 y2).2.1, (hZ q y1 y2).2.2⟩)) rfl rfl (by decide) (by decide) (Nat.le_of_ble_eq_true rfl) rfl (Nat.le_refl _) (fun J2 q2 => ?_)
        refine g_aload_n (i := 0) (r := 18) (t := 159) dX1_shareLine_158 rfl rfl (Or.inl l9_18) rfl ?_
        refine gm_getR (o := 18) (ci := 1) (k := 4) (r := 22) (t := 162) l6_18 l9_18 s_18 gf_X1_21 rfl r_18_4 l9_22 dX1_shareLine_159 rfl ?_
        refine g_iload_n (i := 1) (t := 163) dX1_shareLine_162 rfl rfl rfl ?_
        refine g_iload (i := 7) (t := 165) dX1_shareLine_163 rfl rfl ?_
        refine gm_iast_n (a := 22) (n := 16) (t := 166) l6_22 l9_22 s_22 dX1_shareLine_165 (by omega) (by decide) rfl ?_
        refine g_iinc (i := 7) (t := 169) (L1 := [_, _, _, _, _, _, _, _]) dX1_shareLine_166 rfl (gi_1 _) (by decide) rfl rfl rfl ?_
        refine g_goto (t := 124) dX1_shareLine_169 (by decide) ?_
        have hn := bI_n0 h137
        rw [psL, if_pos hn] at hp
        have qs : gSame [24, 25, 26] I J2 := (q1.1.wk rfl).trans q2.1
        refine ih (t + 1) (gup J2 22 l (nI (t + 1))) (by omega) ((hs.trans (qs.wk rfl)).up rfl) (ho.keep (qs.at 22 rfl)).two ((o5.keep (qs.at 23 rfl)).keep (gup_rowo _ _ _ (by decide))) ?_ ?_ hp kk
        · exact (z6.over (q1.2.over q2.2.1)).keep (gup_rowo _ _ _ (by decide))
        · exact (z7.over (q2.2.2.base (q1.1.at 25 rfl))).keep (gup_rowo _ _ _ (by decide))
theorem x1_sl_sums_18 {A : lA} {l c : Nat} {f : Nat → Nat} (hO : xO I (xP I) c f) (hA : A.1.1 = xP I) (hf : A.1.2.2.2 = f) (hhi : A.2.1 + A.2.2 ≤ c) {r : Int32} {K : gK} : ∀ (d k : Nat), k + d = A.2.2 →
    (∀ v6, Wp E fX1_shareLine (gn h) 84 [.ref 18, .int (nI l), .int (nI A.2.1), .int (nI (A.2.1 + A.2.2)), .int (sbS r (fun p => nI 2 * A.1.1 (A.1.2.2.2 p) 5) A.2.1 A.2.2), .int (smS (fun p => wsh A.1.1 (A.1.2.2.2 p)) A.2.1 A.2.2), v6, .null] [] (gM I h) K) →
    Wp E fX1_shareLine (gn h) 40 [.ref 18, .int (nI l), .int (nI A.2.1), .int (nI (A.2.1 + A.2.2)), .int (sbS r (fun p => nI 2 * A.1.1 (A.1.2.2.2 p) 5) A.2.1 k), .int (smS (fun p => wsh A.1.1 (A.1.2.2.2 p)) A.2.1 k), .int (nI (A.2.1 + k)), .null] [] (gM I h) K := by
  intro d
  have hc := hO.1
  induction d with
  | zero =>
    intro k hk kk
    have hk : k = A.2.2 := by omega
    subst hk
    refine g_iload (i := 6) (t := 42) dX1_shareLine_40 rfl rfl ?_
    refine g_iload_n (i := 3) (t := 43) dX1_shareLine_42 rfl rfl rfl ?_
    refine g_icmp_ge_n (t1 := 84) (t2 := 46) dX1_shareLine_43 (by decide) rfl (by omega) (by omega) (fun h43 => ?_) (fun h43 => ?_)
    · exact kk _
    · exfalso; omega
  | succ d ih =>
    intro k hk kk
    obtain ⟨g1, g2, g3, g4, g5, g6, g7⟩ := hO.2.2 (A.2.1 + k) (by omega)
    refine g_iload (i := 6) (t := 42) dX1_shareLine_40 rfl rfl ?_
    refine g_iload_n (i := 3) (t := 43) dX1_shareLine_42 rfl rfl rfl ?_
    refine g_icmp_ge_n (t1 := 84) (t2 := 46) dX1_shareLine_43 (by decide) rfl (by omega) (by omega) (fun h43 => ?_) (fun h43 => ?_)
    · exfalso; omega
    · refine g_iload (i := 4) (t := 48) dX1_shareLine_46 rfl rfl ?_
      refine g_iconst (t := 49) dX1_shareLine_48 c_iconst_2 rfl ?_
      refine g_aload_n (i := 0) (r := 18) (t := 50) dX1_shareLine_49 rfl rfl (Or.inl l9_18) rfl ?_
      refine gm_getR (o := 18) (ci := 1) (k := 10) (r := 11) (t := 53) l6_18 l9_18 s_18 gf_X1_41 rfl r_18_10 l9_11 dX1_shareLine_50 rfl ?_
      refine gm_getR (o := 11) (ci := 2) (k := 5) (r := 16) (t := 56) l6_11 l9_11 s_11 gf_X1_72 rfl r_11_5 l9_16 dX1_shareLine_53 rfl ?_
      refine g_iload (i := 6) (t := 58) dX1_shareLine_56 rfl rfl ?_
      refine gm_iald_n (a := 16) (n := 16) (t := 59) l6_16 l9_16 s_16 dX1_shareLine_58 (by omega) (by decide) rfl ?_
      refine g_imul (t := 60) dX1_shareLine_59 rfl ?_
      refine g_isub (t := 61) dX1_shareLine_60 rfl ?_
      refine g_top (y := sbS r (fun p => nI 2 * A.1.1 (A.1.2.2.2 p) 5) A.2.1 (k + 1)) (by rw [sbS, g6, hA, hf]) ?_
      refine g_istore (i := 4) (t := 63) (L1 := [_, _, _, _, _, _, _, _]) dX1_shareLine_61 (by decide) rfl rfl rfl ?_
      refine g_iload (i := 5) (t := 65) dX1_shareLine_63 rfl rfl ?_
      refine g_aload_n (i := 0) (r := 18) (t := 66) dX1_shareLine_65 rfl rfl (Or.inl l9_18) rfl ?_
      refine gm_getR (o := 18) (ci := 1) (k := 10) (r := 11) (t := 69) l6_18 l9_18 s_18 gf_X1_41 rfl r_18_10 l9_11 dX1_shareLine_66 rfl ?_
      refine gm_getR (o := 11) (ci := 2) (k := 6) (r := 17) (t := 72) l6_11 l9_11 s_11 gf_X1_75 rfl r_11_6 l9_17 dX1_shareLine_69 rfl ?_
      refine g_iload (i := 6) (t := 74) dX1_shareLine_72 rfl rfl ?_
      refine gm_iald_n (a := 17) (n := 16) (t := 75) l6_17 l9_17 s_17 dX1_shareLine_74 (by omega) (by decide) rfl ?_
      refine g_iadd (t := 76) dX1_shareLine_75 rfl ?_
      refine g_top (y := smS (fun p => wsh A.1.1 (A.1.2.2.2 p)) A.2.1 (k + 1)) (by rw [smS, g7, hA, hf]) ?_
      refine g_istore (i := 5) (t := 78) (L1 := [_, _, _, _, _, _, _, _]) dX1_shareLine_76 (by decide) rfl rfl rfl ?_
      refine g_iinc (i := 6) (t := 81) (L1 := [_, _, _, _, _, _, _, _]) dX1_shareLine_78 rfl (gi_1 _) (by decide) rfl rfl rfl ?_
      refine g_goto (t := 40) dX1_shareLine_81 (by decide) ?_
      exact ih (k + 1) (by omega) kk
theorem x1_shareLine_18 {Q : lQ} {c l : Nat} {f : Nat → Nat} (hO : xO I (xP I) c f) (hQ : Q = (xP I, I 5, I 18 11, f)) (hB : xB I 18 19 20 Q c) (hl : l < nln Q c) : gQV E fX1_shareLine [.ref 18, .int (nI l)] I h (fun I' => gSame [21, 22, 23, 24, 25, 26] I I' ∧ xL_18 I' I (lnA Q c l) l) := by
  refine gEv.of rfl (Nat.le_refl _) (Nat.le_of_ble_eq_true rfl) (L := [.ref 18, .int (nI l), .null, .null, .null, .null, .null, .null]) rfl ?_
  have hc := hO.1
  have hnl := nln_le Q c
  have hlt := frC_pos Q c l hl
  have hle := frC_le Q c (l + 1)
  have hA : (lnA Q c l).1.1 = xP I := by show Q.1 = _; rw [hQ]
  have hf : (lnA Q c l).1.2.2.2 = f := by show Q.2.2.2 = _; rw [hQ]
  have hlo : (lnA Q c l).2.1 = frC Q c l := rfl
  have hhi : (lnA Q c l).2.1 + (lnA Q c l).2.2 = frC Q c (l + 1) := by show frC Q c l + (frC Q c (l + 1) - frC Q c l) = _; omega
  have hrm : rmL (lnA Q c l) = sbS (I 18 11 - I 5 1 * nI (frC Q c (l + 1) - frC Q c l - 1)) (fun p => nI 2 * (lnA Q c l).1.1 ((lnA Q c l).1.2.2.2 p) 5) (lnA Q c l).2.1 (lnA Q c l).2.2 := by
    have e1 : (lnA Q c l).1.2.2.1 = I 18 11 := by show Q.2.2.1 = _; rw [hQ]
    have e2 : (lnA Q c l).1.2.1 = I 5 := by show Q.2.1 = _; rw [hQ]
    unfold rmL
    rw [e1, e2]
    rfl
  have h1 := (hB.2 l hl).1
  rw [← hhi] at hle
  have T3 : ∀ (v5 : Value) (J : Nat → Nat → Int32) (v : Value), gSame [22, 23, 24, 25, 26] I J → oneN J I 22 l (nI (npL (lnA Q c l))) → oneN J I 23 l (bI (grL (lnA Q c l))) → strN J I 24 (lnA Q c l).2.1 ((lnA Q c l).2.1 + (lnA Q c l).2.2) (ztL (lnA Q c l) (npL (lnA Q c l))).2 → strN J I 25 (lnA Q c l).2.1 ((lnA Q c l).2.1 + (lnA Q c l).2.2) (fun q => ovS ((ztL (lnA Q c l) (npL (lnA Q c l))).1 q)) → Wp E fX1_shareLine (gn h) 172 [.ref 18, .int (nI l), .int (nI (lnA Q c l).2.1), .int (nI ((lnA Q c l).2.1 + (lnA Q c l).2.2)), .int (rmL (lnA Q c l)), v5, .int (bI (grL (lnA Q c l))), v] [] (gM J h) (gRet fX1_shareLine (gn h) (fun r σ' => ∃ I' : Nat → Nat → Int32, r = none ∧ σ' = gM I' h ∧ gSame [21, 22, 23, 24, 25, 26] I I' ∧ xL_18 I' I (lnA Q c l) l)) := by
    intro v5 J v hs o4 o5 z6 z7
    refine g_aload_n (i := 0) (r := 18) (t := 173) dX1_shareLine_172 rfl rfl (Or.inl l9_18) rfl ?_
    refine gm_getR (o := 18) (ci := 1) (k := 3) (r := 21) (t := 176) l6_18 l9_18 s_18 gf_X1_18 rfl r_18_3 l9_21 dX1_shareLine_173 rfl ?_
    refine g_iload_n (i := 1) (t := 177) dX1_shareLine_176 rfl rfl rfl ?_
    refine g_iload (i := 4) (t := 179) dX1_shareLine_177 rfl rfl ?_
    refine gm_iast_n (a := 21) (n := 16) (t := 180) l6_21 l9_21 s_21 dX1_shareLine_179 (by omega) (by decide) rfl ?_
    refine g_iload_n (i := 2) (t := 181) dX1_shareLine_180 rfl rfl rfl ?_
    refine g_istore (i := 7) (t := 183) (L1 := [_, _, _, _, _, _, _, _]) dX1_shareLine_181 (by decide) rfl rfl rfl ?_
    refine x1_sl_rest_18 (I0 := gup J 21 l (rmL (lnA Q c l))) (r := rmL (lnA Q c l)) (z := (ztL (lnA Q c l) (npL (lnA Q c l))).2) (by omega) (by omega) (lnA Q c l).2.2 0 _ (Nat.zero_add _) gSame.rf ?_ (fun q y1 y2 => ?_) (fun J2 L hs2 o3 => ?_)
    · intro q
      by_cases y : q = l
      · rw [if_pos y, y, gup_self]; rfl
      · rw [if_neg y]
    · rw [gup_o _ _ _ _ (by decide)]; exact z6.in y1 y2
    · have hk : ∀ {o' : Nat}, o' ≠ 21 → gup J 21 l (rmL (lnA Q c l)) o' = J o' := fun q => gup_rowo J l _ q
      refine g_retV dX1_shareLine_211 rfl ⟨((hs.wk rfl).up rfl).trans (hs2.wk rfl), fun q => ?_, o4.keep ((hs2.at 22 rfl).trans (hk (by decide))), o5.keep ((hs2.at 23 rfl).trans (hk (by decide))), z6.keep ((hs2.at 24 rfl).trans (hk (by decide))), z7.keep ((hs2.at 25 rfl).trans (hk (by decide)))⟩
      rw [o3 q]
      by_cases y : q = l
      · rw [if_pos y, if_pos y]; rfl
      · rw [if_neg y, if_neg y, gup_k _ _ _ y, hs.at 21 rfl]
  have T : ∀ v5, Wp E fX1_shareLine (gn h) 106 [.ref 18, .int (nI l), .int (nI (lnA Q c l).2.1), .int (nI ((lnA Q c l).2.1 + (lnA Q c l).2.2)), .int (rmL (lnA Q c l)), v5, .int (bI (grL (lnA Q c l))), .null] [] (gM (gup I 23 l (bI (grL (lnA Q c l)))) h) (gRet fX1_shareLine (gn h) (fun r σ' => ∃ I' : Nat → Nat → Int32, r = none ∧ σ' = gM I' h ∧ gSame [21, 22, 23, 24, 25, 26] I I' ∧ xL_18 I' I (lnA Q c l) l)) := by
    intro v5
    have hs0 : gSame [23] I (gup I 23 l (bI (grL (lnA Q c l)))) := gSame.rf.up rfl
    have eP0 : xP (gup I 23 l (bI (grL (lnA Q c l)))) = xP I := by funext i w; show gup I 23 l _ 6 _ = I 6 _; rw [hs0.at 6 rfl]
    have hA0 : (lnA Q c l).1.1 = xP (gup I 23 l (bI (grL (lnA Q c l)))) := hA.trans eP0.symm
    have hO0 := hO.keepP hs0 rfl
    refine g_aload_n (i := 0) (r := 18) (t := 107) dX1_shareLine_106 rfl rfl (Or.inl l9_18) rfl ?_
    refine g_iload_n (i := 2) (t := 108) dX1_shareLine_107 rfl rfl rfl ?_
    refine g_iload_n (i := 3) (t := 109) dX1_shareLine_108 rfl rfl rfl ?_
    refine g_iload (i := 6) (t := 111) dX1_shareLine_109 rfl rfl ?_
    refine g_cVv (o := 18) (t := 114) mX1_freezeStiff k_X1_78 imX1_freezeStiff seX1_freezeStiff l6_18 l9_18 s_18 rfl dX1_shareLine_111 (x1_freezeStiff_18 hO0 hA0 hf hle) rfl rfl (by decide) (by decide) (Nat.le_of_ble_eq_true rfl) rfl (Nat.le_refl _) (fun J1 q1 => ?_)
    refine g_aload_n (i := 0) (r := 18) (t := 115) dX1_shareLine_114 rfl rfl (Or.inl l9_18) rfl ?_
    refine gm_getR (o := 18) (ci := 1) (k := 4) (r := 22) (t := 118) l6_18 l9_18 s_18 gf_X1_21 rfl r_18_4 l9_22 dX1_shareLine_115 rfl ?_
    refine g_iload_n (i := 1) (t := 119) dX1_shareLine_118 rfl rfl rfl ?_
    refine g_iconst (t := 120) dX1_shareLine_119 c_iconst_0 rfl ?_
    refine gm_iast_n (a := 22) (n := 16) (t := 121) l6_22 l9_22 s_22 dX1_shareLine_120 (by omega) (by decide) rfl ?_
    refine g_iconst (t := 122) dX1_shareLine_121 c_iconst_1 rfl ?_
    refine g_istore (i := 7) (t := 124) (L1 := [_, _, _, _, _, _, _, _]) dX1_shareLine_122 (by decide) rfl rfl rfl ?_
    exact x1_sl_turns_18 (I0 := I) (by omega) hO hA hf hle 16 0 _ rfl (((hs0.wk rfl).trans (q1.1.wk rfl)).up rfl) (oneN.one ((q1.1.at 22 rfl).trans (hs0.at 22 rfl))) (((oneN.one rfl).keep (q1.1.at 23 rfl)).keep (gup_rowo _ _ _ (by decide))) ((q1.2.1.base (hs0.at 24 rfl)).keep (gup_rowo _ _ _ (by decide))) ((q1.2.2.base (hs0.at 25 rfl)).keep (gup_rowo _ _ _ (by decide))) rfl (T3 v5)
  have T4 : ∀ v6, Wp E fX1_shareLine (gn h) 84 [.ref 18, .int (nI l), .int (nI (lnA Q c l).2.1), .int (nI ((lnA Q c l).2.1 + (lnA Q c l).2.2)), .int (rmL (lnA Q c l)), .int (smS (fun p => wsh (lnA Q c l).1.1 ((lnA Q c l).1.2.2.2 p)) (lnA Q c l).2.1 (lnA Q c l).2.2), v6, .null] [] (gM I h) (gRet fX1_shareLine (gn h) (fun r σ' => ∃ I' : Nat → Nat → Int32, r = none ∧ σ' = gM I' h ∧ gSame [21, 22, 23, 24, 25, 26] I I' ∧ xL_18 I' I (lnA Q c l) l)) := by
    intro v6
    have eg : grL (lnA Q c l) = decide (smS (fun p => wsh (lnA Q c l).1.1 ((lnA Q c l).1.2.2.2 p)) (lnA Q c l).2.1 (lnA Q c l).2.2 < rmL (lnA Q c l)) := rfl
    refine g_iload (i := 5) (t := 86) dX1_shareLine_84 rfl rfl ?_
    refine g_iload (i := 4) (t := 88) dX1_shareLine_86 rfl rfl ?_
    refine g_icmp_ge (t1 := 95) (t2 := 91) dX1_shareLine_88 (by decide) rfl (fun h88 => ?_) (fun h88 => ?_)
    · refine g_iconst (t := 96) dX1_shareLine_95 c_iconst_0 rfl ?_
      refine g_istore (i := 6) (t := 98) (L1 := [_, _, _, _, _, _, _, _]) dX1_shareLine_96 (by decide) rfl rfl rfl ?_
      refine g_aload_n (i := 0) (r := 18) (t := 99) dX1_shareLine_98 rfl rfl (Or.inl l9_18) rfl ?_
      refine gm_getR (o := 18) (ci := 1) (k := 5) (r := 23) (t := 102) l6_18 l9_18 s_18 gf_X1_24 rfl r_18_5 l9_23 dX1_shareLine_99 rfl ?_
      refine g_iload_n (i := 1) (t := 103) dX1_shareLine_102 rfl rfl rfl ?_
      refine g_iload (i := 6) (t := 105) dX1_shareLine_103 rfl rfl ?_
      refine gm_zast_n (a := 23) (n := 16) (t := 106) l6_23 l9_23 s_23 (by decide +kernel) dX1_shareLine_105 (by omega) (by decide) rfl ?_
      first
      | (have e : grL (lnA Q c l) = true := eg.trans (decide_eq_true (Int32.not_le.mp h88))
         have := T (.int (smS (fun p => wsh (lnA Q c l).1.1 ((lnA Q c l).1.2.2.2 p)) (lnA Q c l).2.1 (lnA Q c l).2.2))
         rw [e] at this
         exact this)
      | (have e : grL (lnA Q c l) = false := eg.trans (decide_eq_false (Int32.not_lt.mpr h88))
         have := T (.int (smS (fun p => wsh (lnA Q c l).1.1 ((lnA Q c l).1.2.2.2 p)) (lnA Q c l).2.1 (lnA Q c l).2.2))
         rw [e] at this
         exact this)
    · refine g_iconst (t := 92) dX1_shareLine_91 c_iconst_1 rfl ?_
      refine g_goto (t := 96) dX1_shareLine_92 (by decide) ?_
      refine g_istore (i := 6) (t := 98) (L1 := [_, _, _, _, _, _, _, _]) dX1_shareLine_96 (by decide) rfl rfl rfl ?_
      refine g_aload_n (i := 0) (r := 18) (t := 99) dX1_shareLine_98 rfl rfl (Or.inl l9_18) rfl ?_
      refine gm_getR (o := 18) (ci := 1) (k := 5) (r := 23) (t := 102) l6_18 l9_18 s_18 gf_X1_24 rfl r_18_5 l9_23 dX1_shareLine_99 rfl ?_
      refine g_iload_n (i := 1) (t := 103) dX1_shareLine_102 rfl rfl rfl ?_
      refine g_iload (i := 6) (t := 105) dX1_shareLine_103 rfl rfl ?_
      refine gm_zast_n (a := 23) (n := 16) (t := 106) l6_23 l9_23 s_23 (by decide +kernel) dX1_shareLine_105 (by omega) (by decide) rfl ?_
      first
      | (have e : grL (lnA Q c l) = true := eg.trans (decide_eq_true (Int32.not_le.mp h88))
         have := T (.int (smS (fun p => wsh (lnA Q c l).1.1 ((lnA Q c l).1.2.2.2 p)) (lnA Q c l).2.1 (lnA Q c l).2.2))
         rw [e] at this
         exact this)
      | (have e : grL (lnA Q c l) = false := eg.trans (decide_eq_false (Int32.not_lt.mpr h88))
         have := T (.int (smS (fun p => wsh (lnA Q c l).1.1 ((lnA Q c l).1.2.2.2 p)) (lnA Q c l).2.1 (lnA Q c l).2.2))
         rw [e] at this
         exact this)
  refine g_aload_n (i := 0) (r := 18) (t := 1) dX1_shareLine_0 rfl rfl (Or.inl l9_18) rfl ?_
  refine gm_getR (o := 18) (ci := 1) (k := 1) (r := 19) (t := 4) l6_18 l9_18 s_18 gf_X1_9 rfl r_18_1 l9_19 dX1_shareLine_1 rfl ?_
  refine g_iload_n (i := 1) (t := 5) dX1_shareLine_4 rfl rfl rfl ?_
  refine gm_iald_n (a := 19) (n := 16) (t := 6) l6_19 l9_19 s_19 dX1_shareLine_5 (by omega) (by decide) rfl ?_
  rw [h1, ← hlo]
  refine g_istore_n (i := 2) (t := 7) (L1 := [_, _, _, _, _, _, _, _]) dX1_shareLine_6 rfl (by decide) rfl rfl rfl ?_
  refine g_aload_n (i := 0) (r := 18) (t := 8) dX1_shareLine_7 rfl rfl (Or.inl l9_18) rfl ?_
  refine g_iload_n (i := 1) (t := 9) dX1_shareLine_8 rfl rfl rfl ?_
  refine g_cVp (o := 18) (t := 12) mX1_end k_X1_69 imX1_end seX1_end l6_18 l9_18 s_18 rfl dX1_shareLine_9 (x1_end_18 hO.2.1 hc hB hl) rfl rfl (by decide) (by decide) (Nat.le_of_ble_eq_true rfl) rfl (Nat.le_refl _) ?_
  rw [← hhi]
  refine g_istore_n (i := 3) (t := 13) (L1 := [_, _, _, _, _, _, _, _]) dX1_shareLine_12 rfl (by decide) rfl rfl rfl ?_
  refine g_aload_n (i := 0) (r := 18) (t := 14) dX1_shareLine_13 rfl rfl (Or.inl l9_18) rfl ?_
  refine gm_getI (o := 18) (ci := 1) (k := 11) (t := 17) l6_18 l9_18 s_18 gf_X1_45 rfl dX1_shareLine_14 rfl ?_
  refine g_aload_n (i := 0) (r := 18) (t := 18) dX1_shareLine_17 rfl rfl (Or.inl l9_18) rfl ?_
  refine gm_getR (o := 18) (ci := 1) (k := 9) (r := 4) (t := 21) l6_18 l9_18 s_18 gf_X1_37 rfl r_18_9 l9_4 dX1_shareLine_18 rfl ?_
  refine g_iconst (t := 22) dX1_shareLine_21 c_iconst_1 rfl ?_
  refine g_cVp (o := 4) (t := 25) mX4_number k_X1_52 imX4_number seX4_number l6_4 l9_4 s_4 rfl dX1_shareLine_22 (x4_number (by omega)) rfl rfl (by decide) (by decide) (Nat.le_of_ble_eq_true rfl) rfl (Nat.le_refl _) ?_
  refine g_iload_n (i := 3) (t := 26) dX1_shareLine_25 rfl rfl rfl ?_
  refine g_iload_n (i := 2) (t := 27) dX1_shareLine_26 rfl rfl rfl ?_
  refine g_isub (t := 28) dX1_shareLine_27 rfl ?_
  refine g_top (y := nI (lnA Q c l).2.2) (by rw [pk_sub (by omega), Nat.add_sub_cancel_left]) ?_
  refine g_iconst (t := 29) dX1_shareLine_28 c_iconst_1 rfl ?_
  refine g_isub (t := 30) dX1_shareLine_29 rfl ?_
  refine g_top (y := nI ((lnA Q c l).2.2 - 1)) (by rw [pk_sub (by show 1 ≤ frC Q c (l + 1) - frC Q c l; omega)]) ?_
  refine g_imul (t := 31) dX1_shareLine_30 rfl ?_
  refine g_isub (t := 32) dX1_shareLine_31 rfl ?_
  refine g_istore (i := 4) (t := 34) (L1 := [_, _, _, _, _, _, _, _]) dX1_shareLine_32 (by decide) rfl rfl rfl ?_
  refine g_iconst (t := 35) dX1_shareLine_34 c_iconst_0 rfl ?_
  refine g_istore (i := 5) (t := 37) (L1 := [_, _, _, _, _, _, _, _]) dX1_shareLine_35 (by decide) rfl rfl rfl ?_
  refine g_iload_n (i := 2) (t := 38) dX1_shareLine_37 rfl rfl rfl ?_
  refine g_istore (i := 6) (t := 40) (L1 := [_, _, _, _, _, _, _, _]) dX1_shareLine_38 (by decide) rfl rfl rfl ?_
  rw [hrm] at T4
  exact x1_sl_sums_18 hO hA hf hle (lnA Q c l).2.2 0 (Nat.zero_add _) T4
def xL_32 (I I0 : Nat → Nat → Int32) (A : lA) (l : Nat) : Prop := oneN I I0 35 l (reL A) ∧ oneN I I0 36 l (nI (npL A)) ∧ oneN I I0 37 l (bI (grL A)) ∧ strN I I0 38 A.2.1 (A.2.1 + A.2.2) (ztL A (npL A)).2 ∧ strN I I0 39 A.2.1 (A.2.1 + A.2.2) (fun q => ovS ((ztL A (npL A)).1 q))
theorem x1_sl_rest_32 {A : lA} {l : Nat} {r : Int32} {I0 : Nat → Nat → Int32} (hl : l < 16) (hhi : A.2.1 + A.2.2 ≤ 16) {z : Nat → Int32} {v4 v5 : Value} {w6 : Int32} {K : gK} : ∀ (d k : Nat) (I : Nat → Nat → Int32), k + d = A.2.2 → gSame [35] I0 I → oneN I I0 35 l (sbS r z A.2.1 k) → (∀ q, A.2.1 ≤ q → q < A.2.1 + A.2.2 → I0 38 q = z q) →
    (∀ I L, gSame [35] I0 I → oneN I I0 35 l (sbS r z A.2.1 A.2.2) → Wp E fX1_shareLine (gn h) 211 L [] (gM I h) K) →
    Wp E fX1_shareLine (gn h) 183 [.ref 32, .int (nI l), .int (nI A.2.1), .int (nI (A.2.1 + A.2.2)), v4, v5, .int w6, .int (nI (A.2.1 + k))] [] (gM I h) K := by
  intro d
  induction d with
  | zero =>
    intro k I hk hs ho hz kk
    have hk : k = A.2.2 := by omega
    subst hk
    refine g_iload (i := 7) (t := 185) dX1_shareLine_183 rfl rfl ?_
    refine g_iload_n (i := 3) (t := 186) dX1_shareLine_185 rfl rfl rfl ?_
    refine g_icmp_ge_n (t1 := 211) (t2 := 189) dX1_shareLine_186 (by decide) rfl (by omega) (by omega) (fun h186 => ?_) (fun h186 => ?_)
    · exact kk I _ hs ho
    · exfalso; omega
  | succ d ih =>
    intro k I hk hs ho hz kk
    have e6 : I 38 (A.2.1 + k) = z (A.2.1 + k) := by rw [hs.at 38 rfl]; exact hz _ (by omega) (by omega)
    refine g_iload (i := 7) (t := 185) dX1_shareLine_183 rfl rfl ?_
    refine g_iload_n (i := 3) (t := 186) dX1_shareLine_185 rfl rfl rfl ?_
    refine g_icmp_ge_n (t1 := 211) (t2 := 189) dX1_shareLine_186 (by decide) rfl (by omega) (by omega) (fun h186 => ?_) (fun h186 => ?_)
    · exfalso; omega
    · refine g_aload_n (i := 0) (r := 32) (t := 190) dX1_shareLine_189 rfl rfl (Or.inl l9_32) rfl ?_
      refine gm_getR (o := 32) (ci := 1) (k := 3) (r := 35) (t := 193) l6_32 l9_32 s_32 gf_X1_18 rfl r_32_3 l9_35 dX1_shareLine_190 rfl ?_
      refine g_iload_n (i := 1) (t := 194) dX1_shareLine_193 rfl rfl rfl ?_
      refine g_dup2 (t := 195) dX1_shareLine_194 rfl rfl rfl ?_
      refine gm_iald_n (a := 35) (n := 16) (t := 196) l6_35 l9_35 s_35 dX1_shareLine_195 (by omega) (by decide) rfl ?_
      rw [ho.at]
      refine g_aload_n (i := 0) (r := 32) (t := 197) dX1_shareLine_196 rfl rfl (Or.inl l9_32) rfl ?_
      refine gm_getR (o := 32) (ci := 1) (k := 6) (r := 38) (t := 200) l6_32 l9_32 s_32 gf_X1_28 rfl r_32_6 l9_38 dX1_shareLine_197 rfl ?_
      refine g_iload (i := 7) (t := 202) dX1_shareLine_200 rfl rfl ?_
      refine gm_iald_n (a := 38) (n := 16) (t := 203) l6_38 l9_38 s_38 dX1_shareLine_202 (by omega) (by decide) rfl ?_
      rw [e6]
      refine g_isub (t := 204) dX1_shareLine_203 rfl ?_
      refine gm_iast_n (a := 35) (n := 16) (t := 205) l6_35 l9_35 s_35 dX1_shareLine_204 (by omega) (by decide) rfl ?_
      refine g_iinc (i := 7) (t := 208) (L1 := [_, _, _, _, _, _, _, _]) dX1_shareLine_205 rfl (gi_1 _) (by decide) rfl rfl rfl ?_
      refine g_goto (t := 183) dX1_shareLine_208 (by decide) ?_
      exact ih (k + 1) _ (by omega) (hs.up rfl) ho.two hz kk
theorem x1_sl_turns_32 {A : lA} {l c : Nat} {f : Nat → Nat} {I0 : Nat → Nat → Int32} (hl : l < 16) (hO : xO I0 (xP I0) c f) (hA : A.1.1 = xP I0) (hf : A.1.2.2.2 = f) (hhi : A.2.1 + A.2.2 ≤ c) {v5 : Value} {K : gK} : ∀ (d t : Nat) (I : Nat → Nat → Int32), t + d = 16 → gSame [36, 37, 38, 39, 40] I0 I → oneN I I0 36 l (nI t) → oneN I I0 37 l (bI (grL A)) → strN I I0 38 A.2.1 (A.2.1 + A.2.2) (ztL A t).2 → strN I I0 39 A.2.1 (A.2.1 + A.2.2) (fun q => ovS ((ztL A t).1 q)) → psL A d t = npL A →
    (∀ I v, gSame [36, 37, 38, 39, 40] I0 I → oneN I I0 36 l (nI (npL A)) → oneN I I0 37 l (bI (grL A)) → strN I I0 38 A.2.1 (A.2.1 + A.2.2) (ztL A (npL A)).2 → strN I I0 39 A.2.1 (A.2.1 + A.2.2) (fun q => ovS ((ztL A (npL A)).1 q)) → Wp E fX1_shareLine (gn h) 172 [.ref 32, .int (nI l), .int (nI A.2.1), .int (nI (A.2.1 + A.2.2)), .int (rmL A), v5, .int (bI (grL A)), v] [] (gM I h) K) →
    Wp E fX1_shareLine (gn h) 124 [.ref 32, .int (nI l), .int (nI A.2.1), .int (nI (A.2.1 + A.2.2)), .int (rmL A), v5, .int (bI (grL A)), .int (nI (t + 1))] [] (gM I h) K := by
  intro d
  have hc := hO.1
  induction d with
  | zero =>
    intro t I ht hs ho o5 z6 z7 hp kk
    have ht : t = 16 := by omega
    subst ht
    have hp : 16 = npL A := hp
    rw [← hp] at kk
    refine g_iload (i := 7) (t := 126) dX1_shareLine_124 rfl rfl ?_
    refine g_bipush (t := 128) dX1_shareLine_126 c_bipush_16 rfl ?_
    refine g_icmp_gt_n (t1 := 172) (t2 := 131) dX1_shareLine_128 (by decide) rfl (by omega) (by omega) (fun h128 => ?_) (fun h128 => ?_)
    · exact kk I _ hs ho o5 z6 z7
    · exfalso; omega
  | succ d ih =>
    intro t I ht hs ho o5 z6 z7 hp kk
    have hO1 := hO.keepP hs rfl
    have eP : xP I = xP I0 := by funext i w; show I 6 _ = I0 6 _; rw [hs.at 6 rfl]
    have hA1 : A.1.1 = xP I := hA.trans eP.symm
    have hZ : xZ_32 I A (ztL A t) := fun q h1 h2 => ⟨z6.in h1 h2, z7.in h1 h2, fun u hu => by have := ztL_le A t q u hu; omega⟩
    refine g_iload (i := 7) (t := 126) dX1_shareLine_124 rfl rfl ?_
    refine g_bipush (t := 128) dX1_shareLine_126 c_bipush_16 rfl ?_
    refine g_icmp_gt_n (t1 := 172) (t2 := 131) dX1_shareLine_128 (by decide) rfl (by omega) (by omega) (fun h128 => ?_) (fun h128 => ?_)
    · exfalso; omega
    · refine g_aload_n (i := 0) (r := 32) (t := 132) dX1_shareLine_131 rfl rfl (Or.inl l9_32) rfl ?_
      refine g_iload_n (i := 2) (t := 133) dX1_shareLine_132 rfl rfl rfl ?_
      refine g_iload_n (i := 3) (t := 134) dX1_shareLine_133 rfl rfl rfl ?_
      refine g_cVp (o := 32) (t := 137) mX1_hasOpen k_X1_82 imX1_hasOpen seX1_hasOpen l6_32 l9_32 s_32 rfl dX1_shareLine_134 (x1_hasOpen_32 hZ (by omega)) rfl rfl (by decide) (by decide) (Nat.le_of_ble_eq_true rfl) rfl (Nat.le_refl _) ?_
      refine g_if_eq (t1 := 172) (t2 := 140) dX1_shareLine_137 (by decide) rfl (fun h137 => ?_) (fun h137 => ?_)
      · have hn := bI_0 h137
        rw [psL_done A hn] at hp
        rw [← hp] at kk
        exact kk I _ hs ho o5 z6 z7
      · refine g_aload_n (i := 0) (r := 32) (t := 141) dX1_shareLine_140 rfl rfl (Or.inl l9_32) rfl ?_
        refine g_iload_n (i := 2) (t := 142) dX1_shareLine_141 rfl rfl rfl ?_
        refine g_iload_n (i := 3) (t := 143) dX1_shareLine_142 rfl rfl rfl ?_
        refine g_iload (i := 4) (t := 145) dX1_shareLine_143 rfl rfl ?_
        refine g_iload (i := 6) (t := 147) dX1_shareLine_145 rfl rfl ?_
        refine g_cVv (o := 32) (t := 150) mX1_shareOut k_X1_86 imX1_shareOut seX1_shareOut l6_32 l9_32 s_32 rfl dX1_shareLine_147 (x1_shareOut_32 hO1 hA1 hf hZ hhi) rfl rfl (by decide) (by decide) (Nat.le_of_ble_eq_true rfl) rfl (Nat.le_refl _) (fun J1 q1 => ?_)
        refine g_aload_n (i := 0) (r := 32) (t := 151) dX1_shareLine_150 rfl rfl (Or.inl l9_32) rfl ?_
        refine g_iload_n (i := 2) (t := 152) dX1_shareLine_151 rfl rfl rfl ?_
        refine g_iload_n (i := 3) (t := 153) dX1_shareLine_152 rfl rfl rfl ?_
        refine g_iload (i := 7) (t := 155) dX1_shareLine_153 rfl rfl ?_
        refine g_cVv (o := 32) (t := 158) mX1_freezeCorrected k_X1_90 imX1_freezeCorrected seX1_freezeCorrected l6_32 l9_32 s_32 rfl dX1_shareLine_155 (x1_freezeCorrected_32 (z := ztL A t) (hO1.keepP q1.1 rfl) (hA1.trans (by funext i w; show I 6 _ = J1 6 _; rw [q1.1.at 6 rfl])) hf hhi (fun q y1 y2 => ⟨q1.2.in y1 y2, by rw [q1.1.at 39 rfl]; exact (hZ q y1 y2).2.1, (hZ q y1 y2).2.2⟩)) rfl rfl (by decide) (by decide) (Nat.le_of_ble_eq_true rfl) rfl (Nat.le_refl _) (fun J2 q2 => ?_)
        refine g_aload_n (i := 0) (r := 32) (t := 159) dX1_shareLine_158 rfl rfl (Or.inl l9_32) rfl ?_
        refine gm_getR (o := 32) (ci := 1) (k := 4) (r := 36) (t := 162) l6_32 l9_32 s_32 gf_X1_21 rfl r_32_4 l9_36 dX1_shareLine_159 rfl ?_
        refine g_iload_n (i := 1) (t := 163) dX1_shareLine_162 rfl rfl rfl ?_
        refine g_iload (i := 7) (t := 165) dX1_shareLine_163 rfl rfl ?_
        refine gm_iast_n (a := 36) (n := 16) (t := 166) l6_36 l9_36 s_36 dX1_shareLine_165 (by omega) (by decide) rfl ?_
        refine g_iinc (i := 7) (t := 169) (L1 := [_, _, _, _, _, _, _, _]) dX1_shareLine_166 rfl (gi_1 _) (by decide) rfl rfl rfl ?_
        refine g_goto (t := 124) dX1_shareLine_169 (by decide) ?_
        have hn := bI_n0 h137
        rw [psL, if_pos hn] at hp
        have qs : gSame [38, 39, 40] I J2 := (q1.1.wk rfl).trans q2.1
        refine ih (t + 1) (gup J2 36 l (nI (t + 1))) (by omega) ((hs.trans (qs.wk rfl)).up rfl) (ho.keep (qs.at 36 rfl)).two ((o5.keep (qs.at 37 rfl)).keep (gup_rowo _ _ _ (by decide))) ?_ ?_ hp kk
        · exact (z6.over (q1.2.over q2.2.1)).keep (gup_rowo _ _ _ (by decide))
        · exact (z7.over (q2.2.2.base (q1.1.at 39 rfl))).keep (gup_rowo _ _ _ (by decide))
theorem x1_sl_sums_32 {A : lA} {l c : Nat} {f : Nat → Nat} (hO : xO I (xP I) c f) (hA : A.1.1 = xP I) (hf : A.1.2.2.2 = f) (hhi : A.2.1 + A.2.2 ≤ c) {r : Int32} {K : gK} : ∀ (d k : Nat), k + d = A.2.2 →
    (∀ v6, Wp E fX1_shareLine (gn h) 84 [.ref 32, .int (nI l), .int (nI A.2.1), .int (nI (A.2.1 + A.2.2)), .int (sbS r (fun p => nI 2 * A.1.1 (A.1.2.2.2 p) 5) A.2.1 A.2.2), .int (smS (fun p => wsh A.1.1 (A.1.2.2.2 p)) A.2.1 A.2.2), v6, .null] [] (gM I h) K) →
    Wp E fX1_shareLine (gn h) 40 [.ref 32, .int (nI l), .int (nI A.2.1), .int (nI (A.2.1 + A.2.2)), .int (sbS r (fun p => nI 2 * A.1.1 (A.1.2.2.2 p) 5) A.2.1 k), .int (smS (fun p => wsh A.1.1 (A.1.2.2.2 p)) A.2.1 k), .int (nI (A.2.1 + k)), .null] [] (gM I h) K := by
  intro d
  have hc := hO.1
  induction d with
  | zero =>
    intro k hk kk
    have hk : k = A.2.2 := by omega
    subst hk
    refine g_iload (i := 6) (t := 42) dX1_shareLine_40 rfl rfl ?_
    refine g_iload_n (i := 3) (t := 43) dX1_shareLine_42 rfl rfl rfl ?_
    refine g_icmp_ge_n (t1 := 84) (t2 := 46) dX1_shareLine_43 (by decide) rfl (by omega) (by omega) (fun h43 => ?_) (fun h43 => ?_)
    · exact kk _
    · exfalso; omega
  | succ d ih =>
    intro k hk kk
    obtain ⟨g1, g2, g3, g4, g5, g6, g7⟩ := hO.2.2 (A.2.1 + k) (by omega)
    refine g_iload (i := 6) (t := 42) dX1_shareLine_40 rfl rfl ?_
    refine g_iload_n (i := 3) (t := 43) dX1_shareLine_42 rfl rfl rfl ?_
    refine g_icmp_ge_n (t1 := 84) (t2 := 46) dX1_shareLine_43 (by decide) rfl (by omega) (by omega) (fun h43 => ?_) (fun h43 => ?_)
    · exfalso; omega
    · refine g_iload (i := 4) (t := 48) dX1_shareLine_46 rfl rfl ?_
      refine g_iconst (t := 49) dX1_shareLine_48 c_iconst_2 rfl ?_
      refine g_aload_n (i := 0) (r := 32) (t := 50) dX1_shareLine_49 rfl rfl (Or.inl l9_32) rfl ?_
      refine gm_getR (o := 32) (ci := 1) (k := 10) (r := 11) (t := 53) l6_32 l9_32 s_32 gf_X1_41 rfl r_32_10 l9_11 dX1_shareLine_50 rfl ?_
      refine gm_getR (o := 11) (ci := 2) (k := 5) (r := 16) (t := 56) l6_11 l9_11 s_11 gf_X1_72 rfl r_11_5 l9_16 dX1_shareLine_53 rfl ?_
      refine g_iload (i := 6) (t := 58) dX1_shareLine_56 rfl rfl ?_
      refine gm_iald_n (a := 16) (n := 16) (t := 59) l6_16 l9_16 s_16 dX1_shareLine_58 (by omega) (by decide) rfl ?_
      refine g_imul (t := 60) dX1_shareLine_59 rfl ?_
      refine g_isub (t := 61) dX1_shareLine_60 rfl ?_
      refine g_top (y := sbS r (fun p => nI 2 * A.1.1 (A.1.2.2.2 p) 5) A.2.1 (k + 1)) (by rw [sbS, g6, hA, hf]) ?_
      refine g_istore (i := 4) (t := 63) (L1 := [_, _, _, _, _, _, _, _]) dX1_shareLine_61 (by decide) rfl rfl rfl ?_
      refine g_iload (i := 5) (t := 65) dX1_shareLine_63 rfl rfl ?_
      refine g_aload_n (i := 0) (r := 32) (t := 66) dX1_shareLine_65 rfl rfl (Or.inl l9_32) rfl ?_
      refine gm_getR (o := 32) (ci := 1) (k := 10) (r := 11) (t := 69) l6_32 l9_32 s_32 gf_X1_41 rfl r_32_10 l9_11 dX1_shareLine_66 rfl ?_
      refine gm_getR (o := 11) (ci := 2) (k := 6) (r := 17) (t := 72) l6_11 l9_11 s_11 gf_X1_75 rfl r_11_6 l9_17 dX1_shareLine_69 rfl ?_
      refine g_iload (i := 6) (t := 74) dX1_shareLine_72 rfl rfl ?_
      refine gm_iald_n (a := 17) (n := 16) (t := 75) l6_17 l9_17 s_17 dX1_shareLine_74 (by omega) (by decide) rfl ?_
      refine g_iadd (t := 76) dX1_shareLine_75 rfl ?_
      refine g_top (y := smS (fun p => wsh A.1.1 (A.1.2.2.2 p)) A.2.1 (k + 1)) (by rw [smS, g7, hA, hf]) ?_
      refine g_istore (i := 5) (t := 78) (L1 := [_, _, _, _, _, _, _, _]) dX1_shareLine_76 (by decide) rfl rfl rfl ?_
      refine g_iinc (i := 6) (t := 81) (L1 := [_, _, _, _, _, _, _, _]) dX1_shareLine_78 rfl (gi_1 _) (by decide) rfl rfl rfl ?_
      refine g_goto (t := 40) dX1_shareLine_81 (by decide) ?_
      exact ih (k + 1) (by omega) kk
theorem x1_shareLine_32 {Q : lQ} {c l : Nat} {f : Nat → Nat} (hO : xO I (xP I) c f) (hQ : Q = (xP I, I 5, I 32 11, f)) (hB : xB I 32 33 34 Q c) (hl : l < nln Q c) : gQV E fX1_shareLine [.ref 32, .int (nI l)] I h (fun I' => gSame [35, 36, 37, 38, 39, 40] I I' ∧ xL_32 I' I (lnA Q c l) l) := by
  refine gEv.of rfl (Nat.le_refl _) (Nat.le_of_ble_eq_true rfl) (L := [.ref 32, .int (nI l), .null, .null, .null, .null, .null, .null]) rfl ?_
  have hc := hO.1
  have hnl := nln_le Q c
  have hlt := frC_pos Q c l hl
  have hle := frC_le Q c (l + 1)
  have hA : (lnA Q c l).1.1 = xP I := by show Q.1 = _; rw [hQ]
  have hf : (lnA Q c l).1.2.2.2 = f := by show Q.2.2.2 = _; rw [hQ]
  have hlo : (lnA Q c l).2.1 = frC Q c l := rfl
  have hhi : (lnA Q c l).2.1 + (lnA Q c l).2.2 = frC Q c (l + 1) := by show frC Q c l + (frC Q c (l + 1) - frC Q c l) = _; omega
  have hrm : rmL (lnA Q c l) = sbS (I 32 11 - I 5 1 * nI (frC Q c (l + 1) - frC Q c l - 1)) (fun p => nI 2 * (lnA Q c l).1.1 ((lnA Q c l).1.2.2.2 p) 5) (lnA Q c l).2.1 (lnA Q c l).2.2 := by
    have e1 : (lnA Q c l).1.2.2.1 = I 32 11 := by show Q.2.2.1 = _; rw [hQ]
    have e2 : (lnA Q c l).1.2.1 = I 5 := by show Q.2.1 = _; rw [hQ]
    unfold rmL
    rw [e1, e2]
    rfl
  have h1 := (hB.2 l hl).1
  rw [← hhi] at hle
  have T3 : ∀ (v5 : Value) (J : Nat → Nat → Int32) (v : Value), gSame [36, 37, 38, 39, 40] I J → oneN J I 36 l (nI (npL (lnA Q c l))) → oneN J I 37 l (bI (grL (lnA Q c l))) → strN J I 38 (lnA Q c l).2.1 ((lnA Q c l).2.1 + (lnA Q c l).2.2) (ztL (lnA Q c l) (npL (lnA Q c l))).2 → strN J I 39 (lnA Q c l).2.1 ((lnA Q c l).2.1 + (lnA Q c l).2.2) (fun q => ovS ((ztL (lnA Q c l) (npL (lnA Q c l))).1 q)) → Wp E fX1_shareLine (gn h) 172 [.ref 32, .int (nI l), .int (nI (lnA Q c l).2.1), .int (nI ((lnA Q c l).2.1 + (lnA Q c l).2.2)), .int (rmL (lnA Q c l)), v5, .int (bI (grL (lnA Q c l))), v] [] (gM J h) (gRet fX1_shareLine (gn h) (fun r σ' => ∃ I' : Nat → Nat → Int32, r = none ∧ σ' = gM I' h ∧ gSame [35, 36, 37, 38, 39, 40] I I' ∧ xL_32 I' I (lnA Q c l) l)) := by
    intro v5 J v hs o4 o5 z6 z7
    refine g_aload_n (i := 0) (r := 32) (t := 173) dX1_shareLine_172 rfl rfl (Or.inl l9_32) rfl ?_
    refine gm_getR (o := 32) (ci := 1) (k := 3) (r := 35) (t := 176) l6_32 l9_32 s_32 gf_X1_18 rfl r_32_3 l9_35 dX1_shareLine_173 rfl ?_
    refine g_iload_n (i := 1) (t := 177) dX1_shareLine_176 rfl rfl rfl ?_
    refine g_iload (i := 4) (t := 179) dX1_shareLine_177 rfl rfl ?_
    refine gm_iast_n (a := 35) (n := 16) (t := 180) l6_35 l9_35 s_35 dX1_shareLine_179 (by omega) (by decide) rfl ?_
    refine g_iload_n (i := 2) (t := 181) dX1_shareLine_180 rfl rfl rfl ?_
    refine g_istore (i := 7) (t := 183) (L1 := [_, _, _, _, _, _, _, _]) dX1_shareLine_181 (by decide) rfl rfl rfl ?_
    refine x1_sl_rest_32 (I0 := gup J 35 l (rmL (lnA Q c l))) (r := rmL (lnA Q c l)) (z := (ztL (lnA Q c l) (npL (lnA Q c l))).2) (by omega) (by omega) (lnA Q c l).2.2 0 _ (Nat.zero_add _) gSame.rf ?_ (fun q y1 y2 => ?_) (fun J2 L hs2 o3 => ?_)
    · intro q
      by_cases y : q = l
      · rw [if_pos y, y, gup_self]; rfl
      · rw [if_neg y]
    · rw [gup_o _ _ _ _ (by decide)]; exact z6.in y1 y2
    · have hk : ∀ {o' : Nat}, o' ≠ 35 → gup J 35 l (rmL (lnA Q c l)) o' = J o' := fun q => gup_rowo J l _ q
      refine g_retV dX1_shareLine_211 rfl ⟨((hs.wk rfl).up rfl).trans (hs2.wk rfl), fun q => ?_, o4.keep ((hs2.at 36 rfl).trans (hk (by decide))), o5.keep ((hs2.at 37 rfl).trans (hk (by decide))), z6.keep ((hs2.at 38 rfl).trans (hk (by decide))), z7.keep ((hs2.at 39 rfl).trans (hk (by decide)))⟩
      rw [o3 q]
      by_cases y : q = l
      · rw [if_pos y, if_pos y]; rfl
      · rw [if_neg y, if_neg y, gup_k _ _ _ y, hs.at 35 rfl]
  have T : ∀ v5, Wp E fX1_shareLine (gn h) 106 [.ref 32, .int (nI l), .int (nI (lnA Q c l).2.1), .int (nI ((lnA Q c l).2.1 + (lnA Q c l).2.2)), .int (rmL (lnA Q c l)), v5, .int (bI (grL (lnA Q c l))), .null] [] (gM (gup I 37 l (bI (grL (lnA Q c l)))) h) (gRet fX1_shareLine (gn h) (fun r σ' => ∃ I' : Nat → Nat → Int32, r = none ∧ σ' = gM I' h ∧ gSame [35, 36, 37, 38, 39, 40] I I' ∧ xL_32 I' I (lnA Q c l) l)) := by
    intro v5
    have hs0 : gSame [37] I (gup I 37 l (bI (grL (lnA Q c l)))) := gSame.rf.up rfl
    have eP0 : xP (gup I 37 l (bI (grL (lnA Q c l)))) = xP I := by funext i w; show gup I 37 l _ 6 _ = I 6 _; rw [hs0.at 6 rfl]
    have hA0 : (lnA Q c l).1.1 = xP (gup I 37 l (bI (grL (lnA Q c l)))) := hA.trans eP0.symm
    have hO0 := hO.keepP hs0 rfl
    refine g_aload_n (i := 0) (r := 32) (t := 107) dX1_shareLine_106 rfl rfl (Or.inl l9_32) rfl ?_
    refine g_iload_n (i := 2) (t := 108) dX1_shareLine_107 rfl rfl rfl ?_
    refine g_iload_n (i := 3) (t := 109) dX1_shareLine_108 rfl rfl rfl ?_
    refine g_iload (i := 6) (t := 111) dX1_shareLine_109 rfl rfl ?_
    refine g_cVv (o := 32) (t := 114) mX1_freezeStiff k_X1_78 imX1_freezeStiff seX1_freezeStiff l6_32 l9_32 s_32 rfl dX1_shareLine_111 (x1_freezeStiff_32 hO0 hA0 hf hle) rfl rfl (by decide) (by decide) (Nat.le_of_ble_eq_true rfl) rfl (Nat.le_refl _) (fun J1 q1 => ?_)
    refine g_aload_n (i := 0) (r := 32) (t := 115) dX1_shareLine_114 rfl rfl (Or.inl l9_32) rfl ?_
    refine gm_getR (o := 32) (ci := 1) (k := 4) (r := 36) (t := 118) l6_32 l9_32 s_32 gf_X1_21 rfl r_32_4 l9_36 dX1_shareLine_115 rfl ?_
    refine g_iload_n (i := 1) (t := 119) dX1_shareLine_118 rfl rfl rfl ?_
    refine g_iconst (t := 120) dX1_shareLine_119 c_iconst_0 rfl ?_
    refine gm_iast_n (a := 36) (n := 16) (t := 121) l6_36 l9_36 s_36 dX1_shareLine_120 (by omega) (by decide) rfl ?_
    refine g_iconst (t := 122) dX1_shareLine_121 c_iconst_1 rfl ?_
    refine g_istore (i := 7) (t := 124) (L1 := [_, _, _, _, _, _, _, _]) dX1_shareLine_122 (by decide) rfl rfl rfl ?_
    exact x1_sl_turns_32 (I0 := I) (by omega) hO hA hf hle 16 0 _ rfl (((hs0.wk rfl).trans (q1.1.wk rfl)).up rfl) (oneN.one ((q1.1.at 36 rfl).trans (hs0.at 36 rfl))) (((oneN.one rfl).keep (q1.1.at 37 rfl)).keep (gup_rowo _ _ _ (by decide))) ((q1.2.1.base (hs0.at 38 rfl)).keep (gup_rowo _ _ _ (by decide))) ((q1.2.2.base (hs0.at 39 rfl)).keep (gup_rowo _ _ _ (by decide))) rfl (T3 v5)
  have T4 : ∀ v6, Wp E fX1_shareLine (gn h) 84 [.ref 32, .int (nI l), .int (nI (lnA Q c l).2.1), .int (nI ((lnA Q c l).2.1 + (lnA Q c l).2.2)), .int (rmL (lnA Q c l)), .int (smS (fun p => wsh (lnA Q c l).1.1 ((lnA Q c l).1.2.2.2 p)) (lnA Q c l).2.1 (lnA Q c l).2.2), v6, .null] [] (gM I h) (gRet fX1_shareLine (gn h) (fun r σ' => ∃ I' : Nat → Nat → Int32, r = none ∧ σ' = gM I' h ∧ gSame [35, 36, 37, 38, 39, 40] I I' ∧ xL_32 I' I (lnA Q c l) l)) := by
    intro v6
    have eg : grL (lnA Q c l) = decide (smS (fun p => wsh (lnA Q c l).1.1 ((lnA Q c l).1.2.2.2 p)) (lnA Q c l).2.1 (lnA Q c l).2.2 < rmL (lnA Q c l)) := rfl
    refine g_iload (i := 5) (t := 86) dX1_shareLine_84 rfl rfl ?_
    refine g_iload (i := 4) (t := 88) dX1_shareLine_86 rfl rfl ?_
    refine g_icmp_ge (t1 := 95) (t2 := 91) dX1_shareLine_88 (by decide) rfl (fun h88 => ?_) (fun h88 => ?_)
    · refine g_iconst (t := 96) dX1_shareLine_95 c_iconst_0 rfl ?_
      refine g_istore (i := 6) (t := 98) (L1 := [_, _, _, _, _, _, _, _]) dX1_shareLine_96 (by decide) rfl rfl rfl ?_
      refine g_aload_n (i := 0) (r := 32) (t := 99) dX1_shareLine_98 rfl rfl (Or.inl l9_32) rfl ?_
      refine gm_getR (o := 32) (ci := 1) (k := 5) (r := 37) (t := 102) l6_32 l9_32 s_32 gf_X1_24 rfl r_32_5 l9_37 dX1_shareLine_99 rfl ?_
      refine g_iload_n (i := 1) (t := 103) dX1_shareLine_102 rfl rfl rfl ?_
      refine g_iload (i := 6) (t := 105) dX1_shareLine_103 rfl rfl ?_
      refine gm_zast_n (a := 37) (n := 16) (t := 106) l6_37 l9_37 s_37 (by decide +kernel) dX1_shareLine_105 (by omega) (by decide) rfl ?_
      first
      | (have e : grL (lnA Q c l) = true := eg.trans (decide_eq_true (Int32.not_le.mp h88))
         have := T (.int (smS (fun p => wsh (lnA Q c l).1.1 ((lnA Q c l).1.2.2.2 p)) (lnA Q c l).2.1 (lnA Q c l).2.2))
         rw [e] at this
         exact this)
      | (have e : grL (lnA Q c l) = false := eg.trans (decide_eq_false (Int32.not_lt.mpr h88))
         have := T (.int (smS (fun p => wsh (lnA Q c l).1.1 ((lnA Q c l).1.2.2.2 p)) (lnA Q c l).2.1 (lnA Q c l).2.2))
         rw [e] at this
         exact this)
    · refine g_iconst (t := 92) dX1_shareLine_91 c_iconst_1 rfl ?_
      refine g_goto (t := 96) dX1_shareLine_92 (by decide) ?_
      refine g_istore (i := 6) (t := 98) (L1 := [_, _, _, _, _, _, _, _]) dX1_shareLine_96 (by decide) rfl rfl rfl ?_
      refine g_aload_n (i := 0) (r := 32) (t := 99) dX1_shareLine_98 rfl rfl (Or.inl l9_32) rfl ?_
      refine gm_getR (o := 32) (ci := 1) (k := 5) (r := 37) (t := 102) l6_32 l9_32 s_32 gf_X1_24 rfl r_32_5 l9_37 dX1_shareLine_99 rfl ?_
      refine g_iload_n (i := 1) (t := 103) dX1_shareLine_102 rfl rfl rfl ?_
      refine g_iload (i := 6) (t := 105) dX1_shareLine_103 rfl rfl ?_
      refine gm_zast_n (a := 37) (n := 16) (t := 106) l6_37 l9_37 s_37 (by decide +kernel) dX1_shareLine_105 (by omega) (by decide) rfl ?_
      first
      | (have e : grL (lnA Q c l) = true := eg.trans (decide_eq_true (Int32.not_le.mp h88))
         have := T (.int (smS (fun p => wsh (lnA Q c l).1.1 ((lnA Q c l).1.2.2.2 p)) (lnA Q c l).2.1 (lnA Q c l).2.2))
         rw [e] at this
         exact this)
      | (have e : grL (lnA Q c l) = false := eg.trans (decide_eq_false (Int32.not_lt.mpr h88))
         have := T (.int (smS (fun p => wsh (lnA Q c l).1.1 ((lnA Q c l).1.2.2.2 p)) (lnA Q c l).2.1 (lnA Q c l).2.2))
         rw [e] at this
         exact this)
  refine g_aload_n (i := 0) (r := 32) (t := 1) dX1_shareLine_0 rfl rfl (Or.inl l9_32) rfl ?_
  refine gm_getR (o := 32) (ci := 1) (k := 1) (r := 33) (t := 4) l6_32 l9_32 s_32 gf_X1_9 rfl r_32_1 l9_33 dX1_shareLine_1 rfl ?_
  refine g_iload_n (i := 1) (t := 5) dX1_shareLine_4 rfl rfl rfl ?_
  refine gm_iald_n (a := 33) (n := 16) (t := 6) l6_33 l9_33 s_33 dX1_shareLine_5 (by omega) (by decide) rfl ?_
  rw [h1, ← hlo]
  refine g_istore_n (i := 2) (t := 7) (L1 := [_, _, _, _, _, _, _, _]) dX1_shareLine_6 rfl (by decide) rfl rfl rfl ?_
  refine g_aload_n (i := 0) (r := 32) (t := 8) dX1_shareLine_7 rfl rfl (Or.inl l9_32) rfl ?_
  refine g_iload_n (i := 1) (t := 9) dX1_shareLine_8 rfl rfl rfl ?_
  refine g_cVp (o := 32) (t := 12) mX1_end k_X1_69 imX1_end seX1_end l6_32 l9_32 s_32 rfl dX1_shareLine_9 (x1_end_32 hO.2.1 hc hB hl) rfl rfl (by decide) (by decide) (Nat.le_of_ble_eq_true rfl) rfl (Nat.le_refl _) ?_
  rw [← hhi]
  refine g_istore_n (i := 3) (t := 13) (L1 := [_, _, _, _, _, _, _, _]) dX1_shareLine_12 rfl (by decide) rfl rfl rfl ?_
  refine g_aload_n (i := 0) (r := 32) (t := 14) dX1_shareLine_13 rfl rfl (Or.inl l9_32) rfl ?_
  refine gm_getI (o := 32) (ci := 1) (k := 11) (t := 17) l6_32 l9_32 s_32 gf_X1_45 rfl dX1_shareLine_14 rfl ?_
  refine g_aload_n (i := 0) (r := 32) (t := 18) dX1_shareLine_17 rfl rfl (Or.inl l9_32) rfl ?_
  refine gm_getR (o := 32) (ci := 1) (k := 9) (r := 4) (t := 21) l6_32 l9_32 s_32 gf_X1_37 rfl r_32_9 l9_4 dX1_shareLine_18 rfl ?_
  refine g_iconst (t := 22) dX1_shareLine_21 c_iconst_1 rfl ?_
  refine g_cVp (o := 4) (t := 25) mX4_number k_X1_52 imX4_number seX4_number l6_4 l9_4 s_4 rfl dX1_shareLine_22 (x4_number (by omega)) rfl rfl (by decide) (by decide) (Nat.le_of_ble_eq_true rfl) rfl (Nat.le_refl _) ?_
  refine g_iload_n (i := 3) (t := 26) dX1_shareLine_25 rfl rfl rfl ?_
  refine g_iload_n (i := 2) (t := 27) dX1_shareLine_26 rfl rfl rfl ?_
  refine g_isub (t := 28) dX1_shareLine_27 rfl ?_
  refine g_top (y := nI (lnA Q c l).2.2) (by rw [pk_sub (by omega), Nat.add_sub_cancel_left]) ?_
  refine g_iconst (t := 29) dX1_shareLine_28 c_iconst_1 rfl ?_
  refine g_isub (t := 30) dX1_shareLine_29 rfl ?_
  refine g_top (y := nI ((lnA Q c l).2.2 - 1)) (by rw [pk_sub (by show 1 ≤ frC Q c (l + 1) - frC Q c l; omega)]) ?_
  refine g_imul (t := 31) dX1_shareLine_30 rfl ?_
  refine g_isub (t := 32) dX1_shareLine_31 rfl ?_
  refine g_istore (i := 4) (t := 34) (L1 := [_, _, _, _, _, _, _, _]) dX1_shareLine_32 (by decide) rfl rfl rfl ?_
  refine g_iconst (t := 35) dX1_shareLine_34 c_iconst_0 rfl ?_
  refine g_istore (i := 5) (t := 37) (L1 := [_, _, _, _, _, _, _, _]) dX1_shareLine_35 (by decide) rfl rfl rfl ?_
  refine g_iload_n (i := 2) (t := 38) dX1_shareLine_37 rfl rfl rfl ?_
  refine g_istore (i := 6) (t := 40) (L1 := [_, _, _, _, _, _, _, _]) dX1_shareLine_38 (by decide) rfl rfl rfl ?_
  rw [hrm] at T4
  exact x1_sl_sums_32 hO hA hf hle (lnA Q c l).2.2 0 (Nat.zero_add _) T4
end X1E

