/-! all passes; what is told of the line -/
/-- what the law has of a line -/
def shP (J : Nat → Nat → Int32) (z : Nat) (S : sT) (l : Nat) : Prop := zS J z S l (ztL (sA S l) (npL (sA S l))) (sA S l).2.2 ∧ J z (24 + l) = reL (sA S l) ∧ J z (32 + l) = bI (grL (sA S l)) ∧ J z (40 + l) = nI (npL (sA S l))
theorem zS.far {J J2 : Nat → Nat → Int32} {z l n : Nat} {S : sT} {q : lZ} (h : zS J z S l q n) (hn : n ≤ (sA S l).2.2) (h5 : S.1.1 ≤ 5) (e : ∀ x, x < 16 → J2 z x = J z x) : zS J2 z S l q n := by
  intro j hj
  have hf : fA S l j < S.1.1 := fA_lt (by omega)
  rw [e _ (by omega), e _ (by omega)]
  exact h j hj
section SHR6
variable {E : gE} {I : Nat → Nat → Int32} {h : gX} {S : sT} {K : gK} {nE z w l : Nat} {u5 u6 u7 u9 u10 u11 u12 u13 u14 u15 u16 u17 u18 u19 u20 u21 u22 u23 : Value}
theorem sh_w {g : Bool} (hzw : zwX h z w) (hg : grL (sA S l) = g) (hA : aV (sA S l)) (h5 : S.1.1 ≤ 5) (kk : ∀ (J : Nat → Nat → Int32) (u13 u14 u15 u16 u17 u18 u19 u20 u21 u22 u23 : Value), gSame [z, w] I J → shB J S l w → zS J z S l (ztL (sA S l) (npL (sA S l))) (sA S l).2.2 → Wp E fL_shares nE 755 [.ref 41, .ref 42, .ref 43, .ref z, .int (nI l), .int (nI (sA S l).2.2), u6, u7, .ref w, .int (rmL (sA S l)), .int (bI g), .int (nI 0), .int (nI (npL (sA S l))), u13, u14, u15, u16, u17, u18, u19, u20, u21, u22, u23] [] (gM J h) K) : ∀ (d t : Nat) (J : Nat → Nat → Int32) (u13 u14 u15 u16 u17 u18 u19 u20 u21 u22 u23 : Value), opn (sA S l) (ztL (sA S l) t) (sA S l).2.2 ≤ d → t + opn (sA S l) (ztL (sA S l) t) (sA S l).2.2 ≤ 5 → psL (sA S l) (16 - t) t = npL (sA S l) → gSame [z, w] I J → shB J S l w → zS J z S l (ztL (sA S l) t) (sA S l).2.2 → Wp E fL_shares nE 263 [.ref 41, .ref 42, .ref 43, .ref z, .int (nI l), .int (nI (sA S l).2.2), u6, u7, .ref w, .int (rmL (sA S l)), .int (bI g), .int (nI (opn (sA S l) (ztL (sA S l) t) (sA S l).2.2)), .int (nI t), u13, u14, u15, u16, u17, u18, u19, u20, u21, u22, u23] [] (gM J h) K := by
  have hsl := sA_le S l
  have hc5 : sC S.1 ≤ S.1.1 := ordS_le S.1.2.1 S.1.1
  have hdone : ∀ t, opn (sA S l) (ztL (sA S l) t) (sA S l).2.2 = 0 → t ≤ 5 → psL (sA S l) (16 - t) t = npL (sA S l) → npL (sA S l) = t := by
    intro t h0 ht hp
    rw [show 16 - t = (15 - t) + 1 by omega, psL, if_neg (by rw [opn_0 h0]; decide)] at hp
    exact hp.symm
  intro d
  induction d with
  | zero =>
    intro t J u13 u14 u15 u16 u17 u18 u19 u20 u21 u22 u23 hd ht hp hs hB hZ
    have h0 : opn (sA S l) (ztL (sA S l) t) (sA S l).2.2 = 0 := by omega
    have e := hdone t h0 (by omega) hp
    rw [h0]
    rw [e] at kk
    refine g_iload (i := 11) (t := 265) dL_shares_263 rfl rfl ?_
    refine g_if_le (t1 := 755) (t2 := 268) dL_shares_265 (by decide) rfl (fun h265 => ?_) (fun h265 => ?_)
    · exact kk J _ _ _ _ _ _ _ _ _ _ _ hs hB hZ
    · exact absurd (show nI 0 ≤ 0 by decide +kernel) h265
  | succ d ih =>
    intro t J u13 u14 u15 u16 u17 u18 u19 u20 u21 u22 u23 hd ht hp hs hB hZ
    by_cases h0 : opn (sA S l) (ztL (sA S l) t) (sA S l).2.2 = 0
    · have e := hdone t h0 (by omega) hp
      rw [h0]
      rw [e] at kk
      refine g_iload (i := 11) (t := 265) dL_shares_263 rfl rfl ?_
      refine g_if_le (t1 := 755) (t2 := 268) dL_shares_265 (by decide) rfl (fun h265 => ?_) (fun h265 => ?_)
      · exact kk J _ _ _ _ _ _ _ _ _ _ _ hs hB hZ
      · exact absurd (show nI 0 ≤ 0 by decide +kernel) h265
    · obtain ⟨k, k1, k2⟩ := opn_pos _ (Nat.pos_of_ne_zero h0)
      have ho : opL (sA S l) (ztL (sA S l) t) = true := (opL_iff _ _).mpr ⟨k, k1, k2⟩
      obtain ⟨j, j1, j2, j3⟩ := fz_some hA (zV_t hA t) ho
      have hlt := (opn_nx (sA S l) (ztL (sA S l) t) (t + 1) (sA S l).2.2).2 j j1 j2 j3
      have hlt2 : opn (sA S l) (ztL (sA S l) (t + 1)) (sA S l).2.2 < opn (sA S l) (ztL (sA S l) t) (sA S l).2.2 := hlt
      have hol := opn_le (sA S l) (ztL (sA S l) t) (sA S l).2.2
      have hq : ∀ p u, (ztL (sA S l) t).1 p = some u → u ≤ 16 := fun p u hu => by have := ztL_le (sA S l) t p u hu; omega
      have hp2 : psL (sA S l) (16 - (t + 1)) (t + 1) = npL (sA S l) := by
        rw [show 16 - t = (16 - (t + 1)) + 1 by omega, psL, if_pos ho] at hp
        exact hp
      have T752 : ∀ (J : Nat → Nat → Int32) (u13 u14 u15 u16 u17 u18 u19 u20 u21 u22 u23 : Value), gSame [z, w] I J → shB J S l w → zS J z S l (ztL (sA S l) (t + 1)) (sA S l).2.2 → Wp E fL_shares nE 752 [.ref 41, .ref 42, .ref 43, .ref z, .int (nI l), .int (nI (sA S l).2.2), u6, u7, .ref w, .int (rmL (sA S l)), .int (bI g), .int (nI (opn (sA S l) (ztL (sA S l) (t + 1)) (sA S l).2.2)), .int (nI (t + 1)), u13, u14, u15, u16, u17, u18, u19, u20, u21, u22, u23] [] (gM J h) K := by
        intro J u13 u14 u15 u16 u17 u18 u19 u20 u21 u22 u23 hs hB hZ
        refine g_goto (t := 263) dL_shares_752 (by decide) ?_
        exact ih (t + 1) J _ _ _ _ _ _ _ _ _ _ _ (by omega) (by omega) hp2 hs hB hZ
      have T670 : ∀ (J2 : Nat → Nat → Int32) (p13 : Int32) (u16 u18 u19 u20 u21 u22 u23 : Value), gSame [z, w] I J2 → shB J2 S l w → zG J2 z w S l (ztL (sA S l) t) (sA S l).2.2 → Wp E fL_shares nE 670 [.ref 41, .ref 42, .ref 43, .ref z, .int (nI l), .int (nI (sA S l).2.2), u6, u7, .ref w, .int (rmL (sA S l)), .int (bI g), .int (nI (opn (sA S l) (ztL (sA S l) t) (sA S l).2.2)), .int (nI (t + 1)), .int p13, .int (ttL (sA S l) (ztL (sA S l) t)), .int (shL (sA S l) (ztL (sA S l) t)), u16, .int (wrL (sA S l) (ztL (sA S l) t)), u18, u19, u20, u21, u22, u23] [] (gM J2 h) K := by
        intro J2 p13 u16 u18 u19 u20 u21 u22 u23 hs2 hB2 hG2
        have e0 : opT S l (ztL (sA S l) t) (t + 1) 0 = opn (sA S l) (ztL (sA S l) t) (sA S l).2.2 := by
          unfold opT
          show 0 + (_ - 0) = _
          omega
        rw [← e0]
        refine g_iconst (t := 671) dL_shares_670 c_iconst_0 rfl ?_
        refine g_istore (i := 18) (t := 673) (L1 := [_, _, _, _, _, _, _, _, _, _, _, _, _, _, _, _, _, _, _, _, _, _, _, _]) dL_shares_671 (by decide) rfl rfl rfl ?_
        exact sh_h (I := I) hzw hq (fun J3 u18 u19 hs3 hB3 hZ3 => T752 J3 _ _ _ _ _ _ _ _ _ _ _ hs3 hB3 hZ3) (sA S l).2.2 0 J2 _ (Nat.zero_add _) hs2 hB2 (zH.of hG2)
      have T411 : ∀ (u16 u17 u18 u19 u20 u21 u22 u23 : Value), Wp E fL_shares nE 411 [.ref 41, .ref 42, .ref 43, .ref z, .int (nI l), .int (nI (sA S l).2.2), u6, u7, .ref w, .int (rmL (sA S l)), .int (bI g), .int (nI (opn (sA S l) (ztL (sA S l) t) (sA S l).2.2)), .int (nI (t + 1)), .int (feL (sA S l) (ztL (sA S l) t)), .int (ttL (sA S l) (ztL (sA S l) t)), .int (shL (sA S l) (ztL (sA S l) t)), u16, u17, u18, u19, u20, u21, u22, u23] [] (gM J h) K := by
        intro u16 u17 u18 u19 u20 u21 u22 u23
        refine g_iconst (t := 412) dL_shares_411 c_iconst_0 rfl ?_
        refine g_istore (i := 16) (t := 414) (L1 := [_, _, _, _, _, _, _, _, _, _, _, _, _, _, _, _, _, _, _, _, _, _, _, _]) dL_shares_412 (by decide) rfl rfl rfl ?_
        refine g_iconst (t := 415) dL_shares_414 c_iconst_0 rfl ?_
        refine g_istore (i := 17) (t := 417) (L1 := [_, _, _, _, _, _, _, _, _, _, _, _, _, _, _, _, _, _, _, _, _, _, _, _]) dL_shares_415 (by decide) rfl rfl rfl ?_
        refine g_iconst (t := 418) dL_shares_417 c_iconst_0 rfl ?_
        refine g_istore (i := 18) (t := 420) (L1 := [_, _, _, _, _, _, _, _, _, _, _, _, _, _, _, _, _, _, _, _, _, _, _, _]) dL_shares_418 (by decide) rfl rfl rfl ?_
        exact sh_g (I := I) hzw hg hA (zV_t hA t) hq (fun J2 u16 u18 u19 u20 u21 u22 u23 hs2 hB2 hG2 => T670 J2 _ _ _ _ _ _ _ _ hs2 hB2 hG2) (sA S l).2.2 0 J _ _ _ _ _ (Nat.zero_add _) hs hB (zG.of hZ)
      refine g_iload (i := 11) (t := 265) dL_shares_263 rfl rfl ?_
      refine g_if_le (t1 := 755) (t2 := 268) dL_shares_265 (by decide) rfl (fun h265 => ?_) (fun h265 => ?_)
      · exact absurd h265 (Int32.not_le.mpr (nI_lt (Nat.pos_of_ne_zero h0) (by omega)))
      · refine g_iinc (i := 12) (t := 271) (L1 := [_, _, _, _, _, _, _, _, _, _, _, _, _, _, _, _, _, _, _, _, _, _, _, _]) dL_shares_268 rfl (gi_1 _) (by decide) rfl rfl rfl ?_
        refine g_iload (i := 9) (t := 273) dL_shares_271 rfl rfl ?_
        refine g_istore (i := 13) (t := 275) (L1 := [_, _, _, _, _, _, _, _, _, _, _, _, _, _, _, _, _, _, _, _, _, _, _, _]) dL_shares_273 (by decide) rfl rfl rfl ?_
        refine g_iconst (t := 276) dL_shares_275 c_iconst_0 rfl ?_
        refine g_istore (i := 14) (t := 278) (L1 := [_, _, _, _, _, _, _, _, _, _, _, _, _, _, _, _, _, _, _, _, _, _, _, _]) dL_shares_276 (by decide) rfl rfl rfl ?_
        refine g_iconst (t := 279) dL_shares_278 c_iconst_0 rfl ?_
        refine g_istore (i := 15) (t := 281) (L1 := [_, _, _, _, _, _, _, _, _, _, _, _, _, _, _, _, _, _, _, _, _, _, _, _]) dL_shares_279 (by decide) rfl rfl rfl ?_
        exact sh_f (q := ztL (sA S l) t) hzw hg hB hq hZ (fun u16 => sh_given hg (T411 _ _ _ _ _ _ _ _)) (sA S l).2.2 0 _ (Nat.zero_add _)
end SHR6

