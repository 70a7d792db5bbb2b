/-! FlexRowsModel: a pass -/
def outU (I I0 : Nat → Nat → Int32) (A : lA) (a : Nat) : Prop := ∀ q, ¬ (A.2.1 ≤ q ∧ q < A.2.1 + A.2.2) → I a q = I0 a q
theorem outU.rf {I : Nat → Nat → Int32} {A : lA} {a : Nat} : outU I I A a := fun _ _ => rfl
theorem outU.trans {I J K : Nat → Nat → Int32} {A : lA} {a : Nat} (h1 : outU J I A a) (h2 : outU K J A a) : outU K I A a := fun q hq => (h2 q hq).trans (h1 q hq)
theorem outU.keep {I J K : Nat → Nat → Int32} {A : lA} {a : Nat} (h1 : outU J I A a) (e : K a = J a) : outU K I A a := fun q hq => by rw [e]; exact h1 q hq
theorem outU.up {I J : Nat → Nat → Int32} {A : lA} {a p : Nat} {v : Int32} (h : outU J I A a) (hp : A.2.1 ≤ p ∧ p < A.2.1 + A.2.2) : outU (gup J a p v) I A a := fun q hq => by rw [gup_k _ _ _ (fun z => hq (by rw [z]; exact hp))]; exact h q hq
theorem outU.str {I J : Nat → Nat → Int32} {A : lA} {a : Nat} {g : Nat → Int32} (h : strN J I a A.2.1 (A.2.1 + A.2.2) g) : outU J I A a := fun q hq => by rw [h q, if_neg hq]
section X7L
variable {E : gE} {I : Nat → Nat → Int32} {h : Int64} {s : sS} {A : lA} {z : lZ} {l t : Nat}
theorem x7_ps_tot (hB : mB I s A l) (hZ : mZ I A z l) {w2 : Int32} {K : gK} : ∀ (d k : Nat), k + d = A.2.2 →
    Wp E fX7_pass 62 67 [.ref 41, .int (nI l), .int w2, .int (ttL A z), .int (nI (A.2.1 + A.2.2)), .null, .null, .null, .null, .null] [] (gM I h) K →
    Wp E fX7_pass 62 16 [.ref 41, .int (nI l), .int w2, .int (smS (wgL A z) A.2.1 k), .int (nI (A.2.1 + k)), .null, .null, .null, .null, .null] [] (gM I h) K := by
  have ⟨b1, b2, b3, b4, b5, b6, b7, b8, b9⟩ := hB
  obtain ⟨z1, z2, z3⟩ := hZ
  intro d
  induction d with
  | zero =>
    intro k hk kk
    have hk : k = A.2.2 := by omega
    subst hk
    refine g_iload (i := 4) (t := 18) dX7_pass_16 rfl rfl ?_
    refine g_aload_n (i := 0) (r := 41) (t := 19) dX7_pass_18 rfl rfl (Or.inl l9_41) rfl ?_
    refine gm_getR (o := 41) (ci := 7) (k := 12) (r := 49) (t := 22) l6_41 l9_41 s_41 gf_X7_31 rfl r_41_12 l9_49 dX7_pass_19 rfl ?_
    refine g_iload_n (i := 1) (t := 23) dX7_pass_22 rfl rfl rfl ?_
    refine gm_iald_n (a := 49) (n := 16) (t := 24) l6_49 l9_49 s_49 dX7_pass_23 (by omega) (by decide) rfl ?_
    rw [b5]
    refine g_icmp_ge_n (t1 := 67) (t2 := 27) dX7_pass_24 (by decide) rfl (by omega) (by omega) (fun h24 => ?_) (fun h24 => ?_)
    · exact kk
    · exfalso; omega
  | succ d ih =>
    intro k hk kk
    obtain ⟨y1, y2⟩ := z3 (A.2.1 + k) (by omega) (by omega)
    obtain ⟨x1, x2⟩ := b7 (A.2.1 + k) (by omega) (by omega)
    refine g_iload (i := 4) (t := 18) dX7_pass_16 rfl rfl ?_
    refine g_aload_n (i := 0) (r := 41) (t := 19) dX7_pass_18 rfl rfl (Or.inl l9_41) rfl ?_
    refine gm_getR (o := 41) (ci := 7) (k := 12) (r := 49) (t := 22) l6_41 l9_41 s_41 gf_X7_31 rfl r_41_12 l9_49 dX7_pass_19 rfl ?_
    refine g_iload_n (i := 1) (t := 23) dX7_pass_22 rfl rfl rfl ?_
    refine gm_iald_n (a := 49) (n := 16) (t := 24) l6_49 l9_49 s_49 dX7_pass_23 (by omega) (by decide) rfl ?_
    rw [b5]
    refine g_icmp_ge_n (t1 := 67) (t2 := 27) dX7_pass_24 (by decide) rfl (by omega) (by omega) (fun h24 => ?_) (fun h24 => ?_)
    · exfalso; omega
    · refine g_iload_n (i := 3) (t := 28) dX7_pass_27 rfl rfl rfl ?_
      refine g_aload_n (i := 0) (r := 41) (t := 29) dX7_pass_28 rfl rfl (Or.inl l9_41) rfl ?_
      refine gm_getR (o := 41) (ci := 7) (k := 17) (r := 53) (t := 32) l6_41 l9_41 s_41 gf_X7_43 rfl r_41_17 l9_53 dX7_pass_29 rfl ?_
      refine g_iload (i := 4) (t := 34) dX7_pass_32 rfl rfl ?_
      refine gm_zald_n (a := 53) (n := 16) (t := 35) l6_53 l9_53 s_53 dX7_pass_34 (by omega) (by decide) rfl ?_
      rw [y1]
      refine g_if_eq (t1 := 42) (t2 := 38) dX7_pass_35 (by decide) rfl (fun h35 => ?_) (fun h35 => ?_)
      · refine g_aload_n (i := 0) (r := 41) (t := 43) dX7_pass_42 rfl rfl (Or.inl l9_41) rfl ?_
        refine g_aload_n (i := 0) (r := 41) (t := 44) dX7_pass_43 rfl rfl (Or.inl l9_41) rfl ?_
        refine gm_getR (o := 41) (ci := 7) (k := 8) (r := 46) (t := 47) l6_41 l9_41 s_41 gf_X7_22 rfl r_41_8 l9_46 dX7_pass_44 rfl ?_
        refine g_iload (i := 4) (t := 49) dX7_pass_47 rfl rfl ?_
        refine gm_iald_n (a := 46) (n := 16) (t := 50) l6_46 l9_46 s_46 dX7_pass_49 (by omega) (by decide) rfl ?_
        rw [x1]
        refine g_aload_n (i := 0) (r := 41) (t := 51) dX7_pass_50 rfl rfl (Or.inl l9_41) rfl ?_
        refine gm_getR (o := 41) (ci := 7) (k := 21) (r := 57) (t := 54) l6_41 l9_41 s_41 gf_X7_56 rfl r_41_21 l9_57 dX7_pass_51 rfl ?_
        refine g_iload_n (i := 1) (t := 55) dX7_pass_54 rfl rfl rfl ?_
        refine gm_zald_n (a := 57) (n := 16) (t := 56) l6_57 l9_57 s_57 dX7_pass_55 (by omega) (by decide) rfl ?_
        rw [z2]
        refine g_cVp (o := 41) (t := 59) mX7_weight k_X7_191 imX7_weight seX7_weight l6_41 l9_41 s_41 rfl dX7_pass_56 (x7_weight b1 b2 x2) rfl rfl (by decide) (by decide) (Nat.le_of_ble_eq_true rfl) rfl ?_
        refine g_iadd (t := 60) dX7_pass_59 rfl ?_
        refine g_top (y := smS (wgL A z) A.2.1 (k + 1)) (by
            rw [smS, wgL]
            first
            | rw [if_pos (sm_none.mp (bI_0 h35)), b8]
            | rw [if_neg (sm_some.mp (bI_n0 h35))]) ?_
        refine g_istore_n (i := 3) (t := 61) (L1 := [_, _, _, _, _, _, _, _, _, _]) dX7_pass_60 rfl (by decide) rfl rfl rfl ?_
        refine g_iinc (i := 4) (t := 64) (L1 := [_, _, _, _, _, _, _, _, _, _]) dX7_pass_61 rfl (gi_1 _) (by decide) rfl rfl rfl ?_
        refine g_goto (t := 16) dX7_pass_64 (by decide) ?_
        exact ih (k + 1) (by omega) kk
      · refine g_iconst (t := 39) dX7_pass_38 c_iconst_0 rfl ?_
        refine g_goto (t := 59) dX7_pass_39 (by decide) ?_
        refine g_iadd (t := 60) dX7_pass_59 rfl ?_
        refine g_top (y := smS (wgL A z) A.2.1 (k + 1)) (by
            rw [smS, wgL]
            first
            | rw [if_pos (sm_none.mp (bI_0 h35)), b8]
            | rw [if_neg (sm_some.mp (bI_n0 h35))]) ?_
        refine g_istore_n (i := 3) (t := 61) (L1 := [_, _, _, _, _, _, _, _, _, _]) dX7_pass_60 rfl (by decide) rfl rfl rfl ?_
        refine g_iinc (i := 4) (t := 64) (L1 := [_, _, _, _, _, _, _, _, _, _]) dX7_pass_61 rfl (gi_1 _) (by decide) rfl rfl rfl ?_
        refine g_goto (t := 16) dX7_pass_64 (by decide) ?_
        exact ih (k + 1) (by omega) kk
theorem x7_ps_out {I0 : Nat → Nat → Int32} (hB : mB I0 s A l) (hZ : mZ I0 A z l) (hV : aV A) (hz : zV A z) {K : gK} : ∀ (d k : Nat) (I : Nat → Nat → Int32) (v7 v8 v9 : Value), k + d = A.2.2 → gSame [50, 51] I0 I → strN I I0 50 A.2.1 (A.2.1 + k) (szG A z) → (∀ q, A.2.1 ≤ q → q < A.2.1 + k → z.1 q = none → I 51 q = czL A z q) →
    (∀ I L1, gSame [50, 51] I0 I → strN I I0 50 A.2.1 (A.2.1 + A.2.2) (szG A z) → (∀ q, A.2.1 ≤ q → q < A.2.1 + A.2.2 → z.1 q = none → I 51 q = czL A z q) → Wp E fX7_pass 62 261 ([.ref 41, .int (nI l), .int (shL A z), .int (ttL A z), .int (ttL A z), .int (wrL A z), .int (nI (A.2.1 + A.2.2))] ++ L1) [] (gM I h) K) →
    Wp E fX7_pass 62 81 [.ref 41, .int (nI l), .int (shL A z), .int (ttL A z), .int (smS (wgL A z) A.2.1 k), .int (smS (coG A z) A.2.1 k), .int (nI (A.2.1 + k)), v7, v8, v9] [] (gM I h) K := by
  have ⟨b1, b2, b3, b4, b5, b6, b7, b8, b9⟩ := hB
  obtain ⟨z1, z2, z3⟩ := hZ
  intro d
  induction d with
  | zero =>
    intro k I v7 v8 v9 hk hs zs zc kk
    have hk : k = A.2.2 := by omega
    subst hk
    refine g_iload (i := 6) (t := 83) dX7_pass_81 rfl rfl ?_
    refine g_aload_n (i := 0) (r := 41) (t := 84) dX7_pass_83 rfl rfl (Or.inl l9_41) rfl ?_
    refine gm_getR (o := 41) (ci := 7) (k := 12) (r := 49) (t := 87) l6_41 l9_41 s_41 gf_X7_31 rfl r_41_12 l9_49 dX7_pass_84 rfl ?_
    refine g_iload_n (i := 1) (t := 88) dX7_pass_87 rfl rfl rfl ?_
    refine gm_iald_n (a := 49) (n := 16) (t := 89) l6_49 l9_49 s_49 dX7_pass_88 (by omega) (by decide) rfl ?_
    rw [show I 49 l = nI (A.2.1 + A.2.2) by rw [hs.at 49 rfl]; exact b5]
    refine g_icmp_ge_n (t1 := 261) (t2 := 92) dX7_pass_89 (by decide) rfl (by omega) (by omega) (fun h89 => ?_) (fun h89 => ?_)
    · exact kk I [v7, v8, v9] hs zs zc
    · exfalso; omega
  | succ d ih =>
    intro k I v7 v8 v9 hk hs zs zc kk
    obtain ⟨y1, y2⟩ := z3 (A.2.1 + k) (by omega) (by omega)
    obtain ⟨x1, x2⟩ := b7 (A.2.1 + k) (by omega) (by omega)
    have hBI : mB I s A l := hB.keep hs rfl
    have i53 : I 53 (A.2.1 + k) = bI (z.1 (A.2.1 + k)).isSome := by rw [hs.at 53 rfl]; exact y1
    have i46 : I 46 (A.2.1 + k) = nI (A.1.2.2.2 (A.2.1 + k)) := by rw [hs.at 46 rfl]; exact x1
    have i49 : I 49 l = nI (A.2.1 + A.2.2) := by rw [hs.at 49 rfl]; exact b5
    have i57 : I 57 l = bI (grL A) := by rw [hs.at 57 rfl]; exact z2
    have p1 : A.2.1 ≤ A.2.1 + k := Nat.le_add_right _ _
    have p2 : A.2.1 + k < A.2.1 + A.2.2 := by omega
    by_cases ho : z.1 (A.2.1 + k) = none
    · have ewg : wgL A z (A.2.1 + k) = wgt s.2.1 (grL A) (A.1.2.2.2 (A.2.1 + k)) := by rw [wgL, if_pos ho, b8]
      have A1 := pt_b (t := ttL A z) (sh_b hV hz) (ws_b (z := z) hV (n := k + 1) (by omega)) (ws_b (z := z) hV (Nat.le_refl _)) (ws_le hV (by omega) (Nat.le_refl _))
      have A2 := pt_b (t := ttL A z) (sh_b hV hz) (ws_b (z := z) hV (n := k) (by omega)) (ws_b (z := z) hV (Nat.le_refl _)) (ws_le hV (by omega) (Nat.le_refl _))
      have egt : gtL A z (A.2.1 + k) = ptS (shL A z) (smS (wgL A z) A.2.1 (k + 1)) (ttL A z) - ptS (shL A z) (smS (wgL A z) A.2.1 k) (ttL A z) := by rw [gtL, Nat.add_sub_cancel_left]
      have ebase : ∀ J : Nat → Nat → Int32, J 42 = I0 42 → J 42 (11 * A.1.2.2.2 (A.2.1 + k) + 0) = A.1.1 (A.1.2.2.2 (A.2.1 + k)) 0 := fun J e => by rw [e, b8]; exact b1.2.1 _ 0 x2 (by decide)
      have T190 : ∀ v w7 w8 : Int32, v = (if grL A then gtL A z (A.2.1 + k) else -gtL A z (A.2.1 + k)) → ∀ v9 : Value, Wp E fX7_pass 62 190 [.ref 41, .int (nI l), .int (shL A z), .int (ttL A z), .int (smS (wgL A z) A.2.1 (k + 1)), .int (smS (coG A z) A.2.1 k), .int (nI (A.2.1 + k)), .int w7, .int w8, v9] [.int v, .int (A.1.1 (A.1.2.2.2 (A.2.1 + k)) 0), .int (nI (A.2.1 + k)), .ref 50] (gM I h) K := by
        intro v w7 w8 hv v9
        have e42 : ∀ u : Int32, (gup I 50 (A.2.1 + k) u) 42 = I0 42 := fun u => by rw [gup_rowo _ _ _ (by decide)]; exact hs.at 42 rfl
        have hs1 : ∀ u : Int32, gSame [50, 51] I0 (gup I 50 (A.2.1 + k) u) := fun u => hs.up rfl
        refine g_iadd (t := 191) dX7_pass_190 rfl ?_
        refine g_top (y := nzL A z (A.2.1 + k)) (by rw [hv]; rfl) ?_
        refine gm_iast_n (a := 50) (n := 16) (t := 192) l6_50 l9_50 s_50 dX7_pass_191 (by omega) (by decide) rfl ?_
        refine g_aload_n (i := 0) (r := 41) (t := 193) dX7_pass_192 rfl rfl (Or.inl l9_41) rfl ?_
        refine gm_getR (o := 41) (ci := 7) (k := 15) (r := 51) (t := 196) l6_41 l9_41 s_41 gf_X7_37 rfl r_41_15 l9_51 dX7_pass_193 rfl ?_
        refine g_iload (i := 6) (t := 198) dX7_pass_196 rfl rfl ?_
        refine g_aload_n (i := 0) (r := 41) (t := 199) dX7_pass_198 rfl rfl (Or.inl l9_41) rfl ?_
        refine gm_getR (o := 41) (ci := 7) (k := 14) (r := 50) (t := 202) l6_41 l9_41 s_41 gf_X7_34 rfl r_41_14 l9_50 dX7_pass_199 rfl ?_
        refine g_iload (i := 6) (t := 204) dX7_pass_202 rfl rfl ?_
        refine gm_iald_n (a := 50) (n := 16) (t := 205) l6_50 l9_50 s_50 dX7_pass_204 (by omega) (by decide) rfl ?_
        rw [gup_self]
        refine g_aload_n (i := 0) (r := 41) (t := 206) dX7_pass_205 rfl rfl (Or.inl l9_41) rfl ?_
        refine g_aload_n (i := 0) (r := 41) (t := 207) dX7_pass_206 rfl rfl (Or.inl l9_41) rfl ?_
        refine gm_getR (o := 41) (ci := 7) (k := 8) (r := 46) (t := 210) l6_41 l9_41 s_41 gf_X7_22 rfl r_41_8 l9_46 dX7_pass_207 rfl ?_
        refine g_iload (i := 6) (t := 212) dX7_pass_210 rfl rfl ?_
        refine gm_iald_n (a := 46) (n := 16) (t := 213) l6_46 l9_46 s_46 dX7_pass_212 (by omega) (by decide) rfl ?_
        rw [gup_o _ _ _ _ (by decide), i46]
        refine g_iconst (t := 214) dX7_pass_213 c_iconst_3 rfl ?_
        refine g_cVp (o := 41) (t := 217) mX7_of k_X7_157 imX7_of seX7_of l6_41 l9_41 s_41 rfl dX7_pass_214 (x7_of (by omega) (by omega)) rfl rfl (by decide) (by decide) (Nat.le_of_ble_eq_true rfl) rfl ?_
        rw [show (gup I 50 (A.2.1 + k) (nzL A z (A.2.1 + k))) 42 (11 * A.1.2.2.2 (A.2.1 + k) + 3) = A.1.1 (A.1.2.2.2 (A.2.1 + k)) 3 by rw [e42, b8]; exact b1.2.1 _ 3 x2 (by decide)]
        refine g_cSp (t := 220) mX7_greater k_X7_167 smX7_greater dX7_pass_217 (x7_greater) rfl rfl (by decide) (by decide) (Nat.le_of_ble_eq_true rfl) rfl ?_
        refine g_aload_n (i := 0) (r := 41) (t := 221) dX7_pass_220 rfl rfl (Or.inl l9_41) rfl ?_
        refine g_aload_n (i := 0) (r := 41) (t := 222) dX7_pass_221 rfl rfl (Or.inl l9_41) rfl ?_
        refine gm_getR (o := 41) (ci := 7) (k := 8) (r := 46) (t := 225) l6_41 l9_41 s_41 gf_X7_22 rfl r_41_8 l9_46 dX7_pass_222 rfl ?_
        refine g_iload (i := 6) (t := 227) dX7_pass_225 rfl rfl ?_
        refine gm_iald_n (a := 46) (n := 16) (t := 228) l6_46 l9_46 s_46 dX7_pass_227 (by omega) (by decide) rfl ?_
        rw [gup_o _ _ _ _ (by decide), i46]
        refine g_cVp (o := 41) (t := 231) mX7_greatest k_X7_170 imX7_greatest seX7_greatest l6_41 l9_41 s_41 rfl dX7_pass_228 (x7_greatest (s := s) (b1.keep (e42 _)) b2 x2) rfl rfl (by decide) (by decide) (Nat.le_of_ble_eq_true rfl) rfl ?_
        refine g_cSp (t := 234) mX7_lesser k_X7_173 smX7_lesser dX7_pass_231 (x7_lesser) rfl rfl (by decide) (by decide) (Nat.le_of_ble_eq_true rfl) rfl ?_
        refine g_top (y := czL A z (A.2.1 + k)) (by rw [czL, b8]) ?_
        refine gm_iast_n (a := 51) (n := 16) (t := 235) l6_51 l9_51 s_51 dX7_pass_234 (by omega) (by decide) rfl ?_
        refine g_iload (i := 5) (t := 237) dX7_pass_235 rfl rfl ?_
        refine g_aload_n (i := 0) (r := 41) (t := 238) dX7_pass_237 rfl rfl (Or.inl l9_41) rfl ?_
        refine gm_getR (o := 41) (ci := 7) (k := 15) (r := 51) (t := 241) l6_41 l9_41 s_41 gf_X7_37 rfl r_41_15 l9_51 dX7_pass_238 rfl ?_
        refine g_iload (i := 6) (t := 243) dX7_pass_241 rfl rfl ?_
        refine gm_iald_n (a := 51) (n := 16) (t := 244) l6_51 l9_51 s_51 dX7_pass_243 (by omega) (by decide) rfl ?_
        rw [gup_self]
        refine g_aload_n (i := 0) (r := 41) (t := 245) dX7_pass_244 rfl rfl (Or.inl l9_41) rfl ?_
        refine gm_getR (o := 41) (ci := 7) (k := 14) (r := 50) (t := 248) l6_41 l9_41 s_41 gf_X7_34 rfl r_41_14 l9_50 dX7_pass_245 rfl ?_
        refine g_iload (i := 6) (t := 250) dX7_pass_248 rfl rfl ?_
        refine gm_iald_n (a := 50) (n := 16) (t := 251) l6_50 l9_50 s_50 dX7_pass_250 (by omega) (by decide) rfl ?_
        rw [gup_o _ _ _ _ (by decide), gup_self]
        refine g_isub (t := 252) dX7_pass_251 rfl ?_
        refine g_iadd (t := 253) dX7_pass_252 rfl ?_
        refine g_top (y := smS (coG A z) A.2.1 (k + 1)) (by rw [smS, coG, if_pos ho]; rfl) ?_
        refine g_istore (i := 5) (t := 255) (L1 := [_, _, _, _, _, _, _, _, _, _]) dX7_pass_253 (by decide) rfl rfl rfl ?_
        refine g_iinc (i := 6) (t := 258) (L1 := [_, _, _, _, _, _, _, _, _, _]) dX7_pass_255 rfl (gi_1 _) (by decide) rfl rfl rfl ?_
        refine g_goto (t := 81) dX7_pass_258 (by decide) ?_
        refine ih (k + 1) _ _ _ _ (by omega) ((hs1 _).up rfl) ((zs.next p1 (by rw [szG, if_pos ho])).keep (gup_rowo _ _ _ (by decide))) (fun q q1 q2 q3 => ?_) kk
        rw [gup_at]
        by_cases y : q = A.2.1 + k
        · rw [if_pos y, y]
        · rw [if_neg y, gup_o _ _ _ _ (by decide)]; exact zc q q1 (by omega) q3
      have T153 : ∀ v w7 w8 : Int32, v = gtL A z (A.2.1 + k) → Wp E fX7_pass 62 153 [.ref 41, .int (nI l), .int (shL A z), .int (ttL A z), .int (smS (wgL A z) A.2.1 (k + 1)), .int (smS (coG A z) A.2.1 k), .int (nI (A.2.1 + k)), .int w7, .int w8, v9] [.int v] (gM I h) K := by
        intro v w7 w8 hv
        refine g_istore (i := 9) (t := 155) (L1 := [_, _, _, _, _, _, _, _, _, _]) dX7_pass_153 (by decide) rfl rfl rfl ?_
        refine g_aload_n (i := 0) (r := 41) (t := 156) dX7_pass_155 rfl rfl (Or.inl l9_41) rfl ?_
        refine gm_getR (o := 41) (ci := 7) (k := 14) (r := 50) (t := 159) l6_41 l9_41 s_41 gf_X7_34 rfl r_41_14 l9_50 dX7_pass_156 rfl ?_
        refine g_iload (i := 6) (t := 161) dX7_pass_159 rfl rfl ?_
        refine g_aload_n (i := 0) (r := 41) (t := 162) dX7_pass_161 rfl rfl (Or.inl l9_41) rfl ?_
        refine g_aload_n (i := 0) (r := 41) (t := 163) dX7_pass_162 rfl rfl (Or.inl l9_41) rfl ?_
        refine gm_getR (o := 41) (ci := 7) (k := 8) (r := 46) (t := 166) l6_41 l9_41 s_41 gf_X7_22 rfl r_41_8 l9_46 dX7_pass_163 rfl ?_
        refine g_iload (i := 6) (t := 168) dX7_pass_166 rfl rfl ?_
        refine gm_iald_n (a := 46) (n := 16) (t := 169) l6_46 l9_46 s_46 dX7_pass_168 (by omega) (by decide) rfl ?_
        rw [i46]
        refine g_iconst (t := 170) dX7_pass_169 c_iconst_0 rfl ?_
        refine g_cVp (o := 41) (t := 173) mX7_of k_X7_157 imX7_of seX7_of l6_41 l9_41 s_41 rfl dX7_pass_170 (x7_of (by omega) (by omega)) rfl rfl (by decide) (by decide) (Nat.le_of_ble_eq_true rfl) rfl ?_
        rw [ebase I (hs.at 42 rfl)]
        refine g_aload_n (i := 0) (r := 41) (t := 174) dX7_pass_173 rfl rfl (Or.inl l9_41) rfl ?_
        refine gm_getR (o := 41) (ci := 7) (k := 21) (r := 57) (t := 177) l6_41 l9_41 s_41 gf_X7_56 rfl r_41_21 l9_57 dX7_pass_174 rfl ?_
        refine g_iload_n (i := 1) (t := 178) dX7_pass_177 rfl rfl rfl ?_
        refine gm_zald_n (a := 57) (n := 16) (t := 179) l6_57 l9_57 s_57 dX7_pass_178 (by omega) (by decide) rfl ?_
        rw [i57]
        refine g_if_eq (t1 := 187) (t2 := 182) dX7_pass_179 (by decide) rfl (fun h179 => ?_) (fun h179 => ?_)
        · refine g_iload (i := 9) (t := 189) dX7_pass_187 rfl rfl ?_
          refine g_ineg (t := 190) dX7_pass_189 rfl ?_
          first
          | exact T190 _ _ _ (by rw [hv, if_neg (by rw [bI_0 h179]; decide)]) _
          | exact T190 _ _ _ (by rw [hv, if_pos (bI_n0 h179)]) _
        · refine g_iload (i := 9) (t := 184) dX7_pass_182 rfl rfl ?_
          refine g_goto (t := 190) dX7_pass_184 (by decide) ?_
          first
          | exact T190 _ _ _ (by rw [hv, if_neg (by rw [bI_0 h179]; decide)]) _
          | exact T190 _ _ _ (by rw [hv, if_pos (bI_n0 h179)]) _
      refine g_iload (i := 6) (t := 83) dX7_pass_81 rfl rfl ?_
      refine g_aload_n (i := 0) (r := 41) (t := 84) dX7_pass_83 rfl rfl (Or.inl l9_41) rfl ?_
      refine gm_getR (o := 41) (ci := 7) (k := 12) (r := 49) (t := 87) l6_41 l9_41 s_41 gf_X7_31 rfl r_41_12 l9_49 dX7_pass_84 rfl ?_
      refine g_iload_n (i := 1) (t := 88) dX7_pass_87 rfl rfl rfl ?_
      refine gm_iald_n (a := 49) (n := 16) (t := 89) l6_49 l9_49 s_49 dX7_pass_88 (by omega) (by decide) rfl ?_
      rw [i49]
      refine g_icmp_ge_n (t1 := 261) (t2 := 92) dX7_pass_89 (by decide) rfl (by omega) (by omega) (fun h89 => ?_) (fun h89 => ?_)
      · exfalso; omega
      · refine g_aload_n (i := 0) (r := 41) (t := 93) dX7_pass_92 rfl rfl (Or.inl l9_41) rfl ?_
        refine gm_getR (o := 41) (ci := 7) (k := 17) (r := 53) (t := 96) l6_41 l9_41 s_41 gf_X7_43 rfl r_41_17 l9_53 dX7_pass_93 rfl ?_
        refine g_iload (i := 6) (t := 98) dX7_pass_96 rfl rfl ?_
        refine gm_zald_n (a := 53) (n := 16) (t := 99) l6_53 l9_53 s_53 dX7_pass_98 (by omega) (by decide) rfl ?_
        rw [i53, sm_none.mpr ho]
        refine g_if_ne (t1 := 255) (t2 := 102) dX7_pass_99 (by decide) rfl (fun h99 => ?_) (fun h99 => ?_)
        · exact absurd rfl h99
        · refine g_aload_n (i := 0) (r := 41) (t := 103) dX7_pass_102 rfl rfl (Or.inl l9_41) rfl ?_
          refine g_aload_n (i := 0) (r := 41) (t := 104) dX7_pass_103 rfl rfl (Or.inl l9_41) rfl ?_
          refine gm_getR (o := 41) (ci := 7) (k := 8) (r := 46) (t := 107) l6_41 l9_41 s_41 gf_X7_22 rfl r_41_8 l9_46 dX7_pass_104 rfl ?_
          refine g_iload (i := 6) (t := 109) dX7_pass_107 rfl rfl ?_
          refine gm_iald_n (a := 46) (n := 16) (t := 110) l6_46 l9_46 s_46 dX7_pass_109 (by omega) (by decide) rfl ?_
          rw [i46]
          refine g_aload_n (i := 0) (r := 41) (t := 111) dX7_pass_110 rfl rfl (Or.inl l9_41) rfl ?_
          refine gm_getR (o := 41) (ci := 7) (k := 21) (r := 57) (t := 114) l6_41 l9_41 s_41 gf_X7_56 rfl r_41_21 l9_57 dX7_pass_111 rfl ?_
          refine g_iload_n (i := 1) (t := 115) dX7_pass_114 rfl rfl rfl ?_
          refine gm_zald_n (a := 57) (n := 16) (t := 116) l6_57 l9_57 s_57 dX7_pass_115 (by omega) (by decide) rfl ?_
          rw [i57]
          refine g_cVp (o := 41) (t := 119) mX7_weight k_X7_191 imX7_weight seX7_weight l6_41 l9_41 s_41 rfl dX7_pass_116 (x7_weight hBI.1 b2 x2) rfl rfl (by decide) (by decide) (Nat.le_of_ble_eq_true rfl) rfl ?_
          refine g_istore (i := 7) (t := 121) (L1 := [_, _, _, _, _, _, _, _, _, _]) dX7_pass_119 (by decide) rfl rfl rfl ?_
          refine g_iload (i := 4) (t := 123) dX7_pass_121 rfl rfl ?_
          refine g_istore (i := 8) (t := 125) (L1 := [_, _, _, _, _, _, _, _, _, _]) dX7_pass_123 (by decide) rfl rfl rfl ?_
          refine g_iload (i := 4) (t := 127) dX7_pass_125 rfl rfl ?_
          refine g_iload (i := 7) (t := 129) dX7_pass_127 rfl rfl ?_
          refine g_iadd (t := 130) dX7_pass_129 rfl ?_
          refine g_top (y := smS (wgL A z) A.2.1 (k + 1)) (by rw [smS, ewg]) ?_
          refine g_istore (i := 4) (t := 132) (L1 := [_, _, _, _, _, _, _, _, _, _]) dX7_pass_130 (by decide) rfl rfl rfl ?_
          refine g_iload_n (i := 3) (t := 133) dX7_pass_132 rfl rfl rfl ?_
          refine g_if_ne (t1 := 140) (t2 := 136) dX7_pass_133 (by decide) rfl (fun h133 => ?_) (fun h133 => ?_)
          · refine g_iload_n (i := 2) (t := 141) dX7_pass_140 rfl rfl rfl ?_
            refine g_iload (i := 4) (t := 143) dX7_pass_141 rfl rfl ?_
            refine g_imul (t := 144) dX7_pass_143 rfl ?_
            refine g_iload_n (i := 3) (t := 145) dX7_pass_144 rfl rfl rfl ?_
            refine g_idiv (t := 146) dX7_pass_145 (by assumption) rfl ?_
            refine g_iload_n (i := 2) (t := 147) dX7_pass_146 rfl rfl rfl ?_
            refine g_iload (i := 8) (t := 149) dX7_pass_147 rfl rfl ?_
            refine g_imul (t := 150) dX7_pass_149 rfl ?_
            refine g_iload_n (i := 3) (t := 151) dX7_pass_150 rfl rfl rfl ?_
            refine g_idiv (t := 152) dX7_pass_151 (by assumption) rfl ?_
            refine g_isub (t := 153) dX7_pass_152 rfl ?_
            first
            | exact T153 _ _ _ (by rw [egt, A1.2.1 h133, A2.2.1 h133])
            | exact T153 _ _ _ (by rw [egt, A1.2.2 h133, A2.2.2 h133, nI_0, Int32.sub_zero])
          · refine g_iconst (t := 137) dX7_pass_136 c_iconst_0 rfl ?_
            refine g_goto (t := 153) dX7_pass_137 (by decide) ?_
            first
            | exact T153 _ _ _ (by rw [egt, A1.2.1 h133, A2.2.1 h133])
            | exact T153 _ _ _ (by rw [egt, A1.2.2 h133, A2.2.2 h133, nI_0, Int32.sub_zero])
    · refine g_iload (i := 6) (t := 83) dX7_pass_81 rfl rfl ?_
      refine g_aload_n (i := 0) (r := 41) (t := 84) dX7_pass_83 rfl rfl (Or.inl l9_41) rfl ?_
      refine gm_getR (o := 41) (ci := 7) (k := 12) (r := 49) (t := 87) l6_41 l9_41 s_41 gf_X7_31 rfl r_41_12 l9_49 dX7_pass_84 rfl ?_
      refine g_iload_n (i := 1) (t := 88) dX7_pass_87 rfl rfl rfl ?_
      refine gm_iald_n (a := 49) (n := 16) (t := 89) l6_49 l9_49 s_49 dX7_pass_88 (by omega) (by decide) rfl ?_
      rw [i49]
      refine g_icmp_ge_n (t1 := 261) (t2 := 92) dX7_pass_89 (by decide) rfl (by omega) (by omega) (fun h89 => ?_) (fun h89 => ?_)
      · exfalso; omega
      · refine g_aload_n (i := 0) (r := 41) (t := 93) dX7_pass_92 rfl rfl (Or.inl l9_41) rfl ?_
        refine gm_getR (o := 41) (ci := 7) (k := 17) (r := 53) (t := 96) l6_41 l9_41 s_41 gf_X7_43 rfl r_41_17 l9_53 dX7_pass_93 rfl ?_
        refine g_iload (i := 6) (t := 98) dX7_pass_96 rfl rfl ?_
        refine gm_zald_n (a := 53) (n := 16) (t := 99) l6_53 l9_53 s_53 dX7_pass_98 (by omega) (by decide) rfl ?_
        rw [i53, sm_some.mpr ho]
        refine g_if_ne (t1 := 255) (t2 := 102) dX7_pass_99 (by decide) rfl (fun h99 => ?_) (fun h99 => ?_)
        · refine g_iinc (i := 6) (t := 258) (L1 := [_, _, _, _, _, _, _, _, _, _]) dX7_pass_255 rfl (gi_1 _) (by decide) rfl rfl rfl ?_
          refine g_goto (t := 81) dX7_pass_258 (by decide) ?_
          refine Wp.eq rfl ?_ rfl rfl (ih (k + 1) I v7 v8 v9 (by omega) hs (zs.skip p1 (by rw [szG, if_neg ho]; exact (y2 ho).1)) (fun q q1 q2 q3 => ?_) kk)
          · rw [smS, smS, wgL, coG, if_neg ho, if_neg ho, add_n0, add_n0]; rfl
          · by_cases y : q = A.2.1 + k
            · subst y; exact absurd q3 ho
            · exact zc q q1 (by omega) q3
        · exact absurd h99 (by decide)
theorem x7_ps_fr (hl : l < 16) {J : Nat → Nat → Int32} (h6 : A.2.1 + A.2.2 ≤ 16) (h5 : J 49 l = nI (A.2.1 + A.2.2)) (ht : J 56 l = nI t) (hV : aV A) (hz : zV A z) (hZ : ∀ p, A.2.1 ≤ p → p < A.2.1 + A.2.2 → J 53 p = bI (z.1 p).isSome ∧ J 50 p = szG A z p ∧ (z.1 p ≠ none → J 52 p = ovS (z.1 p)) ∧ (z.1 p = none → J 51 p = czL A z p)) {w2 w3 w4 : Int32} {K : gK} : ∀ (d k : Nat) (I : Nat → Nat → Int32) (v7 : Value), k + d = A.2.2 → gSame [50, 52, 53] J I → (∀ q, A.2.1 + k ≤ q → I 50 q = J 50 q ∧ I 52 q = J 52 q ∧ I 53 q = J 53 q) → (∀ q, A.2.1 ≤ q → q < A.2.1 + k → I 53 q = bI ((nxL A z t).1 q).isSome ∧ ((nxL A z t).1 q ≠ none → I 50 q = (nxL A z t).2 q ∧ I 52 q = ovS ((nxL A z t).1 q))) → outU I J A 50 → outU I J A 52 → outU I J A 53 →
    (∀ I L, gSame [50, 52, 53] J I → (∀ q, A.2.1 ≤ q → q < A.2.1 + A.2.2 → I 53 q = bI ((nxL A z t).1 q).isSome ∧ ((nxL A z t).1 q ≠ none → I 50 q = (nxL A z t).2 q ∧ I 52 q = ovS ((nxL A z t).1 q))) → outU I J A 50 → outU I J A 52 → outU I J A 53 → Wp E fX7_pass 62 392 L [] (gM I h) K) →
    Wp E fX7_pass 62 269 [.ref 41, .int (nI l), .int w2, .int w3, .int w4, .int (wrL A z), .int (nI (A.2.1 + k)), v7, .null, .null] [] (gM I h) K := by
  intro d
  induction d with
  | zero =>
    intro k I v7 hk hs hr hq o1 o2 o3 kk
    have hk : k = A.2.2 := by omega
    subst hk
    refine g_iload (i := 6) (t := 271) dX7_pass_269 rfl rfl ?_
    refine g_aload_n (i := 0) (r := 41) (t := 272) dX7_pass_271 rfl rfl (Or.inl l9_41) rfl ?_
    refine gm_getR (o := 41) (ci := 7) (k := 12) (r := 49) (t := 275) l6_41 l9_41 s_41 gf_X7_31 rfl r_41_12 l9_49 dX7_pass_272 rfl ?_
    refine g_iload_n (i := 1) (t := 276) dX7_pass_275 rfl rfl rfl ?_
    refine gm_iald_n (a := 49) (n := 16) (t := 277) l6_49 l9_49 s_49 dX7_pass_276 (by omega) (by decide) rfl ?_
    rw [show I 49 l = nI (A.2.1 + A.2.2) by rw [hs.at 49 rfl]; exact h5]
    refine g_icmp_ge_n (t1 := 392) (t2 := 280) dX7_pass_277 (by decide) rfl (by omega) (by omega) (fun h277 => ?_) (fun h277 => ?_)
    · exact kk I _ hs hq o1 o2 o3
    · exfalso; omega
  | succ d ih =>
    intro k I v7 hk hs hr hq o1 o2 o3 kk
    have p1 : A.2.1 ≤ A.2.1 + k := Nat.le_add_right _ _
    have p2 : A.2.1 + k < A.2.1 + A.2.2 := by omega
    obtain ⟨y1, y2, y3, y4⟩ := hZ (A.2.1 + k) p1 p2
    obtain ⟨r1, r2, r3⟩ := hr (A.2.1 + k) (Nat.le_refl _)
    have i49 : I 49 l = nI (A.2.1 + A.2.2) := by rw [hs.at 49 rfl]; exact h5
    have i53 : I 53 (A.2.1 + k) = bI (z.1 (A.2.1 + k)).isSome := r3.trans y1
    have i50 : I 50 (A.2.1 + k) = szG A z (A.2.1 + k) := r1.trans y2
    have i56 : I 56 l = nI t := by rw [hs.at 56 rfl]; exact ht
    -- nothing is done
    have T386 : (nxL A z t).1 (A.2.1 + k) = z.1 (A.2.1 + k) → (z.1 (A.2.1 + k) ≠ none → (nxL A z t).2 (A.2.1 + k) = szG A z (A.2.1 + k)) → ∀ v7, Wp E fX7_pass 62 386 [.ref 41, .int (nI l), .int w2, .int w3, .int w4, .int (wrL A z), .int (nI (A.2.1 + k)), v7, .null, .null] [] (gM I h) K := by
      intro e1 e2 v7
      refine g_iinc (i := 6) (t := 389) (L1 := [_, _, _, _, _, _, _, _, _, _]) dX7_pass_386 rfl (gi_1 _) (by decide) rfl rfl rfl ?_
      refine g_goto (t := 269) dX7_pass_389 (by decide) ?_
      refine ih (k + 1) I v7 (by omega) hs (fun q a => hr q (by omega)) (fun q a b => ?_) o1 o2 o3 kk
      by_cases y : q = A.2.1 + k
      · subst y
        rw [e1]
        exact ⟨i53, fun u => ⟨by rw [e2 u]; exact i50, r2.trans (y3 u)⟩⟩
      · exact hq q a (by omega)
    by_cases ho : z.1 (A.2.1 + k) = none
    · have e51 : I 51 (A.2.1 + k) = czL A z (A.2.1 + k) := by rw [hs.at 51 rfl]; exact y4 ho
      have e50 : I 50 (A.2.1 + k) = nzL A z (A.2.1 + k) := by rw [i50, szG, if_pos ho]
      have hcr := (cr_b hV hz p1 p2).2
      have z0 : (0 : Int32).toInt = 0 := by decide +kernel
      have c1 : 0 < crL A z (A.2.1 + k) ↔ nzL A z (A.2.1 + k) < czL A z (A.2.1 + k) := by rw [t_lt, t_lt, hcr, z0]; omega
      have c2 : crL A z (A.2.1 + k) < 0 ↔ czL A z (A.2.1 + k) < nzL A z (A.2.1 + k) := by rw [t_lt, t_lt, hcr, z0]; omega
      have en : (nxL A z t).1 (A.2.1 + k) = if fzL A z (A.2.1 + k) then some t else none := if_pos ho
      have en2 : (nxL A z t).2 (A.2.1 + k) = czL A z (A.2.1 + k) := if_pos ho
      have T334 : ∀ b : Bool, (b = true ↔ (wrL A z = 0 ∨ (0 < wrL A z ∧ 0 < crL A z (A.2.1 + k)) ∨ (wrL A z < 0 ∧ crL A z (A.2.1 + k) < 0))) → Wp E fX7_pass 62 334 [.ref 41, .int (nI l), .int w2, .int w3, .int w4, .int (wrL A z), .int (nI (A.2.1 + k)), v7, .null, .null] [.int (bI b)] (gM I h) K := by
        intro b hb
        have hfz : fzL A z (A.2.1 + k) = b := by
          cases b with
          | true => exact decide_eq_true (hb.mp rfl)
          | false => exact decide_eq_false (fun q => absurd (hb.mpr q) (by decide))
        rw [hfz] at en
        refine g_istore (i := 7) (t := 336) (L1 := [_, _, _, _, _, _, _, _, _, _]) dX7_pass_334 (by decide) rfl rfl rfl ?_
        refine g_aload_n (i := 0) (r := 41) (t := 337) dX7_pass_336 rfl rfl (Or.inl l9_41) rfl ?_
        refine gm_getR (o := 41) (ci := 7) (k := 17) (r := 53) (t := 340) l6_41 l9_41 s_41 gf_X7_43 rfl r_41_17 l9_53 dX7_pass_337 rfl ?_
        refine g_iload (i := 6) (t := 342) dX7_pass_340 rfl rfl ?_
        refine gm_zald_n (a := 53) (n := 16) (t := 343) l6_53 l9_53 s_53 dX7_pass_342 (by omega) (by decide) rfl ?_
        rw [i53, sm_none.mpr ho]
        refine g_if_ne (t1 := 386) (t2 := 346) dX7_pass_343 (by decide) rfl (fun h343 => ?_) (fun h343 => ?_)
        · exact absurd rfl h343
        · refine g_iload (i := 7) (t := 348) dX7_pass_346 rfl rfl ?_
          refine g_if_eq (t1 := 386) (t2 := 351) dX7_pass_348 (by decide) rfl (fun h348 => ?_) (fun h348 => ?_)
          · have hbf := bI_0 h348
            rw [hbf, if_neg (by decide)] at en
            exact T386 (en.trans ho.symm) (fun u => absurd ho u) _
          · have hbt := bI_n0 h348
            rw [hbt, if_pos rfl] at en
            refine g_aload_n (i := 0) (r := 41) (t := 352) dX7_pass_351 rfl rfl (Or.inl l9_41) rfl ?_
            refine gm_getR (o := 41) (ci := 7) (k := 17) (r := 53) (t := 355) l6_41 l9_41 s_41 gf_X7_43 rfl r_41_17 l9_53 dX7_pass_352 rfl ?_
            refine g_iload (i := 6) (t := 357) dX7_pass_355 rfl rfl ?_
            refine g_iconst (t := 358) dX7_pass_357 c_iconst_1 rfl ?_
            refine gm_zast_n (a := 53) (n := 16) (t := 359) l6_53 l9_53 s_53 (by decide +kernel) dX7_pass_358 (by omega) (by decide) rfl ?_
            refine g_aload_n (i := 0) (r := 41) (t := 360) dX7_pass_359 rfl rfl (Or.inl l9_41) rfl ?_
            refine gm_getR (o := 41) (ci := 7) (k := 14) (r := 50) (t := 363) l6_41 l9_41 s_41 gf_X7_34 rfl r_41_14 l9_50 dX7_pass_360 rfl ?_
            refine g_iload (i := 6) (t := 365) dX7_pass_363 rfl rfl ?_
            refine g_aload_n (i := 0) (r := 41) (t := 366) dX7_pass_365 rfl rfl (Or.inl l9_41) rfl ?_
            refine gm_getR (o := 41) (ci := 7) (k := 15) (r := 51) (t := 369) l6_41 l9_41 s_41 gf_X7_37 rfl r_41_15 l9_51 dX7_pass_366 rfl ?_
            refine g_iload (i := 6) (t := 371) dX7_pass_369 rfl rfl ?_
            refine gm_iald_n (a := 51) (n := 16) (t := 372) l6_51 l9_51 s_51 dX7_pass_371 (by omega) (by decide) rfl ?_
            rw [gup_o _ _ _ _ (by decide), e51]
            refine gm_iast_n (a := 50) (n := 16) (t := 373) l6_50 l9_50 s_50 dX7_pass_372 (by omega) (by decide) rfl ?_
            refine g_aload_n (i := 0) (r := 41) (t := 374) dX7_pass_373 rfl rfl (Or.inl l9_41) rfl ?_
            refine gm_getR (o := 41) (ci := 7) (k := 16) (r := 52) (t := 377) l6_41 l9_41 s_41 gf_X7_40 rfl r_41_16 l9_52 dX7_pass_374 rfl ?_
            refine g_iload (i := 6) (t := 379) dX7_pass_377 rfl rfl ?_
            refine g_aload_n (i := 0) (r := 41) (t := 380) dX7_pass_379 rfl rfl (Or.inl l9_41) rfl ?_
            refine gm_getR (o := 41) (ci := 7) (k := 20) (r := 56) (t := 383) l6_41 l9_41 s_41 gf_X7_53 rfl r_41_20 l9_56 dX7_pass_380 rfl ?_
            refine g_iload_n (i := 1) (t := 384) dX7_pass_383 rfl rfl rfl ?_
            refine gm_iald_n (a := 56) (n := 16) (t := 385) l6_56 l9_56 s_56 dX7_pass_384 (by omega) (by decide) rfl ?_
            rw [gup_o _ _ _ _ (by decide), gup_o _ _ _ _ (by decide), i56]
            refine gm_iast_n (a := 52) (n := 16) (t := 386) l6_52 l9_52 s_52 dX7_pass_385 (by omega) (by decide) rfl ?_
            refine g_iinc (i := 6) (t := 389) (L1 := [_, _, _, _, _, _, _, _, _, _]) dX7_pass_386 rfl (gi_1 _) (by decide) rfl rfl rfl ?_
            refine g_goto (t := 269) dX7_pass_389 (by decide) ?_
            refine ih (k + 1) _ _ (by omega) (((hs.up rfl).up rfl).up rfl) (fun q a => ?_) (fun q a b => ?_) ?_ ?_ ?_ kk
            · rw [gup_o _ _ _ _ (by decide), gup_k _ _ _ (by omega), gup_k _ _ _ (by omega), gup_o _ _ _ _ (by decide), gup_o _ _ _ _ (by decide), gup_o _ _ _ _ (by decide), gup_o _ _ _ _ (by decide), gup_o _ _ _ _ (by decide), gup_k _ _ _ (by omega)]
              exact hr q (by omega)
            · by_cases y : q = A.2.1 + k
              · subst y
                rw [en, en2]
                refine ⟨?_, fun _ => ⟨?_, ?_⟩⟩
                · rw [gup_o _ _ _ _ (by decide), gup_o _ _ _ _ (by decide), gup_self]; rfl
                · rw [gup_o _ _ _ _ (by decide), gup_self]
                · rw [gup_self]; rfl
              · rw [gup_o _ _ _ _ (by decide), gup_o _ _ _ _ (by decide), gup_k _ _ _ y, gup_o _ _ _ _ (by decide), gup_k _ _ _ y, gup_o _ _ _ _ (by decide), gup_k _ _ _ y, gup_o _ _ _ _ (by decide), gup_o _ _ _ _ (by decide)]
                exact hq q a (by omega)
            · exact ((o1.keep (gup_rowo _ _ _ (by decide))).up ⟨p1, p2⟩).keep (gup_rowo _ _ _ (by decide))
            · exact ((o2.keep (gup_rowo _ _ _ (by decide))).keep (gup_rowo _ _ _ (by decide))).up ⟨p1, p2⟩
            · exact ((o3.up ⟨p1, p2⟩).keep (gup_rowo _ _ _ (by decide))).keep (gup_rowo _ _ _ (by decide))
      refine g_iload (i := 6) (t := 271) dX7_pass_269 rfl rfl ?_
      refine g_aload_n (i := 0) (r := 41) (t := 272) dX7_pass_271 rfl rfl (Or.inl l9_41) rfl ?_
      refine gm_getR (o := 41) (ci := 7) (k := 12) (r := 49) (t := 275) l6_41 l9_41 s_41 gf_X7_31 rfl r_41_12 l9_49 dX7_pass_272 rfl ?_
      refine g_iload_n (i := 1) (t := 276) dX7_pass_275 rfl rfl rfl ?_
      refine gm_iald_n (a := 49) (n := 16) (t := 277) l6_49 l9_49 s_49 dX7_pass_276 (by omega) (by decide) rfl ?_
      rw [i49]
      refine g_icmp_ge_n (t1 := 392) (t2 := 280) dX7_pass_277 (by decide) rfl (by omega) (by omega) (fun h277 => ?_) (fun h277 => ?_)
      · exfalso; omega
      · refine g_iload (i := 5) (t := 282) dX7_pass_280 rfl rfl ?_
        refine g_if_eq (t1 := 329) (t2 := 285) dX7_pass_282 (by decide) rfl (fun h282 => ?_) (fun h282 => ?_)
        · refine g_iconst (t := 330) dX7_pass_329 c_iconst_1 rfl ?_
          refine g_goto (t := 334) dX7_pass_330 (by decide) ?_
          first
          | exact T334 true ⟨fun _ => Or.inl h282, fun _ => rfl⟩
          | exact T334 true ⟨fun _ => Or.inr (Or.inl ⟨i_gt h287, c1.mpr h304⟩), fun _ => rfl⟩
          | exact T334 true ⟨fun _ => Or.inr (Or.inr ⟨i_gt h309, c2.mpr (i_gt h326)⟩), fun _ => rfl⟩
          | refine T334 false ⟨fun q => absurd q (by decide), fun q => ?_⟩
            rcases q with q | ⟨q1, q2⟩ | ⟨q1, q2⟩
            · exact absurd q h282
            · first
              | exact absurd q1 (i_nlt h287)
              | exact absurd (c1.mp q2) h304
            · first
              | exact absurd q1 (i_nlt h309)
              | exact absurd (c2.mp q2) (i_nlt h326)
        · refine g_iload (i := 5) (t := 287) dX7_pass_285 rfl rfl ?_
          refine g_if_le (t1 := 307) (t2 := 290) dX7_pass_287 (by decide) rfl (fun h287 => ?_) (fun h287 => ?_)
          · refine g_iload (i := 5) (t := 309) dX7_pass_307 rfl rfl ?_
            refine g_if_ge (t1 := 333) (t2 := 312) dX7_pass_309 (by decide) rfl (fun h309 => ?_) (fun h309 => ?_)
            · refine g_iconst (t := 334) dX7_pass_333 c_iconst_0 rfl ?_
              first
              | exact T334 true ⟨fun _ => Or.inl h282, fun _ => rfl⟩
              | exact T334 true ⟨fun _ => Or.inr (Or.inl ⟨i_gt h287, c1.mpr h304⟩), fun _ => rfl⟩
              | exact T334 true ⟨fun _ => Or.inr (Or.inr ⟨i_gt h309, c2.mpr (i_gt h326)⟩), fun _ => rfl⟩
              | refine T334 false ⟨fun q => absurd q (by decide), fun q => ?_⟩
                rcases q with q | ⟨q1, q2⟩ | ⟨q1, q2⟩
                · exact absurd q h282
                · first
                  | exact absurd q1 (i_nlt h287)
                  | exact absurd (c1.mp q2) h304
                · first
                  | exact absurd q1 (i_nlt h309)
                  | exact absurd (c2.mp q2) (i_nlt h326)
            · refine g_aload_n (i := 0) (r := 41) (t := 313) dX7_pass_312 rfl rfl (Or.inl l9_41) rfl ?_
              refine gm_getR (o := 41) (ci := 7) (k := 15) (r := 51) (t := 316) l6_41 l9_41 s_41 gf_X7_37 rfl r_41_15 l9_51 dX7_pass_313 rfl ?_
              refine g_iload (i := 6) (t := 318) dX7_pass_316 rfl rfl ?_
              refine gm_iald_n (a := 51) (n := 16) (t := 319) l6_51 l9_51 s_51 dX7_pass_318 (by omega) (by decide) rfl ?_
              refine g_aload_n (i := 0) (r := 41) (t := 320) dX7_pass_319 rfl rfl (Or.inl l9_41) rfl ?_
              refine gm_getR (o := 41) (ci := 7) (k := 14) (r := 50) (t := 323) l6_41 l9_41 s_41 gf_X7_34 rfl r_41_14 l9_50 dX7_pass_320 rfl ?_
              refine g_iload (i := 6) (t := 325) dX7_pass_323 rfl rfl ?_
              refine gm_iald_n (a := 50) (n := 16) (t := 326) l6_50 l9_50 s_50 dX7_pass_325 (by omega) (by decide) rfl ?_
              rw [e51, e50]
              refine g_icmp_ge (t1 := 333) (t2 := 329) dX7_pass_326 (by decide) rfl (fun h326 => ?_) (fun h326 => ?_)
              · refine g_iconst (t := 334) dX7_pass_333 c_iconst_0 rfl ?_
                first
                | exact T334 true ⟨fun _ => Or.inl h282, fun _ => rfl⟩
                | exact T334 true ⟨fun _ => Or.inr (Or.inl ⟨i_gt h287, c1.mpr h304⟩), fun _ => rfl⟩
                | exact T334 true ⟨fun _ => Or.inr (Or.inr ⟨i_gt h309, c2.mpr (i_gt h326)⟩), fun _ => rfl⟩
                | refine T334 false ⟨fun q => absurd q (by decide), fun q => ?_⟩
                  rcases q with q | ⟨q1, q2⟩ | ⟨q1, q2⟩
                  · exact absurd q h282
                  · first
                    | exact absurd q1 (i_nlt h287)
                    | exact absurd (c1.mp q2) h304
                  · first
                    | exact absurd q1 (i_nlt h309)
                    | exact absurd (c2.mp q2) (i_nlt h326)
              · refine g_iconst (t := 330) dX7_pass_329 c_iconst_1 rfl ?_
                refine g_goto (t := 334) dX7_pass_330 (by decide) ?_
                first
                | exact T334 true ⟨fun _ => Or.inl h282, fun _ => rfl⟩
                | exact T334 true ⟨fun _ => Or.inr (Or.inl ⟨i_gt h287, c1.mpr h304⟩), fun _ => rfl⟩
                | exact T334 true ⟨fun _ => Or.inr (Or.inr ⟨i_gt h309, c2.mpr (i_gt h326)⟩), fun _ => rfl⟩
                | refine T334 false ⟨fun q => absurd q (by decide), fun q => ?_⟩
                  rcases q with q | ⟨q1, q2⟩ | ⟨q1, q2⟩
                  · exact absurd q h282
                  · first
                    | exact absurd q1 (i_nlt h287)
                    | exact absurd (c1.mp q2) h304
                  · first
                    | exact absurd q1 (i_nlt h309)
                    | exact absurd (c2.mp q2) (i_nlt h326)
          · refine g_aload_n (i := 0) (r := 41) (t := 291) dX7_pass_290 rfl rfl (Or.inl l9_41) rfl ?_
            refine gm_getR (o := 41) (ci := 7) (k := 15) (r := 51) (t := 294) l6_41 l9_41 s_41 gf_X7_37 rfl r_41_15 l9_51 dX7_pass_291 rfl ?_
            refine g_iload (i := 6) (t := 296) dX7_pass_294 rfl rfl ?_
            refine gm_iald_n (a := 51) (n := 16) (t := 297) l6_51 l9_51 s_51 dX7_pass_296 (by omega) (by decide) rfl ?_
            refine g_aload_n (i := 0) (r := 41) (t := 298) dX7_pass_297 rfl rfl (Or.inl l9_41) rfl ?_
            refine gm_getR (o := 41) (ci := 7) (k := 14) (r := 50) (t := 301) l6_41 l9_41 s_41 gf_X7_34 rfl r_41_14 l9_50 dX7_pass_298 rfl ?_
            refine g_iload (i := 6) (t := 303) dX7_pass_301 rfl rfl ?_
            refine gm_iald_n (a := 50) (n := 16) (t := 304) l6_50 l9_50 s_50 dX7_pass_303 (by omega) (by decide) rfl ?_
            rw [e51, e50]
            refine g_icmp_gt (t1 := 329) (t2 := 307) dX7_pass_304 (by decide) rfl (fun h304 => ?_) (fun h304 => ?_)
            · refine g_iconst (t := 330) dX7_pass_329 c_iconst_1 rfl ?_
              refine g_goto (t := 334) dX7_pass_330 (by decide) ?_
              first
              | exact T334 true ⟨fun _ => Or.inl h282, fun _ => rfl⟩
              | exact T334 true ⟨fun _ => Or.inr (Or.inl ⟨i_gt h287, c1.mpr h304⟩), fun _ => rfl⟩
              | exact T334 true ⟨fun _ => Or.inr (Or.inr ⟨i_gt h309, c2.mpr (i_gt h326)⟩), fun _ => rfl⟩
              | refine T334 false ⟨fun q => absurd q (by decide), fun q => ?_⟩
                rcases q with q | ⟨q1, q2⟩ | ⟨q1, q2⟩
                · exact absurd q h282
                · first
                  | exact absurd q1 (i_nlt h287)
                  | exact absurd (c1.mp q2) h304
                · first
                  | exact absurd q1 (i_nlt h309)
                  | exact absurd (c2.mp q2) (i_nlt h326)
            · refine g_iload (i := 5) (t := 309) dX7_pass_307 rfl rfl ?_
              refine g_if_ge (t1 := 333) (t2 := 312) dX7_pass_309 (by decide) rfl (fun h309 => ?_) (fun h309 => ?_)
              · refine g_iconst (t := 334) dX7_pass_333 c_iconst_0 rfl ?_
                first
                | exact T334 true ⟨fun _ => Or.inl h282, fun _ => rfl⟩
                | exact T334 true ⟨fun _ => Or.inr (Or.inl ⟨i_gt h287, c1.mpr h304⟩), fun _ => rfl⟩
                | exact T334 true ⟨fun _ => Or.inr (Or.inr ⟨i_gt h309, c2.mpr (i_gt h326)⟩), fun _ => rfl⟩
                | refine T334 false ⟨fun q => absurd q (by decide), fun q => ?_⟩
                  rcases q with q | ⟨q1, q2⟩ | ⟨q1, q2⟩
                  · exact absurd q h282
                  · first
                    | exact absurd q1 (i_nlt h287)
                    | exact absurd (c1.mp q2) h304
                  · first
                    | exact absurd q1 (i_nlt h309)
                    | exact absurd (c2.mp q2) (i_nlt h326)
              · refine g_aload_n (i := 0) (r := 41) (t := 313) dX7_pass_312 rfl rfl (Or.inl l9_41) rfl ?_
                refine gm_getR (o := 41) (ci := 7) (k := 15) (r := 51) (t := 316) l6_41 l9_41 s_41 gf_X7_37 rfl r_41_15 l9_51 dX7_pass_313 rfl ?_
                refine g_iload (i := 6) (t := 318) dX7_pass_316 rfl rfl ?_
                refine gm_iald_n (a := 51) (n := 16) (t := 319) l6_51 l9_51 s_51 dX7_pass_318 (by omega) (by decide) rfl ?_
                refine g_aload_n (i := 0) (r := 41) (t := 320) dX7_pass_319 rfl rfl (Or.inl l9_41) rfl ?_
                refine gm_getR (o := 41) (ci := 7) (k := 14) (r := 50) (t := 323) l6_41 l9_41 s_41 gf_X7_34 rfl r_41_14 l9_50 dX7_pass_320 rfl ?_
                refine g_iload (i := 6) (t := 325) dX7_pass_323 rfl rfl ?_
                refine gm_iald_n (a := 50) (n := 16) (t := 326) l6_50 l9_50 s_50 dX7_pass_325 (by omega) (by decide) rfl ?_
                rw [e51, e50]
                refine g_icmp_ge (t1 := 333) (t2 := 329) dX7_pass_326 (by decide) rfl (fun h326 => ?_) (fun h326 => ?_)
                · refine g_iconst (t := 334) dX7_pass_333 c_iconst_0 rfl ?_
                  first
                  | exact T334 true ⟨fun _ => Or.inl h282, fun _ => rfl⟩
                  | exact T334 true ⟨fun _ => Or.inr (Or.inl ⟨i_gt h287, c1.mpr h304⟩), fun _ => rfl⟩
                  | exact T334 true ⟨fun _ => Or.inr (Or.inr ⟨i_gt h309, c2.mpr (i_gt h326)⟩), fun _ => rfl⟩
                  | refine T334 false ⟨fun q => absurd q (by decide), fun q => ?_⟩
                    rcases q with q | ⟨q1, q2⟩ | ⟨q1, q2⟩
                    · exact absurd q h282
                    · first
                      | exact absurd q1 (i_nlt h287)
                      | exact absurd (c1.mp q2) h304
                    · first
                      | exact absurd q1 (i_nlt h309)
                      | exact absurd (c2.mp q2) (i_nlt h326)
                · refine g_iconst (t := 330) dX7_pass_329 c_iconst_1 rfl ?_
                  refine g_goto (t := 334) dX7_pass_330 (by decide) ?_
                  first
                  | exact T334 true ⟨fun _ => Or.inl h282, fun _ => rfl⟩
                  | exact T334 true ⟨fun _ => Or.inr (Or.inl ⟨i_gt h287, c1.mpr h304⟩), fun _ => rfl⟩
                  | exact T334 true ⟨fun _ => Or.inr (Or.inr ⟨i_gt h309, c2.mpr (i_gt h326)⟩), fun _ => rfl⟩
                  | refine T334 false ⟨fun q => absurd q (by decide), fun q => ?_⟩
                    rcases q with q | ⟨q1, q2⟩ | ⟨q1, q2⟩
                    · exact absurd q h282
                    · first
                      | exact absurd q1 (i_nlt h287)
                      | exact absurd (c1.mp q2) h304
                    · first
                      | exact absurd q1 (i_nlt h309)
                      | exact absurd (c2.mp q2) (i_nlt h326)
    · have T334 : ∀ b : Int32, Wp E fX7_pass 62 334 [.ref 41, .int (nI l), .int w2, .int w3, .int w4, .int (wrL A z), .int (nI (A.2.1 + k)), v7, .null, .null] [.int b] (gM I h) K := by
        intro b
        refine g_istore (i := 7) (t := 336) (L1 := [_, _, _, _, _, _, _, _, _, _]) dX7_pass_334 (by decide) rfl rfl rfl ?_
        refine g_aload_n (i := 0) (r := 41) (t := 337) dX7_pass_336 rfl rfl (Or.inl l9_41) rfl ?_
        refine gm_getR (o := 41) (ci := 7) (k := 17) (r := 53) (t := 340) l6_41 l9_41 s_41 gf_X7_43 rfl r_41_17 l9_53 dX7_pass_337 rfl ?_
        refine g_iload (i := 6) (t := 342) dX7_pass_340 rfl rfl ?_
        refine gm_zald_n (a := 53) (n := 16) (t := 343) l6_53 l9_53 s_53 dX7_pass_342 (by omega) (by decide) rfl ?_
        rw [i53, sm_some.mpr ho]
        refine g_if_ne (t1 := 386) (t2 := 346) dX7_pass_343 (by decide) rfl (fun h343 => ?_) (fun h343 => ?_)
        · exact T386 (if_neg ho) (fun _ => by rw [szG, if_neg ho]; exact if_neg ho) _
        · exact absurd h343 (by decide)
      refine g_iload (i := 6) (t := 271) dX7_pass_269 rfl rfl ?_
      refine g_aload_n (i := 0) (r := 41) (t := 272) dX7_pass_271 rfl rfl (Or.inl l9_41) rfl ?_
      refine gm_getR (o := 41) (ci := 7) (k := 12) (r := 49) (t := 275) l6_41 l9_41 s_41 gf_X7_31 rfl r_41_12 l9_49 dX7_pass_272 rfl ?_
      refine g_iload_n (i := 1) (t := 276) dX7_pass_275 rfl rfl rfl ?_
      refine gm_iald_n (a := 49) (n := 16) (t := 277) l6_49 l9_49 s_49 dX7_pass_276 (by omega) (by decide) rfl ?_
      rw [i49]
      refine g_icmp_ge_n (t1 := 392) (t2 := 280) dX7_pass_277 (by decide) rfl (by omega) (by omega) (fun h277 => ?_) (fun h277 => ?_)
      · exfalso; omega
      · refine g_iload (i := 5) (t := 282) dX7_pass_280 rfl rfl ?_
        refine g_if_eq (t1 := 329) (t2 := 285) dX7_pass_282 (by decide) rfl (fun h282 => ?_) (fun h282 => ?_)
        · refine g_iconst (t := 330) dX7_pass_329 c_iconst_1 rfl ?_
          refine g_goto (t := 334) dX7_pass_330 (by decide) ?_
          exact T334 _
        · refine g_iload (i := 5) (t := 287) dX7_pass_285 rfl rfl ?_
          refine g_if_le (t1 := 307) (t2 := 290) dX7_pass_287 (by decide) rfl (fun h287 => ?_) (fun h287 => ?_)
          · refine g_iload (i := 5) (t := 309) dX7_pass_307 rfl rfl ?_
            refine g_if_ge (t1 := 333) (t2 := 312) dX7_pass_309 (by decide) rfl (fun h309 => ?_) (fun h309 => ?_)
            · refine g_iconst (t := 334) dX7_pass_333 c_iconst_0 rfl ?_
              exact T334 _
            · refine g_aload_n (i := 0) (r := 41) (t := 313) dX7_pass_312 rfl rfl (Or.inl l9_41) rfl ?_
              refine gm_getR (o := 41) (ci := 7) (k := 15) (r := 51) (t := 316) l6_41 l9_41 s_41 gf_X7_37 rfl r_41_15 l9_51 dX7_pass_313 rfl ?_
              refine g_iload (i := 6) (t := 318) dX7_pass_316 rfl rfl ?_
              refine gm_iald_n (a := 51) (n := 16) (t := 319) l6_51 l9_51 s_51 dX7_pass_318 (by omega) (by decide) rfl ?_
              refine g_aload_n (i := 0) (r := 41) (t := 320) dX7_pass_319 rfl rfl (Or.inl l9_41) rfl ?_
              refine gm_getR (o := 41) (ci := 7) (k := 14) (r := 50) (t := 323) l6_41 l9_41 s_41 gf_X7_34 rfl r_41_14 l9_50 dX7_pass_320 rfl ?_
              refine g_iload (i := 6) (t := 325) dX7_pass_323 rfl rfl ?_
              refine gm_iald_n (a := 50) (n := 16) (t := 326) l6_50 l9_50 s_50 dX7_pass_325 (by omega) (by decide) rfl ?_
              refine g_icmp_ge (t1 := 333) (t2 := 329) dX7_pass_326 (by decide) rfl (fun h326 => ?_) (fun h326 => ?_)
              · refine g_iconst (t := 334) dX7_pass_333 c_iconst_0 rfl ?_
                exact T334 _
              · refine g_iconst (t := 330) dX7_pass_329 c_iconst_1 rfl ?_
                refine g_goto (t := 334) dX7_pass_330 (by decide) ?_
                exact T334 _
          · refine g_aload_n (i := 0) (r := 41) (t := 291) dX7_pass_290 rfl rfl (Or.inl l9_41) rfl ?_
            refine gm_getR (o := 41) (ci := 7) (k := 15) (r := 51) (t := 294) l6_41 l9_41 s_41 gf_X7_37 rfl r_41_15 l9_51 dX7_pass_291 rfl ?_
            refine g_iload (i := 6) (t := 296) dX7_pass_294 rfl rfl ?_
            refine gm_iald_n (a := 51) (n := 16) (t := 297) l6_51 l9_51 s_51 dX7_pass_296 (by omega) (by decide) rfl ?_
            refine g_aload_n (i := 0) (r := 41) (t := 298) dX7_pass_297 rfl rfl (Or.inl l9_41) rfl ?_
            refine gm_getR (o := 41) (ci := 7) (k := 14) (r := 50) (t := 301) l6_41 l9_41 s_41 gf_X7_34 rfl r_41_14 l9_50 dX7_pass_298 rfl ?_
            refine g_iload (i := 6) (t := 303) dX7_pass_301 rfl rfl ?_
            refine gm_iald_n (a := 50) (n := 16) (t := 304) l6_50 l9_50 s_50 dX7_pass_303 (by omega) (by decide) rfl ?_
            refine g_icmp_gt (t1 := 329) (t2 := 307) dX7_pass_304 (by decide) rfl (fun h304 => ?_) (fun h304 => ?_)
            · refine g_iconst (t := 330) dX7_pass_329 c_iconst_1 rfl ?_
              refine g_goto (t := 334) dX7_pass_330 (by decide) ?_
              exact T334 _
            · refine g_iload (i := 5) (t := 309) dX7_pass_307 rfl rfl ?_
              refine g_if_ge (t1 := 333) (t2 := 312) dX7_pass_309 (by decide) rfl (fun h309 => ?_) (fun h309 => ?_)
              · refine g_iconst (t := 334) dX7_pass_333 c_iconst_0 rfl ?_
                exact T334 _
              · refine g_aload_n (i := 0) (r := 41) (t := 313) dX7_pass_312 rfl rfl (Or.inl l9_41) rfl ?_
                refine gm_getR (o := 41) (ci := 7) (k := 15) (r := 51) (t := 316) l6_41 l9_41 s_41 gf_X7_37 rfl r_41_15 l9_51 dX7_pass_313 rfl ?_
                refine g_iload (i := 6) (t := 318) dX7_pass_316 rfl rfl ?_
                refine gm_iald_n (a := 51) (n := 16) (t := 319) l6_51 l9_51 s_51 dX7_pass_318 (by omega) (by decide) rfl ?_
                refine g_aload_n (i := 0) (r := 41) (t := 320) dX7_pass_319 rfl rfl (Or.inl l9_41) rfl ?_
                refine gm_getR (o := 41) (ci := 7) (k := 14) (r := 50) (t := 323) l6_41 l9_41 s_41 gf_X7_34 rfl r_41_14 l9_50 dX7_pass_320 rfl ?_
                refine g_iload (i := 6) (t := 325) dX7_pass_323 rfl rfl ?_
                refine gm_iald_n (a := 50) (n := 16) (t := 326) l6_50 l9_50 s_50 dX7_pass_325 (by omega) (by decide) rfl ?_
                refine g_icmp_ge (t1 := 333) (t2 := 329) dX7_pass_326 (by decide) rfl (fun h326 => ?_) (fun h326 => ?_)
                · refine g_iconst (t := 334) dX7_pass_333 c_iconst_0 rfl ?_
                  exact T334 _
                · refine g_iconst (t := 330) dX7_pass_329 c_iconst_1 rfl ?_
                  refine g_goto (t := 334) dX7_pass_330 (by decide) ?_
                  exact T334 _
theorem x7_pass (hB : mB I s A l) (hZ : mZ I A z l) (hV : aV A) (hz : zV A z) (ht : I 56 l = nI t) : gQV E fX7_pass [.ref 41, .int (nI l)] I h (fun I' => gSame [50, 51, 52, 53] I I' ∧ mZ I' A (nxL A z t) l ∧ outU I' I A 50 ∧ outU I' I A 52 ∧ outU I' I A 53) := by
  refine gEv.of rfl (Nat.le_refl _) (Nat.le_of_ble_eq_true rfl) (L := [.ref 41, .int (nI l), .null, .null, .null, .null, .null, .null, .null, .null]) rfl ?_
  have ⟨b1, b2, b3, b4, b5, b6, b7, b8, b9⟩ := hB
  have ⟨z1, z2, z3⟩ := hZ
  have T261 : ∀ J L1, gSame [50, 51] I J → strN J I 50 A.2.1 (A.2.1 + A.2.2) (szG A z) → (∀ q, A.2.1 ≤ q → q < A.2.1 + A.2.2 → z.1 q = none → J 51 q = czL A z q) → Wp E fX7_pass 62 261 ([.ref 41, .int (nI l), .int (shL A z), .int (ttL A z), .int (ttL A z), .int (wrL A z), .int (nI (A.2.1 + A.2.2))] ++ L1) [] (gM J h) (gRet fX7_pass 62 (fun r σ' => ∃ I', r = none ∧ σ' = gM I' h ∧ gSame [50, 51, 52, 53] I I' ∧ mZ I' A (nxL A z t) l ∧ outU I' I A 50 ∧ outU I' I A 52 ∧ outU I' I A 53)) := by
    intro J L1 hs zs zc
    refine Wp.drop [.ref 41, .int (nI l), .int (shL A z), .int (ttL A z), .int (ttL A z), .int (wrL A z), .int (nI (A.2.1 + A.2.2)), .null, .null, .null] (fun i v a b => ?_) ?_
    · match i with
      | 0 => exact a
      | 1 => exact a
      | 2 => exact a
      | 3 => exact a
      | 4 => exact a
      | 5 => exact a
      | 6 => exact a
      | 7 => cases a; exact absurd rfl b
      | 8 => cases a; exact absurd rfl b
      | 9 => cases a; exact absurd rfl b
      | i + 10 => cases a
    · refine g_aload_n (i := 0) (r := 41) (t := 262) dX7_pass_261 rfl rfl (Or.inl l9_41) rfl ?_
      refine gm_getR (o := 41) (ci := 7) (k := 11) (r := 48) (t := 265) l6_41 l9_41 s_41 gf_X7_28 rfl r_41_11 l9_48 dX7_pass_262 rfl ?_
      refine g_iload_n (i := 1) (t := 266) dX7_pass_265 rfl rfl rfl ?_
      refine gm_iald_n (a := 48) (n := 16) (t := 267) l6_48 l9_48 s_48 dX7_pass_266 (by omega) (by decide) rfl ?_
      rw [show J 48 l = nI A.2.1 by rw [hs.at 48 rfl]; exact b4]
      refine g_istore (i := 6) (t := 269) (L1 := [_, _, _, _, _, _, _, _, _, _]) dX7_pass_267 (by decide) rfl rfl rfl ?_
      refine x7_ps_fr (J := J) b3 b6 (by rw [hs.at 49 rfl]; exact b5) (by rw [hs.at 56 rfl]; exact ht) hV hz (fun p p1 p2 => ⟨by rw [hs.at 53 rfl]; exact (z3 p p1 p2).1, zs.in p1 p2, fun u => by rw [hs.at 52 rfl]; exact ((z3 p p1 p2).2 u).2, zc p p1 p2⟩) A.2.2 0 J _ (Nat.zero_add _) gSame.rf (fun q _ => ⟨rfl, rfl, rfl⟩) (fun q a b => absurd b (by omega)) outU.rf outU.rf outU.rf (fun I' L hs2 hq o1 o2 o3 => ?_)
      refine g_retV dX7_pass_392 rfl ⟨(hs.wk rfl).trans (hs2.wk rfl), ⟨?_, ?_, hq⟩, (outU.str zs).trans o1, ?_, ?_⟩
      · rw [hs2.at 54 rfl, hs.at 54 rfl]; exact z1
      · rw [hs2.at 57 rfl, hs.at 57 rfl]; exact z2
      · exact fun q a => (o2 q a).trans (by rw [hs.at 52 rfl])
      · exact fun q a => (o3 q a).trans (by rw [hs.at 53 rfl])
  have T67 : Wp E fX7_pass 62 67 [.ref 41, .int (nI l), .int (shL A z), .int (ttL A z), .int (nI (A.2.1 + A.2.2)), .null, .null, .null, .null, .null] [] (gM I h) (gRet fX7_pass 62 (fun r σ' => ∃ I', r = none ∧ σ' = gM I' h ∧ gSame [50, 51, 52, 53] I I' ∧ mZ I' A (nxL A z t) l ∧ outU I' I A 50 ∧ outU I' I A 52 ∧ outU I' I A 53)) := by
    refine g_iconst (t := 68) dX7_pass_67 c_iconst_0 rfl ?_
    refine g_istore (i := 4) (t := 70) (L1 := [_, _, _, _, _, _, _, _, _, _]) dX7_pass_68 (by decide) rfl rfl rfl ?_
    refine g_iconst (t := 71) dX7_pass_70 c_iconst_0 rfl ?_
    refine g_istore (i := 5) (t := 73) (L1 := [_, _, _, _, _, _, _, _, _, _]) dX7_pass_71 (by decide) rfl rfl rfl ?_
    refine g_aload_n (i := 0) (r := 41) (t := 74) dX7_pass_73 rfl rfl (Or.inl l9_41) rfl ?_
    refine gm_getR (o := 41) (ci := 7) (k := 11) (r := 48) (t := 77) l6_41 l9_41 s_41 gf_X7_28 rfl r_41_11 l9_48 dX7_pass_74 rfl ?_
    refine g_iload_n (i := 1) (t := 78) dX7_pass_77 rfl rfl rfl ?_
    refine gm_iald_n (a := 48) (n := 16) (t := 79) l6_48 l9_48 s_48 dX7_pass_78 (by omega) (by decide) rfl ?_
    rw [b4]
    refine g_istore (i := 6) (t := 81) (L1 := [_, _, _, _, _, _, _, _, _, _]) dX7_pass_79 (by decide) rfl rfl rfl ?_
    exact x7_ps_out hB hZ hV hz A.2.2 0 I _ _ _ (Nat.zero_add _) gSame.rf strN.rf (fun q a b => absurd b (by omega)) T261
  refine g_aload_n (i := 0) (r := 41) (t := 1) dX7_pass_0 rfl rfl (Or.inl l9_41) rfl ?_
  refine g_iload_n (i := 1) (t := 2) dX7_pass_1 rfl rfl rfl ?_
  refine g_cVp (o := 41) (t := 5) mX7_share k_X7_188 imX7_share seX7_share l6_41 l9_41 s_41 rfl dX7_pass_2 (x7_share hB hZ) rfl rfl (by decide) (by decide) (Nat.le_of_ble_eq_true rfl) rfl ?_
  refine g_istore_n (i := 2) (t := 6) (L1 := [_, _, _, _, _, _, _, _, _, _]) dX7_pass_5 rfl (by decide) rfl rfl rfl ?_
  refine g_iconst (t := 7) dX7_pass_6 c_iconst_0 rfl ?_
  refine g_istore_n (i := 3) (t := 8) (L1 := [_, _, _, _, _, _, _, _, _, _]) dX7_pass_7 rfl (by decide) rfl rfl rfl ?_
  refine g_aload_n (i := 0) (r := 41) (t := 9) dX7_pass_8 rfl rfl (Or.inl l9_41) rfl ?_
  refine gm_getR (o := 41) (ci := 7) (k := 11) (r := 48) (t := 12) l6_41 l9_41 s_41 gf_X7_28 rfl r_41_11 l9_48 dX7_pass_9 rfl ?_
  refine g_iload_n (i := 1) (t := 13) dX7_pass_12 rfl rfl rfl ?_
  refine gm_iald_n (a := 48) (n := 16) (t := 14) l6_48 l9_48 s_48 dX7_pass_13 (by omega) (by decide) rfl ?_
  rw [b4]
  refine g_istore (i := 4) (t := 16) (L1 := [_, _, _, _, _, _, _, _, _, _]) dX7_pass_14 (by decide) rfl rfl rfl ?_
  exact x7_ps_tot hB hZ A.2.2 0 (Nat.zero_add _) T67
end X7L

