/-! FlexRowsModel: keeping and undoing, the changing steps -/
theorem getE_lt {α : Type} {l : List α} {u : Nat} {s : α} (h : l[u]? = some s) : u < l.length := by
  apply Classical.byContradiction
  intro z
  rw [List.getElem?_eq_none (by omega)] at h
  exact absurd h (by simp)
section X7B
variable {E : gE} {I : Nat → Nat → Int32} {h : Int64} {S : sT}
theorem x7_keeps_sh {I0 : Nat → Nat → Int32} {K : gK} : ∀ (d k : Nat) (I : Nat → Nat → Int32), k + d = 1288 → gSame [43] I0 I → (∀ q, I 43 q = if q < k then I0 43 (q + 184) else I0 43 q) →
    (∀ I v1, gSame [43] I0 I → (∀ q, I 43 q = if q < 1288 then I0 43 (q + 184) else I0 43 q) → Wp E fX7_keeps 62 40 [.ref 41, v1] [] (gM I h) K) →
    Wp E fX7_keeps 62 11 [.ref 41, .int (nI k)] [] (gM I h) K := by
  intro d
  induction d with
  | zero =>
    intro k I hk hs hq kk
    have hk : k = 1288 := by omega
    subst hk
    refine g_iload_n (i := 1) (t := 12) dX7_keeps_11 rfl rfl rfl ?_
    refine g_sipush (t := 15) dX7_keeps_12 c_sipush_1288 rfl ?_
    refine g_icmp_ge_n (t1 := 40) (t2 := 18) dX7_keeps_15 (by decide) rfl (by omega) (by omega) (fun h15 => ?_) (fun h15 => ?_)
    · exact kk I _ hs hq
    · exfalso; omega
  | succ d ih =>
    intro k I hk hs hq kk
    refine g_iload_n (i := 1) (t := 12) dX7_keeps_11 rfl rfl rfl ?_
    refine g_sipush (t := 15) dX7_keeps_12 c_sipush_1288 rfl ?_
    refine g_icmp_ge_n (t1 := 40) (t2 := 18) dX7_keeps_15 (by decide) rfl (by omega) (by omega) (fun h15 => ?_) (fun h15 => ?_)
    · exfalso; omega
    · refine g_aload_n (i := 0) (r := 41) (t := 19) dX7_keeps_18 rfl rfl (Or.inl l9_41) rfl ?_
      refine gm_getR (o := 41) (ci := 7) (k := 1) (r := 43) (t := 22) l6_41 l9_41 s_41 gf_X7_13 rfl r_41_1 l9_43 dX7_keeps_19 rfl ?_
      refine g_iload_n (i := 1) (t := 23) dX7_keeps_22 rfl rfl rfl ?_
      refine g_aload_n (i := 0) (r := 41) (t := 24) dX7_keeps_23 rfl rfl (Or.inl l9_41) rfl ?_
      refine gm_getR (o := 41) (ci := 7) (k := 1) (r := 43) (t := 27) l6_41 l9_41 s_41 gf_X7_13 rfl r_41_1 l9_43 dX7_keeps_24 rfl ?_
      refine g_iload_n (i := 1) (t := 28) dX7_keeps_27 rfl rfl rfl ?_
      refine g_sipush (t := 31) dX7_keeps_28 c_sipush_184 rfl ?_
      refine g_iadd (t := 32) dX7_keeps_31 rfl ?_
      refine g_top (nI_add _ _) ?_
      refine gm_iald_n (a := 43) (n := 1472) (t := 33) l6_43 l9_43 s_43 dX7_keeps_32 (by omega) (by decide) rfl ?_
      refine gm_iast_n (a := 43) (n := 1472) (t := 34) l6_43 l9_43 s_43 dX7_keeps_33 (by omega) (by decide) rfl ?_
      refine g_iinc (i := 1) (t := 37) (L1 := [_, _]) dX7_keeps_34 rfl (gi_1 _) (by decide) rfl rfl rfl ?_
      refine g_goto (t := 11) dX7_keeps_37 (by decide) ?_
      refine ih (k + 1) _ (by omega) (hs.up rfl) (fun q => ?_) kk
      rw [gup_at]
      by_cases y : q = k
      · subst y; rw [if_pos rfl, if_pos (by omega), hq, if_neg (by omega)]
      · rw [if_neg y, hq q]
        by_cases z : q < k
        · rw [if_pos z, if_pos (by omega)]
        · rw [if_neg z, if_neg (by omega)]
theorem x7_keeps_cp {u : Nat} (hu : u < 8) {I0 : Nat → Nat → Int32} (h2 : I0 41 2 = nI u) : ∀ (d k : Nat) (I : Nat → Nat → Int32), k + d = 184 → gSame [43] I0 I → (∀ q, I 43 q = if 184 * u ≤ q ∧ q < 184 * u + k then I0 42 (q - 184 * u) else I0 43 q) →
    Wp E fX7_keeps 62 52 [.ref 41, .int (nI k)] [] (gM I h) (gRet fX7_keeps 62 (fun r σ' => ∃ I', r = none ∧ σ' = gM I' h ∧ gSame [41, 43] I0 I' ∧ (∀ k, k ≠ 2 → I' 41 k = I0 41 k) ∧ I' 41 2 = nI (u + 1) ∧ ∀ q, I' 43 q = if 184 * u ≤ q ∧ q < 184 * u + 184 then I0 42 (q - 184 * u) else I0 43 q)) := by
  intro d
  induction d with
  | zero =>
    intro k I hk hs hq
    have hk : k = 184 := by omega
    subst hk
    refine g_iload_n (i := 1) (t := 53) dX7_keeps_52 rfl rfl rfl ?_
    refine g_sipush (t := 56) dX7_keeps_53 c_sipush_184 rfl ?_
    refine g_icmp_ge_n (t1 := 86) (t2 := 59) dX7_keeps_56 (by decide) rfl (by omega) (by omega) (fun h56 => ?_) (fun h56 => ?_)
    · refine g_aload_n (i := 0) (r := 41) (t := 87) dX7_keeps_86 rfl rfl (Or.inl l9_41) rfl ?_
      refine g_dup (t := 88) dX7_keeps_87 rfl rfl ?_
      refine gm_getI (o := 41) (ci := 7) (k := 2) (t := 91) l6_41 l9_41 s_41 gf_X7_71 rfl dX7_keeps_88 rfl ?_
      rw [hs.at 41 rfl, h2]
      refine g_iconst (t := 92) dX7_keeps_91 c_iconst_1 rfl ?_
      refine g_iadd (t := 93) dX7_keeps_92 rfl ?_
      refine g_top (gi_s _) ?_
      refine gm_putI (o := 41) (ci := 7) (k := 2) (t := 96) l6_41 l9_41 s_41 gp_X7_71 rfl rfl rfl dX7_keeps_93 rfl ?_
      exact g_retV dX7_keeps_96 rfl (⟨(hs.wk rfl).up rfl, fun k hk => by rw [gup_k _ _ _ hk, hs.at 41 rfl], gup_self _ _ _ _, fun q => by rw [gup_o _ _ _ _ (by decide)]; exact hq q⟩)
    · exfalso; omega
  | succ d ih =>
    intro k I hk hs hq
    refine g_iload_n (i := 1) (t := 53) dX7_keeps_52 rfl rfl rfl ?_
    refine g_sipush (t := 56) dX7_keeps_53 c_sipush_184 rfl ?_
    refine g_icmp_ge_n (t1 := 86) (t2 := 59) dX7_keeps_56 (by decide) rfl (by omega) (by omega) (fun h56 => ?_) (fun h56 => ?_)
    · exfalso; omega
    · refine g_aload_n (i := 0) (r := 41) (t := 60) dX7_keeps_59 rfl rfl (Or.inl l9_41) rfl ?_
      refine gm_getR (o := 41) (ci := 7) (k := 1) (r := 43) (t := 63) l6_41 l9_41 s_41 gf_X7_13 rfl r_41_1 l9_43 dX7_keeps_60 rfl ?_
      refine g_sipush (t := 66) dX7_keeps_63 c_sipush_184 rfl ?_
      refine g_aload_n (i := 0) (r := 41) (t := 67) dX7_keeps_66 rfl rfl (Or.inl l9_41) rfl ?_
      refine gm_getI (o := 41) (ci := 7) (k := 2) (t := 70) l6_41 l9_41 s_41 gf_X7_71 rfl dX7_keeps_67 rfl ?_
      rw [hs.at 41 rfl, h2]
      refine g_imul (t := 71) dX7_keeps_70 rfl ?_
      refine g_top (pk_mul _ _) ?_
      refine g_iload_n (i := 1) (t := 72) dX7_keeps_71 rfl rfl rfl ?_
      refine g_iadd (t := 73) dX7_keeps_72 rfl ?_
      refine g_top (nI_add _ _) ?_
      refine g_aload_n (i := 0) (r := 41) (t := 74) dX7_keeps_73 rfl rfl (Or.inl l9_41) rfl ?_
      refine gm_getR (o := 41) (ci := 7) (k := 0) (r := 42) (t := 77) l6_41 l9_41 s_41 gf_X7_7 rfl r_41_0 l9_42 dX7_keeps_74 rfl ?_
      refine g_iload_n (i := 1) (t := 78) dX7_keeps_77 rfl rfl rfl ?_
      refine gm_iald_n (a := 42) (n := 184) (t := 79) l6_42 l9_42 s_42 dX7_keeps_78 (by omega) (by decide) rfl ?_
      refine gm_iast_n (a := 43) (n := 1472) (t := 80) l6_43 l9_43 s_43 dX7_keeps_79 (by omega) (by decide) rfl ?_
      refine g_iinc (i := 1) (t := 83) (L1 := [_, _]) dX7_keeps_80 rfl (gi_1 _) (by decide) rfl rfl rfl ?_
      refine g_goto (t := 52) dX7_keeps_83 (by decide) ?_
      refine ih (k + 1) _ (by omega) (hs.up rfl) (fun q => ?_)
      rw [gup_at, hs.at 42 rfl]
      by_cases y : q = 184 * u + k
      · subst y; rw [if_pos rfl, if_pos (by omega), Nat.add_sub_cancel_left]
      · rw [if_neg y, hq q]
        by_cases z : 184 * u ≤ q ∧ q < 184 * u + k
        · rw [if_pos z, if_pos (by omega)]
        · rw [if_neg z, if_neg (by omega)]
theorem x7_keeps (hR : rM I S) (hh : ∀ (u : Nat) (s : sS), S.2.1[u]? = some s → s.1 ≤ 16) : gQV E fX7_keeps [.ref 41] I h (fun I' => gSame [41, 43] I I' ∧ (∀ k, k ≠ 2 → I' 41 k = I 41 k) ∧ hM I' (hS S)) := by
  refine gEv.of rfl (Nat.le_refl _) (Nat.le_of_ble_eq_true rfl) (L := [.ref 41, .null]) rfl ?_
  have ⟨hn, hC, ⟨g1, g2, g3⟩, hT⟩ := hR
  have hcur : ∀ (J : Nat → Nat → Int32) (o : Nat), (∀ q, q < 184 → J 43 (o + q) = I 42 q) → J 43 (o + 176) = nI S.1.1 ∧ (∀ i w, i < S.1.1 → w < 11 → J 43 (o + (11 * i + w)) = S.1.2.1 i w) ∧ ∀ k, k < 7 → J 43 (o + (177 + k)) = S.1.2.2 k := fun J o hq =>
    ⟨by rw [hq 176 (by decide)]; exact hC.1, fun i w hi hw => by rw [hq _ (by omega)]; exact hC.2.1 i w hi hw, fun k hk => by rw [hq _ (by omega)]; exact hC.2.2 k hk⟩
  have conv : ∀ (u : Nat) (J : Nat → Nat → Int32) {R : (Nat → Nat → Int32) → Prop}, (∀ I', gSame [41, 43] J I' → (∀ k, k ≠ 2 → I' 41 k = J 41 k) → I' 41 2 = nI (u + 1) → (∀ q, I' 43 q = if 184 * u ≤ q ∧ q < 184 * u + 184 then J 42 (q - 184 * u) else J 43 q) → R I') → Wp E fX7_keeps 62 52 [.ref 41, .int (nI 0)] [] (gM J h) (gRet fX7_keeps 62 (fun r σ' => ∃ I', r = none ∧ σ' = gM I' h ∧ gSame [41, 43] J I' ∧ (∀ k, k ≠ 2 → I' 41 k = J 41 k) ∧ I' 41 2 = nI (u + 1) ∧ ∀ q, I' 43 q = if 184 * u ≤ q ∧ q < 184 * u + 184 then J 42 (q - 184 * u) else J 43 q)) → Wp E fX7_keeps 62 52 [.ref 41, .int (nI 0)] [] (gM J h) (gRet fX7_keeps 62 (fun r σ' => ∃ I', r = none ∧ σ' = gM I' h ∧ R I')) := by
    intro u J R hR2 w
    refine w.mono fun pc' L' st' σ' z => ⟨z.1, ?_⟩
    rcases z.2 with ⟨d1, v, ty, d2, d3, d4, I', e1, e2, e3, e4, e5, e6⟩ | ⟨d1, d2, d3, I', e1, e2, e3, e4, e5, e6⟩ | ⟨d1, v, d2, d3, I', e1, e2, e3, e4, e5, e6⟩ | ⟨d1, r, nm, d2, d3, I', e1, e2, e3, e4, e5, e6⟩
    · cases e1
    · exact Or.inr (Or.inl ⟨d1, d2, d3, I', e1, e2, hR2 I' e3 e4 e5 e6⟩)
    · cases e1
    · cases e1
  by_cases h8 : S.2.1.length = 8
  · have T40 : ∀ J v1, gSame [43] I J → (∀ q, J 43 q = if q < 1288 then I 43 (q + 184) else I 43 q) → Wp E fX7_keeps 62 40 [.ref 41, v1] [] (gM J h) (gRet fX7_keeps 62 (fun r σ' => ∃ I', r = none ∧ σ' = gM I' h ∧ gSame [41, 43] I I' ∧ (∀ k, k ≠ 2 → I' 41 k = I 41 k) ∧ hM I' (hS S))) := by
      intro J v1 hs hq
      refine g_aload_n (i := 0) (r := 41) (t := 41) dX7_keeps_40 rfl rfl (Or.inl l9_41) rfl ?_
      refine g_dup (t := 42) dX7_keeps_41 rfl rfl ?_
      refine gm_getI (o := 41) (ci := 7) (k := 2) (t := 45) l6_41 l9_41 s_41 gf_X7_71 rfl dX7_keeps_42 rfl ?_
      rw [hs.at 41 rfl, g2, h8]
      refine g_iconst (t := 46) dX7_keeps_45 c_iconst_1 rfl ?_
      refine g_isub (t := 47) dX7_keeps_46 rfl ?_
      refine g_top (gi_p 7) ?_
      refine gm_putI (o := 41) (ci := 7) (k := 2) (t := 50) l6_41 l9_41 s_41 gp_X7_71 rfl rfl rfl dX7_keeps_47 rfl ?_
      refine g_iconst (t := 51) dX7_keeps_50 c_iconst_0 rfl ?_
      refine g_istore_n (i := 1) (t := 52) (L1 := [_, _]) dX7_keeps_51 rfl (by decide) rfl rfl rfl ?_
      refine conv 7 _ (fun I' e3 e4 e5 e6 => ?_) (x7_keeps_cp (by decide) (gup_self _ _ _ _) 184 0 _ rfl gSame.rf (fun q => by rw [if_neg (by omega)]))
      refine ⟨((hs.wk rfl).trans (gSame.rf.up rfl)).trans e3, fun k hk => ?_, by rw [hS_len g1]; omega, by rw [e5, hS_len g1, h8]; rfl, fun u s hu => ?_⟩
      · rw [e4 k hk, gup_k _ _ _ hk, hs.at 41 rfl]
      · rw [hS_len g1, h8, show min (8 + 1) 8 = 8 by decide]
        have hu8 : u < 8 := by
          have := getE_lt hu
          rw [hS_len g1] at this
          omega
        have hu' : (S.1 :: S.2.1)[u]? = some s := by rw [hS, List.getElem?_take, if_pos hu8] at hu; exact hu
        cases u with
        | zero =>
          cases hu'
          refine hcur I' _ fun q hq2 => ?_
          rw [e6, if_pos (by omega), gup_o _ _ _ _ (by decide), hs.at 42 rfl]
          exact congrArg _ (by omega)
        | succ u =>
          have hu'' : S.2.1[u]? = some s := hu'
          have := g3 u s hu''
          rw [h8] at this
          have key : ∀ q, q < 184 → I' 43 (184 * (8 - 1 - (u + 1)) + q) = I 43 (184 * (8 - 1 - u) + q) := by
            intro q hq2
            rw [e6, if_neg (by omega), gup_o _ _ _ _ (by decide), hq, if_pos (by omega)]
            exact congrArg _ (by omega)
          exact ⟨by rw [key 176 (by decide)]; exact this.1, fun i w hi hw => by
            have hi16 : i < 16 := Nat.lt_of_lt_of_le hi (hh u s hu'')
            rw [key _ (by omega)]; exact this.2.1 i w hi hw, fun k hk => by rw [key _ (by omega)]; exact this.2.2 k hk⟩
    refine g_aload_n (i := 0) (r := 41) (t := 1) dX7_keeps_0 rfl rfl (Or.inl l9_41) rfl ?_
    refine gm_getI (o := 41) (ci := 7) (k := 2) (t := 4) l6_41 l9_41 s_41 gf_X7_71 rfl dX7_keeps_1 rfl ?_
    refine g_bipush (t := 6) dX7_keeps_4 c_bipush_8 rfl ?_
    rw [g2, h8]
    refine g_icmp_ne_n (t1 := 50) (t2 := 9) dX7_keeps_6 (by decide) rfl (by omega) (by omega) (fun h6 => ?_) (fun h6 => ?_)
    · exfalso; omega
    · refine g_iconst (t := 10) dX7_keeps_9 c_iconst_0 rfl ?_
      refine g_istore_n (i := 1) (t := 11) (L1 := [_, _]) dX7_keeps_10 rfl (by decide) rfl rfl rfl ?_
      exact x7_keeps_sh 1288 0 I rfl gSame.rf (fun q => by rw [if_neg (Nat.not_lt_zero _)]) T40
  · refine g_aload_n (i := 0) (r := 41) (t := 1) dX7_keeps_0 rfl rfl (Or.inl l9_41) rfl ?_
    refine gm_getI (o := 41) (ci := 7) (k := 2) (t := 4) l6_41 l9_41 s_41 gf_X7_71 rfl dX7_keeps_1 rfl ?_
    refine g_bipush (t := 6) dX7_keeps_4 c_bipush_8 rfl ?_
    rw [g2]
    refine g_icmp_ne_n (t1 := 50) (t2 := 9) dX7_keeps_6 (by decide) rfl (by omega) (by omega) (fun h6 => ?_) (fun h6 => ?_)
    · refine g_iconst (t := 51) dX7_keeps_50 c_iconst_0 rfl ?_
      refine g_istore_n (i := 1) (t := 52) (L1 := [_, _]) dX7_keeps_51 rfl (by decide) rfl rfl rfl ?_
      refine conv S.2.1.length _ (fun I' e3 e4 e5 e6 => ?_) (x7_keeps_cp (by omega) g2 184 0 _ rfl gSame.rf (fun q => by rw [if_neg (by omega)]))
      have hl : (hS S).length = S.2.1.length + 1 := by rw [hS_len g1]; omega
      refine ⟨e3, e4, by omega, by rw [e5, hl], fun u s hu => ?_⟩
      have hu8 := getE_lt hu
      have hu' : (S.1 :: S.2.1)[u]? = some s := by rw [hS, List.getElem?_take, if_pos (by omega)] at hu; exact hu
      rw [hl]
      cases u with
      | zero =>
        cases hu'
        refine hcur I' _ fun q hq2 => ?_
        rw [e6, if_pos (by omega)]
        exact congrArg _ (by omega)
      | succ u =>
        have hu'' : S.2.1[u]? = some s := hu'
        have := g3 u s hu''
        have hul := getE_lt hu''
        have key : ∀ q, q < 184 → I' 43 (184 * (S.2.1.length + 1 - 1 - (u + 1)) + q) = I 43 (184 * (S.2.1.length - 1 - u) + q) := by
          intro q hq2
          rw [e6, if_neg (by omega)]
          exact congrArg _ (by omega)
        exact ⟨by rw [key 176 (by decide)]; exact this.1, fun i w hi hw => by
          have hi16 : i < 16 := Nat.lt_of_lt_of_le hi (hh u s hu'')
          rw [key _ (by omega)]; exact this.2.1 i w hi hw, fun k hk => by rw [key _ (by omega)]; exact this.2.2 k hk⟩
    · exfalso; omega
end X7B

