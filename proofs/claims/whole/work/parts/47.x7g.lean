/-! FlexRowsModel: reading begins; coming and going -/
section X7G
variable {E : gE} {I : Nat → Nat → Int32} {h : Int64} {S : sT}
theorem uwt_c : ∀ k, k < 10 → k ≠ 2 → k ≠ 4 → k ≠ 7 → k ≠ 9 → uwt k = nI 0 := by
  have : ∀ k, k < 10 → (k = 2 ∨ k = 4 ∨ k = 7 ∨ k = 9) ∨ uwt k = nI 0 := by decide +kernel
  intro k hk a b c d
  rcases this k hk with q | q
  · omega
  · exact q
theorem x7_ri_fill {I0 : Nat → Nat → Int32} {K : gK} : ∀ (d k : Nat) (I : Nat → Nat → Int32), k + d = 11 → gSame [45] I0 I → (∀ q, q < k → I 45 q = if q < 10 then uwt q else 0) →
    (∀ I v1, gSame [45] I0 I → (∀ q, q < 11 → I 45 q = if q < 10 then uwt q else 0) → Wp E fX7_readsItem 62 74 [.ref 41, v1, .null, .null] [] (gM I h) K) →
    Wp E fX7_readsItem 62 14 [.ref 41, .int (nI k), .null, .null] [] (gM I h) K := by
  intro d
  induction d with
  | zero =>
    intro k I hk hs hq kk
    have hk : k = 11 := by omega
    subst hk
    refine g_iload_n (i := 1) (t := 15) dX7_readsItem_14 rfl rfl rfl ?_
    refine g_bipush (t := 17) dX7_readsItem_15 c_bipush_11 rfl ?_
    refine g_icmp_ge_n (t1 := 74) (t2 := 20) dX7_readsItem_17 (by decide) rfl (by omega) (by omega) (fun h17 => ?_) (fun h17 => ?_)
    · exact kk I _ hs hq
    · exfalso; omega
  | succ d ih =>
    intro k I hk hs hq kk
    have T67 : ∀ v : Int32, v = (if k < 10 then uwt k else 0) → Wp E fX7_readsItem 62 67 [.ref 41, .int (nI k), .null, .null] [.int v, .int (nI k), .ref 45] (gM I h) K := by
      intro v hv
      refine gm_iast_n (a := 45) (n := 11) (t := 68) l6_45 l9_45 s_45 dX7_readsItem_67 (by omega) (by decide) rfl ?_
      refine g_iinc (i := 1) (t := 71) (L1 := [_, _, _, _]) dX7_readsItem_68 rfl (gi_1 _) (by decide) rfl rfl rfl ?_
      refine g_goto (t := 14) dX7_readsItem_71 (by decide) ?_
      refine ih (k + 1) _ (by omega) (hs.up rfl) (fun q hq2 => ?_) kk
      rw [gup_at]
      by_cases y : q = k
      · subst y; rw [if_pos rfl, hv]
      · rw [if_neg y]; exact hq q (by omega)
    refine g_iload_n (i := 1) (t := 15) dX7_readsItem_14 rfl rfl rfl ?_
    refine g_bipush (t := 17) dX7_readsItem_15 c_bipush_11 rfl ?_
    refine g_icmp_ge_n (t1 := 74) (t2 := 20) dX7_readsItem_17 (by decide) rfl (by omega) (by omega) (fun h17 => ?_) (fun h17 => ?_)
    · exfalso; omega
    · refine g_aload_n (i := 0) (r := 41) (t := 21) dX7_readsItem_20 rfl rfl (Or.inl l9_41) rfl ?_
      refine gm_getR (o := 41) (ci := 7) (k := 7) (r := 45) (t := 24) l6_41 l9_41 s_41 gf_X7_19 rfl r_41_7 l9_45 dX7_readsItem_21 rfl ?_
      refine g_iload_n (i := 1) (t := 25) dX7_readsItem_24 rfl rfl rfl ?_
      refine g_iload_n (i := 1) (t := 26) dX7_readsItem_25 rfl rfl rfl ?_
      refine g_iconst (t := 27) dX7_readsItem_26 c_iconst_2 rfl ?_
      refine g_icmp_ne_n (t1 := 34) (t2 := 30) dX7_readsItem_27 (by decide) rfl (by omega) (by omega) (fun h27 => ?_) (fun h27 => ?_)
      · refine g_iload_n (i := 1) (t := 35) dX7_readsItem_34 rfl rfl rfl ?_
        refine g_iconst (t := 36) dX7_readsItem_35 c_iconst_4 rfl ?_
        refine g_icmp_ne_n (t1 := 45) (t2 := 39) dX7_readsItem_36 (by decide) rfl (by omega) (by omega) (fun h36 => ?_) (fun h36 => ?_)
        · refine g_iload_n (i := 1) (t := 46) dX7_readsItem_45 rfl rfl rfl ?_
          refine g_bipush (t := 48) dX7_readsItem_46 c_bipush_7 rfl ?_
          refine g_icmp_ne_n (t1 := 56) (t2 := 51) dX7_readsItem_48 (by decide) rfl (by omega) (by omega) (fun h48 => ?_) (fun h48 => ?_)
          · refine g_iload_n (i := 1) (t := 57) dX7_readsItem_56 rfl rfl rfl ?_
            refine g_bipush (t := 59) dX7_readsItem_57 c_bipush_9 rfl ?_
            refine g_icmp_ne_n (t1 := 66) (t2 := 62) dX7_readsItem_59 (by decide) rfl (by omega) (by omega) (fun h59 => ?_) (fun h59 => ?_)
            · refine g_iconst (t := 67) dX7_readsItem_66 c_iconst_0 rfl ?_
              refine T67 _ ?_
              first
              | (subst h27; decide +kernel)
              | (subst h36; decide +kernel)
              | (subst h48; decide +kernel)
              | (subst h59; decide +kernel)
              | (by_cases y : k < 10
                 · rw [if_pos y, uwt_c k y h27 h36 h48 h59]
                 · rw [if_neg y]; decide +kernel)
            · refine g_iconst (t := 63) dX7_readsItem_62 c_iconst_4 rfl ?_
              refine g_goto (t := 67) dX7_readsItem_63 (by decide) ?_
              refine T67 _ ?_
              first
              | (subst h27; decide +kernel)
              | (subst h36; decide +kernel)
              | (subst h48; decide +kernel)
              | (subst h59; decide +kernel)
              | (by_cases y : k < 10
                 · rw [if_pos y, uwt_c k y h27 h36 h48 h59]
                 · rw [if_neg y]; decide +kernel)
          · refine g_bipush (t := 53) dX7_readsItem_51 c_bipush_10 rfl ?_
            refine g_goto (t := 67) dX7_readsItem_53 (by decide) ?_
            refine T67 _ ?_
            first
            | (subst h27; decide +kernel)
            | (subst h36; decide +kernel)
            | (subst h48; decide +kernel)
            | (subst h59; decide +kernel)
            | (by_cases y : k < 10
               · rw [if_pos y, uwt_c k y h27 h36 h48 h59]
               · rw [if_neg y]; decide +kernel)
        · refine g_sipush (t := 42) dX7_readsItem_39 c_sipush_400 rfl ?_
          refine g_goto (t := 67) dX7_readsItem_42 (by decide) ?_
          refine T67 _ ?_
          first
          | (subst h27; decide +kernel)
          | (subst h36; decide +kernel)
          | (subst h48; decide +kernel)
          | (subst h59; decide +kernel)
          | (by_cases y : k < 10
             · rw [if_pos y, uwt_c k y h27 h36 h48 h59]
             · rw [if_neg y]; decide +kernel)
      · refine g_iconst (t := 31) dX7_readsItem_30 c_iconst_1 rfl ?_
        refine g_goto (t := 67) dX7_readsItem_31 (by decide) ?_
        refine T67 _ ?_
        first
        | (subst h27; decide +kernel)
        | (subst h36; decide +kernel)
        | (subst h48; decide +kernel)
        | (subst h59; decide +kernel)
        | (by_cases y : k < 10
           · rw [if_pos y, uwt_c k y h27 h36 h48 h59]
           · rw [if_neg y]; decide +kernel)
theorem x7_readsItem {T : tT} (hT : tM I T) : gQV E fX7_readsItem [.ref 41] I h (pM T I) := by
  refine gEv.of rfl (Nat.le_refl _) (Nat.le_of_ble_eq_true rfl) (L := [.ref 41, .null, .null, .null]) rfl ?_
  have hn := hT.2.1
  have hsk := skp_le (T := T) (Nat.zero_le _)
  have T85 : ∀ (J : Nat → Nat → Int32) (f : Nat), f ≤ 80 → (rdT T).1 = some f → J 41 6 = nI f → gSame [41, 45] I J → (∀ k, k ≠ 5 → k ≠ 6 → J 41 k = I 41 k) → Wp E fX7_readsItem 62 85 [.ref 41, .int (nI 0), .null, .null] [] (gM J h) (gRet fX7_readsItem 62 (fun r σ' => ∃ I', r = none ∧ σ' = gM I' h ∧ pM T I I')) := by
    intro J f f80 hf h6 hs hk
    refine g_aload_n (i := 0) (r := 41) (t := 86) dX7_readsItem_85 rfl rfl (Or.inl l9_41) rfl ?_
    refine gm_getI (o := 41) (ci := 7) (k := 6) (t := 89) l6_41 l9_41 s_41 gf_X7_89 rfl dX7_readsItem_86 rfl ?_
    rw [h6]
    refine g_sipush (t := 92) dX7_readsItem_89 c_sipush_m1001 rfl ?_
    refine g_icmp_ne (t1 := 183) (t2 := 95) dX7_readsItem_92 (by decide) rfl (fun h92 => ?_) (fun h92 => ?_)
    · exact g_retV dX7_readsItem_183 rfl (⟨hs, hk, Or.inl ⟨f, f80, hf, h6⟩⟩)
    · exact absurd h92 (nI_nm (by omega))
  have T74 : ∀ (J : Nat → Nat → Int32) (v1 : Value), gSame [45] (gup (gup I 41 5 (nI 0)) 41 6 (-1001)) J → (∀ q, q < 11 → J 45 q = if q < 10 then uwt q else 0) → Wp E fX7_readsItem 62 74 [.ref 41, v1, .null, .null] [] (gM J h) (gRet fX7_readsItem 62 (fun r σ' => ∃ I', r = none ∧ σ' = gM I' h ∧ pM T I I')) := by
    intro J v1 hs hq
    have hs0 : gSame [41, 45] I J := (((gSame.rf (cs := [41, 45])).up rfl).up rfl).trans (hs.wk rfl)
    have h41 : J 41 = gup (gup I 41 5 (nI 0)) 41 6 (-1001) 41 := hs.at 41 rfl
    have hTJ : tM J T := hT.keep (by rw [h41, gup_k _ _ _ (by decide), gup_k _ _ _ (by decide)]) (hs0.at 44 rfl)
    have h5J : J 41 5 = nI 0 := by rw [h41, gup_k _ _ _ (by decide), gup_self]
    have h6J : J 41 6 = -1001 := by rw [h41, gup_self]
    have hkJ : ∀ k, k ≠ 5 → k ≠ 6 → J 41 k = I 41 k := fun k a b => by rw [h41, gup_k _ _ _ b, gup_k _ _ _ a]
    refine g_aload_n (i := 0) (r := 41) (t := 75) dX7_readsItem_74 rfl rfl (Or.inl l9_41) rfl ?_
    refine g_cVd (o := 41) (t := 78) mX7_skips k_X7_107 imX7_skips seX7_skips l6_41 l9_41 s_41 rfl dX7_readsItem_75 (x7_skips hTJ h5J (Nat.zero_le _)) rfl rfl (by decide) (by decide) (Nat.le_of_ble_eq_true rfl) rfl ?_
    refine g_aload_n (i := 0) (r := 41) (t := 79) dX7_readsItem_78 rfl rfl (Or.inl l9_41) rfl ?_
    refine g_iconst (t := 80) dX7_readsItem_79 c_iconst_0 rfl ?_
    refine g_cVv (o := 41) (t := 83) mX7_readsNumber k_X7_134 imX7_readsNumber seX7_readsNumber l6_41 l9_41 s_41 rfl dX7_readsItem_80 (x7_readsNumber (w := 0) (j := skp T 0) hTJ.up5 (gup_self _ _ _ _) hsk.2 (by decide) (by rw [gup_k _ _ _ (by decide)]; exact h6J)) rfl rfl (by decide) (by decide) (Nat.le_of_ble_eq_true rfl) rfl (fun J2 q => ?_)
    refine g_iconst (t := 84) dX7_readsItem_83 c_iconst_0 rfl ?_
    refine g_istore_n (i := 1) (t := 85) (L1 := [_, _, _, _]) dX7_readsItem_84 rfl (by decide) rfl rfl rfl ?_
    obtain ⟨q1, q2, q3, q4⟩ := q
    have hs2 : gSame [41, 45] I J2 := (hs0.trans (gSame.rf.up rfl)).trans q1
    have hk2 : ∀ k, k ≠ 5 → k ≠ 6 → J2 41 k = I 41 k := fun k a b => by rw [q2 k a b, gup_k _ _ _ a]; exact hkJ k a b
    cases hft : ftN T 0 (skp T 0) with
    | some f =>
      exact T85 J2 f (ftN_le hsk.2 hn hft) (by rw [rdT, hft]) (q3 f hft) hs2 hk2
    | none =>
      have hnx := nxN_le (w := 0) hsk.2 hft
      obtain ⟨r1, r2, r3⟩ := q4 hft
      have hr : prs T 80 (nI 0) (upd uwt 0 (vlN T 0 (skp T 0))) (nxN T 0 (skp T 0)) = rdT T := by rw [rdT, hft]
      refine x7_ri_loop 80 0 (nxN T 0 (skp T 0)) (nI 0) _ J2 rfl (hT.keep (hk2 4 (by decide) (by decide)) (hs2.at 44 rfl)) r2 (Nat.zero_le _) hnx.2 r1 (fun k hk => ?_) hs2 hk2 hr
      rw [r3, gup_rowo _ _ _ (by decide)]
      by_cases y : k = 0
      · subst y
        rw [pk_us, if_pos (by omega), pk_us]
      · rw [pk_un y, hq k hk]
        by_cases z : k < 10
        · rw [if_pos z, if_pos z, pk_un y]
        · rw [if_neg z, if_neg z]
  refine g_aload_n (i := 0) (r := 41) (t := 1) dX7_readsItem_0 rfl rfl (Or.inl l9_41) rfl ?_
  refine g_iconst (t := 2) dX7_readsItem_1 c_iconst_0 rfl ?_
  refine gm_putI (o := 41) (ci := 7) (k := 5) (t := 5) l6_41 l9_41 s_41 gp_X7_82 rfl rfl rfl dX7_readsItem_2 rfl ?_
  refine g_aload_n (i := 0) (r := 41) (t := 6) dX7_readsItem_5 rfl rfl (Or.inl l9_41) rfl ?_
  refine g_sipush (t := 9) dX7_readsItem_6 c_sipush_m1001 rfl ?_
  refine gm_putI (o := 41) (ci := 7) (k := 6) (t := 12) l6_41 l9_41 s_41 gp_X7_89 rfl rfl rfl dX7_readsItem_9 rfl ?_
  refine g_iconst (t := 13) dX7_readsItem_12 c_iconst_0 rfl ?_
  refine g_istore_n (i := 1) (t := 14) (L1 := [_, _, _, _]) dX7_readsItem_13 rfl (by decide) rfl rfl rfl ?_
  exact x7_ri_fill 11 0 _ rfl gSame.rf (fun q hq => absurd hq (Nat.not_lt_zero _)) T74
end X7G

