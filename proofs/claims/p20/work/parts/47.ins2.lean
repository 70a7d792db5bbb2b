/-! a place is made for an item -/
section INSB
variable {E : gE} {I : Nat → Nat → Int32} {h : gX} {S : sT}
theorem ins_l2 {at_ : Nat} {x y : Int32} {v6 v7 : Value} (hn : S.1.1 < 5) (hat : at_ ≤ S.1.1) (hV : vT S) : ∀ (d k : Nat) (J : Nat → Nat → Int32), k + d = 12 → rX J S → (∀ w, w < 7 → J 42 w = S.1.2.2 w) → J 41 60 = nI (S.1.1 + 1) → (∀ w, w < k → J 41 (12 * at_ + w) = bsV w) → (∀ i w, i < S.1.1 → w < 11 → J 41 (12 * (if i < at_ then i else i + 1) + w) = S.1.2.1 i w) → inG E h 74 [.ref 0, .ref 41, .int (nI at_), .int x, .int y, .int (nI k), v6, v7] [] J := by
  intro d
  induction d with
  | zero =>
    intro k J hk hX h42 h60 hb ho
    have hk : k = 12 := by omega
    subst hk
    refine g_iload (i := 5) (t := 76) dL_inserts_74 rfl rfl ?_
    refine g_bipush (t := 78) dL_inserts_76 c_bipush_12 rfl ?_
    refine g_icmp_ge_n (t1 := 142) (t2 := 81) dL_inserts_78 (by decide) rfl (by omega) (by omega) (fun h78 => ?_) (fun h78 => ?_)
    · exact ins_mid hn hat hX ⟨h60, hb, ho⟩ h42 hV
    · exfalso; omega
  | succ d ih =>
    intro k J hk hX h42 h60 hb ho
    have T135 : ∀ v : Int32, v = bsV k → inG E h 135 [.ref 0, .ref 41, .int (nI at_), .int x, .int y, .int (nI k), v6, v7] [.int v, .int (nI 12 * nI at_ + nI k), .ref 41] J := by
      intro v hv
      refine gm_iast_x (a := 41) (n := 64) (t := 136) l6_41 l9_41 s_41 dL_inserts_135 (ix_ma _ _ _) (by omega) (by decide) rfl ?_
      refine g_iinc (i := 5) (t := 139) (L1 := [_, _, _, _, _, _, _, _]) dL_inserts_136 rfl (gi_1 _) (by decide) rfl rfl rfl ?_
      refine g_goto (t := 74) dL_inserts_139 (by decide) ?_
      refine ih (k + 1) _ (by omega) hX.up41 (fun w hw => by rw [gup_rowo _ _ _ (by decide)]; exact h42 w hw) (by rw [gup_k _ _ _ (by omega)]; exact h60) (fun w hw => ?_) (fun i w hi hw => ?_)
      · rw [gup_at]
        by_cases z : w = k
        · rw [if_pos (by rw [z]), hv, z]
        · rw [if_neg (by omega)]; exact hb w (by omega)
      · rw [gup_k _ _ _ (by split <;> omega)]
        exact ho i w hi hw
    refine g_iload (i := 5) (t := 76) dL_inserts_74 rfl rfl ?_
    refine g_bipush (t := 78) dL_inserts_76 c_bipush_12 rfl ?_
    refine g_icmp_ge_n (t1 := 142) (t2 := 81) dL_inserts_78 (by decide) rfl (by omega) (by omega) (fun h78 => ?_) (fun h78 => ?_)
    · exfalso; omega
    · refine g_aload_n (i := 1) (r := 41) (t := 82) dL_inserts_81 rfl rfl (Or.inl l9_41) rfl ?_
      refine g_bipush (t := 84) dL_inserts_82 c_bipush_12 rfl ?_
      refine g_iload_n (i := 2) (t := 85) dL_inserts_84 rfl rfl rfl ?_
      refine g_imul (t := 86) dL_inserts_85 rfl ?_
      refine g_iload (i := 5) (t := 88) dL_inserts_86 rfl rfl ?_
      refine g_iadd (t := 89) dL_inserts_88 rfl ?_
      refine g_iload (i := 5) (t := 91) dL_inserts_89 rfl rfl ?_
      refine g_iconst (t := 92) dL_inserts_91 c_iconst_2 rfl ?_
      refine g_icmp_ne_n (t1 := 99) (t2 := 95) dL_inserts_92 (by decide) rfl (by omega) (by omega) (fun h92 => ?_) (fun h92 => ?_)
      · refine g_iload (i := 5) (t := 101) dL_inserts_99 rfl rfl ?_
        refine g_iconst (t := 102) dL_inserts_101 c_iconst_4 rfl ?_
        refine g_icmp_ne_n (t1 := 111) (t2 := 105) dL_inserts_102 (by decide) rfl (by omega) (by omega) (fun h102 => ?_) (fun h102 => ?_)
        · refine g_iload (i := 5) (t := 113) dL_inserts_111 rfl rfl ?_
          refine g_bipush (t := 115) dL_inserts_113 c_bipush_7 rfl ?_
          refine g_icmp_ne_n (t1 := 123) (t2 := 118) dL_inserts_115 (by decide) rfl (by omega) (by omega) (fun h115 => ?_) (fun h115 => ?_)
          · refine g_iload (i := 5) (t := 125) dL_inserts_123 rfl rfl ?_
            refine g_bipush (t := 127) dL_inserts_125 c_bipush_9 rfl ?_
            refine g_icmp_ne_n (t1 := 134) (t2 := 130) dL_inserts_127 (by decide) rfl (by omega) (by omega) (fun h127 => ?_) (fun h127 => ?_)
            · refine g_iconst (t := 135) dL_inserts_134 c_iconst_0 rfl ?_
              refine T135 _ ?_
              unfold bsV
              first
              | (rw [if_pos h92]; done)
              | (rw [if_neg h92, if_pos h102]; done)
              | (rw [if_neg h92, if_neg h102, if_pos h115]; done)
              | (rw [if_neg h92, if_neg h102, if_neg h115, if_pos h127]; done)
              | rw [if_neg h92, if_neg h102, if_neg h115, if_neg h127]
              | done
            · refine g_iconst (t := 131) dL_inserts_130 c_iconst_4 rfl ?_
              refine g_goto (t := 135) dL_inserts_131 (by decide) ?_
              refine T135 _ ?_
              unfold bsV
              first
              | (rw [if_pos h92]; done)
              | (rw [if_neg h92, if_pos h102]; done)
              | (rw [if_neg h92, if_neg h102, if_pos h115]; done)
              | (rw [if_neg h92, if_neg h102, if_neg h115, if_pos h127]; done)
              | rw [if_neg h92, if_neg h102, if_neg h115, if_neg h127]
              | done
          · refine g_bipush (t := 120) dL_inserts_118 c_bipush_10 rfl ?_
            refine g_goto (t := 135) dL_inserts_120 (by decide) ?_
            refine T135 _ ?_
            unfold bsV
            first
            | (rw [if_pos h92]; done)
            | (rw [if_neg h92, if_pos h102]; done)
            | (rw [if_neg h92, if_neg h102, if_pos h115]; done)
            | (rw [if_neg h92, if_neg h102, if_neg h115, if_pos h127]; done)
            | rw [if_neg h92, if_neg h102, if_neg h115, if_neg h127]
            | done
        · refine g_sipush (t := 108) dL_inserts_105 c_sipush_400 rfl ?_
          refine g_goto (t := 135) dL_inserts_108 (by decide) ?_
          refine T135 _ ?_
          unfold bsV
          first
          | (rw [if_pos h92]; done)
          | (rw [if_neg h92, if_pos h102]; done)
          | (rw [if_neg h92, if_neg h102, if_pos h115]; done)
          | (rw [if_neg h92, if_neg h102, if_neg h115, if_pos h127]; done)
          | rw [if_neg h92, if_neg h102, if_neg h115, if_neg h127]
          | done
      · refine g_iconst (t := 96) dL_inserts_95 c_iconst_1 rfl ?_
        refine g_goto (t := 135) dL_inserts_96 (by decide) ?_
        refine T135 _ ?_
        unfold bsV
        first
        | (rw [if_pos h92]; done)
        | (rw [if_neg h92, if_pos h102]; done)
        | (rw [if_neg h92, if_neg h102, if_pos h115]; done)
        | (rw [if_neg h92, if_neg h102, if_neg h115, if_pos h127]; done)
        | rw [if_neg h92, if_neg h102, if_neg h115, if_neg h127]
        | done
theorem ins_l1 {at_ : Nat} {x y : Int32} {v6 v7 : Value} (hn : S.1.1 < 5) (hat : at_ ≤ S.1.1) (hV : vT S) (hX : rX I S) (hA : aX I S) : ∀ (d m : Nat) (J : Nat → Nat → Int32), m = 12 * at_ + d → m ≤ 12 * S.1.1 → gSame [41] I J → (∀ j, J 41 j = if m + 12 ≤ j ∧ j < 12 * S.1.1 + 12 then I 41 (j - 12) else I 41 j) → inG E h 37 [.ref 0, .ref 41, .int (nI at_), .int x, .int y, .int (kD m), v6, v7] [] J := by
  obtain ⟨a1, a2, a3, a4⟩ := id hA
  intro d
  induction d with
  | zero =>
    intro m J hm hle hs hJ
    refine g_iload (i := 5) (t := 39) dL_inserts_37 rfl rfl ?_
    refine g_bipush (t := 41) dL_inserts_39 c_bipush_12 rfl ?_
    refine g_iload_n (i := 2) (t := 42) dL_inserts_41 rfl rfl rfl ?_
    refine g_imul (t := 43) dL_inserts_42 rfl ?_
    refine g_top (y := nI (12 * at_)) (pk_mul _ _) ?_
    refine g_icmp_lt (t1 := 63) (t2 := 46) dL_inserts_43 (by decide) rfl (fun h43 => ?_) (fun h43 => ?_)
    · refine g_aload_n (i := 1) (r := 41) (t := 64) dL_inserts_63 rfl rfl (Or.inl l9_41) rfl ?_
      refine g_bipush (t := 66) dL_inserts_64 c_bipush_60 rfl ?_
      refine g_dup2 (t := 67) dL_inserts_66 rfl rfl rfl ?_
      refine gm_iald_x (a := 41) (n := 64) (t := 68) l6_41 l9_41 s_41 dL_inserts_67 rfl (by omega) (by decide) rfl ?_
      rw [hJ 60, if_neg (by omega), a2]
      refine g_iconst (t := 69) dL_inserts_68 c_iconst_1 rfl ?_
      refine g_iadd (t := 70) dL_inserts_69 rfl ?_
      refine g_top (y := nI (S.1.1 + 1)) (nI_add _ _) ?_
      refine gm_iast_x (a := 41) (n := 64) (t := 71) l6_41 l9_41 s_41 dL_inserts_70 rfl (by omega) (by decide) rfl ?_
      refine g_iconst (t := 72) dL_inserts_71 c_iconst_0 rfl ?_
      refine g_istore (i := 5) (t := 74) (L1 := [_, _, _, _, _, _, _, _]) dL_inserts_72 (by decide) rfl rfl rfl ?_
      refine ins_l2 hn hat hV 12 0 _ rfl (hX.keep (cs := [41]) (hs.up rfl) rfl) (fun w hw => by rw [gup_rowo _ _ _ (by decide), hs.at 42 rfl]; exact a4 w hw) (gup_self _ _ _ _) (fun w hw => absurd hw (Nat.not_lt_zero _)) (fun i w hi hw => ?_)
      by_cases z : i < at_
      · rw [if_pos z, gup_k _ _ _ (by omega), hJ, if_neg (by omega)]
        exact a3 i w hi hw
      · rw [if_neg z, gup_k _ _ _ (by omega), hJ, if_pos (by omega), show 12 * (i + 1) + w - 12 = 12 * i + w by omega]
        exact a3 i w hi hw
    · exact absurd ((kD_lt (by omega) (by omega)).mpr (by omega)) h43
  | succ d ih =>
    intro m J hm hle hs hJ
    obtain ⟨m, rfl⟩ : ∃ q, m = q + 1 := ⟨m - 1, by omega⟩
    refine g_iload (i := 5) (t := 39) dL_inserts_37 rfl rfl ?_
    refine g_bipush (t := 41) dL_inserts_39 c_bipush_12 rfl ?_
    refine g_iload_n (i := 2) (t := 42) dL_inserts_41 rfl rfl rfl ?_
    refine g_imul (t := 43) dL_inserts_42 rfl ?_
    refine g_top (y := nI (12 * at_)) (pk_mul _ _) ?_
    refine g_icmp_lt (t1 := 63) (t2 := 46) dL_inserts_43 (by decide) rfl (fun h43 => ?_) (fun h43 => ?_)
    · exact absurd ((kD_lt (by omega) (by omega)).mp h43) (by omega)
    · refine g_aload_n (i := 1) (r := 41) (t := 47) dL_inserts_46 rfl rfl (Or.inl l9_41) rfl ?_
      refine g_iload (i := 5) (t := 49) dL_inserts_47 rfl rfl ?_
      refine g_bipush (t := 51) dL_inserts_49 c_bipush_12 rfl ?_
      refine g_iadd (t := 52) dL_inserts_51 rfl ?_
      refine g_aload_n (i := 1) (r := 41) (t := 53) dL_inserts_52 rfl rfl (Or.inl l9_41) rfl ?_
      refine g_iload (i := 5) (t := 55) dL_inserts_53 rfl rfl ?_
      refine gm_iald_x (a := 41) (n := 64) (t := 56) l6_41 l9_41 s_41 dL_inserts_55 rfl (by omega) (by decide) rfl ?_
      refine gm_iast_x (a := 41) (n := 64) (t := 57) l6_41 l9_41 s_41 dL_inserts_56 (ix_a _ _) (by omega) (by decide) rfl ?_
      refine g_iinc (i := 5) (t := 60) (L1 := [_, _, _, _, _, _, _, _]) dL_inserts_57 rfl (kD_dn m) (by decide) rfl rfl rfl ?_
      refine g_goto (t := 37) dL_inserts_60 (by decide) ?_
      refine ih m _ (by omega) (by omega) (hs.up rfl) (fun j => ?_)
      have em : J 41 m = I 41 m := by rw [hJ m, if_neg (by omega)]
      rw [gup_at, em, hJ j]
      by_cases z : j = m + 12
      · rw [if_pos z, if_pos (by omega), z, Nat.add_sub_cancel]
      · rw [if_neg z]
        by_cases u : m + 1 + 12 ≤ j ∧ j < 12 * S.1.1 + 12
        · rw [if_pos u, if_pos (by omega)]
        · rw [if_neg u, if_neg (by omega)]
theorem l_inserts {at_ : Nat} {x y : Int32} (hX : rX I S) (hA : aX I S) (hV : vT S) (hat : at_ ≤ S.1.1) : gQI E fL_inserts [.ref 0, .ref 41, .int (nI at_), .int x, .int y] I h (fun v I' => v = nI 1 ∧ lawP I') := by
  refine gEv.of rfl (Nat.le_refl _) (Nat.le_of_ble_eq_true rfl) (L := [.ref 0, .ref 41, .int (nI at_), .int x, .int y, .null, .null, .null]) rfl ?_
  obtain ⟨a1, a2, a3, a4⟩ := id hA
  by_cases hn : S.1.1 < 5
  · refine g_aload_n (i := 1) (r := 41) (t := 1) dL_inserts_0 rfl rfl (Or.inl l9_41) rfl ?_
    refine g_bipush (t := 3) dL_inserts_1 c_bipush_60 rfl ?_
    refine gm_iald_x (a := 41) (n := 64) (t := 4) l6_41 l9_41 s_41 dL_inserts_3 rfl (by omega) (by decide) rfl ?_
    refine g_iconst (t := 5) dL_inserts_4 c_iconst_5 rfl ?_
    rw [a2]
    refine g_icmp_ne_n (t1 := 26) (t2 := 8) dL_inserts_5 (by decide) rfl (by omega) (by omega) (fun h5 => ?_) (fun h5 => ?_)
    · refine g_bipush (t := 28) dL_inserts_26 c_bipush_12 rfl ?_
      refine g_aload_n (i := 1) (r := 41) (t := 29) dL_inserts_28 rfl rfl (Or.inl l9_41) rfl ?_
      refine g_bipush (t := 31) dL_inserts_29 c_bipush_60 rfl ?_
      refine gm_iald_x (a := 41) (n := 64) (t := 32) l6_41 l9_41 s_41 dL_inserts_31 rfl (by omega) (by decide) rfl ?_
      rw [a2]
      refine g_imul (t := 33) dL_inserts_32 rfl ?_
      refine g_iconst (t := 34) dL_inserts_33 c_iconst_1 rfl ?_
      refine g_isub (t := 35) dL_inserts_34 rfl ?_
      refine g_top (y := kD (12 * S.1.1)) (by rw [pk_mul]; exact kD_eq _) ?_
      refine g_istore (i := 5) (t := 37) (L1 := [_, _, _, _, _, _, _, _]) dL_inserts_35 (by decide) rfl rfl rfl ?_
      exact ins_l1 hn hat hV hX hA (12 * S.1.1 - 12 * at_) (12 * S.1.1) I (by omega) (Nat.le_refl _) gSame.rf (fun j => by rw [if_neg (by omega)])
    · exfalso; omega
  · have h5 : S.1.1 = 5 := by omega
    refine g_aload_n (i := 1) (r := 41) (t := 1) dL_inserts_0 rfl rfl (Or.inl l9_41) rfl ?_
    refine g_bipush (t := 3) dL_inserts_1 c_bipush_60 rfl ?_
    refine gm_iald_x (a := 41) (n := 64) (t := 4) l6_41 l9_41 s_41 dL_inserts_3 rfl (by omega) (by decide) rfl ?_
    refine g_iconst (t := 5) dL_inserts_4 c_iconst_5 rfl ?_
    rw [a2]
    refine g_icmp_ne_n (t1 := 26) (t2 := 8) dL_inserts_5 (by decide) rfl (by omega) (by omega) (fun h5 => ?_) (fun h5 => ?_)
    · exfalso; omega
    · refine g_aload_n (i := 0) (r := 0) (t := 9) dL_inserts_8 rfl rfl (Or.inl l9_0) rfl ?_
      refine g_bipush (t := 11) dL_inserts_9 c_bipush_6 rfl ?_
      refine g_cVi (o := 0) (t := 14) mX6_insert k_L_47 imX6_insert seX6_insert l6_0 l9_0 s_0 rfl dL_inserts_11 (x6_insert hX) rfl rfl (by decide) (by decide) (Nat.le_of_ble_eq_true rfl) rfl (Nat.le_refl _) (fun v11 J11 q11 => ?_)
      obtain ⟨q1, S1, q2, q3⟩ := q11
      have key : v11 = -1002 ∧ S1 = S := by
        rcases q2 with ⟨-, b1, b2⟩ | ⟨i2, b0, b1, -⟩
        · exact ⟨b1, b2⟩
        · have : 6 = i2 := (nI_eq (by decide) (by omega)).mp b1
          omega
      obtain ⟨p1, rfl⟩ := key
      refine g_sipush (t := 17) dL_inserts_14 c_sipush_m1002 rfl ?_
      refine g_icmp_ne (t1 := 24) (t2 := 20) dL_inserts_17 (by decide) rfl (fun h17 => ?_) (fun h17 => ?_)
      · exact absurd p1 h17
      · refine g_iconst (t := 21) dL_inserts_20 c_iconst_1 rfl ?_
        refine g_goto (t := 25) dL_inserts_21 (by decide) ?_
        exact g_retI dL_inserts_25 rfl (by decide +kernel) (⟨rfl, _, q3, hA.keep q1 rfl rfl rfl, hV⟩)
end INSB

