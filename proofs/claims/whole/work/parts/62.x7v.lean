/-! FlexRowsModel: the digest -/
section X7V
variable {E : gE} {I : Nat → Nat → Int32} {h : Int64} {S : sT} {s : sS}
theorem x7_dg5 {x : Int64} {Q : Option Value → gS → Prop} (hR : rM I S) (hq : Q (some (.long (dgV x (fun j => S.2.2.2 j) S.2.2.1))) (gM I (dgV x (fun j => S.2.2.2 j) S.2.2.1))) : ∀ (d k : Nat), k + d = S.2.2.1 → Wp E fX7_digest 62 133 [.ref 41, .int (nI k)] [] (gM I (dgV x (fun j => S.2.2.2 j) k)) (gRet fX7_digest 62 Q) := by
  obtain ⟨-, -, -, t1, t2, t3⟩ := hR
  intro d
  induction d with
  | zero =>
    intro k hk
    have hk : k = S.2.2.1 := by omega
    subst hk
    refine g_iload_n (i := 1) (t := 134) dX7_digest_133 rfl rfl rfl ?_
    refine g_aload_n (i := 0) (r := 41) (t := 135) dX7_digest_134 rfl rfl (Or.inl l9_41) rfl ?_
    refine gm_getI (o := 41) (ci := 7) (k := 4) (t := 138) l6_41 l9_41 s_41 gf_X7_79 rfl dX7_digest_135 rfl ?_
    rw [t1]
    refine g_icmp_ge_n (t1 := 158) (t2 := 141) dX7_digest_138 (by decide) rfl (by omega) (by omega) (fun h138 => ?_) (fun h138 => ?_)
    · refine g_aload_n (i := 0) (r := 41) (t := 159) dX7_digest_158 rfl rfl (Or.inl l9_41) rfl ?_
      refine gm_getL (o := 41) (ci := 7) (k := 26) (t := 162) l6_41 l9_41 s_41 gf_X7_252 rfl dX7_digest_159 rfl ?_
      exact Wp.here ⟨rfl, Or.inr (Or.inr (Or.inl ⟨dX7_digest_162, _, rfl, rfl, hq⟩))⟩
    · exfalso; omega
  | succ d ih =>
    intro k hk
    refine g_iload_n (i := 1) (t := 134) dX7_digest_133 rfl rfl rfl ?_
    refine g_aload_n (i := 0) (r := 41) (t := 135) dX7_digest_134 rfl rfl (Or.inl l9_41) rfl ?_
    refine gm_getI (o := 41) (ci := 7) (k := 4) (t := 138) l6_41 l9_41 s_41 gf_X7_79 rfl dX7_digest_135 rfl ?_
    rw [t1]
    refine g_icmp_ge_n (t1 := 158) (t2 := 141) dX7_digest_138 (by decide) rfl (by omega) (by omega) (fun h138 => ?_) (fun h138 => ?_)
    · exfalso; omega
    · refine g_aload_n (i := 0) (r := 41) (t := 142) dX7_digest_141 rfl rfl (Or.inl l9_41) rfl ?_
      refine g_aload_n (i := 0) (r := 41) (t := 143) dX7_digest_142 rfl rfl (Or.inl l9_41) rfl ?_
      refine gm_getR (o := 41) (ci := 7) (k := 3) (r := 44) (t := 146) l6_41 l9_41 s_41 gf_X7_16 rfl r_41_3 l9_44 dX7_digest_143 rfl ?_
      refine g_iload_n (i := 1) (t := 147) dX7_digest_146 rfl rfl rfl ?_
      refine gm_iald_n (a := 44) (n := 80) (t := 148) l6_44 l9_44 s_44 dX7_digest_147 (by omega) (by decide) rfl ?_
      rw [t3 k (by omega)]
      refine g_i2l (t := 149) dX7_digest_148 rfl ?_
      refine g_cVh (o := 41) (t := 152) mX7_mixes k_X7_259 imX7_mixes seX7_mixes l6_41 l9_41 s_41 rfl dX7_digest_149 (x7_mixes) rfl rfl (by decide) (by decide) (Nat.le_of_ble_eq_true rfl) rfl ?_
      refine g_iinc (i := 1) (t := 155) (L1 := [_, _]) dX7_digest_152 rfl (gi_1 _) (by decide) rfl rfl rfl ?_
      refine g_goto (t := 133) dX7_digest_155 (by decide) ?_
      exact ih (k + 1) (by omega)
theorem x7_dg4 {x : Int64} {Q : Option Value → gS → Prop} (hR : rM I S) (hD : dM I S.1 (S.1.2.2 0)) (hq : Q (some (.long (dgV (dgV x (fun p => nI ((sQ S.1).2.2.2 p)) (sC S.1)) (fun j => S.2.2.2 j) S.2.2.1))) (gM I (dgV (dgV x (fun p => nI ((sQ S.1).2.2.2 p)) (sC S.1)) (fun j => S.2.2.2 j) S.2.2.1))) : ∀ (d k : Nat), k + d = sC S.1 → Wp E fX7_digest 62 106 [.ref 41, .int (nI k)] [] (gM I (dgV x (fun p => nI ((sQ S.1).2.2.2 p)) k)) (gRet fX7_digest 62 Q) := by
  have hn := hR.1
  have hc := sC_le hn
  obtain ⟨o1, o2⟩ := hD.1
  intro d
  induction d with
  | zero =>
    intro k hk
    have hk : k = sC S.1 := by omega
    subst hk
    refine g_iload_n (i := 1) (t := 107) dX7_digest_106 rfl rfl rfl ?_
    refine g_aload_n (i := 0) (r := 41) (t := 108) dX7_digest_107 rfl rfl (Or.inl l9_41) rfl ?_
    refine gm_getI (o := 41) (ci := 7) (k := 9) (t := 111) l6_41 l9_41 s_41 gf_X7_176 rfl dX7_digest_108 rfl ?_
    rw [o1]
    refine g_icmp_ge_n (t1 := 131) (t2 := 114) dX7_digest_111 (by decide) rfl (by omega) (by omega) (fun h111 => ?_) (fun h111 => ?_)
    · refine g_iconst (t := 132) dX7_digest_131 c_iconst_0 rfl ?_
      refine g_istore_n (i := 1) (t := 133) (L1 := [_, _]) dX7_digest_132 rfl (by decide) rfl rfl rfl ?_
      exact x7_dg5 hR hq S.2.2.1 0 (Nat.zero_add _)
    · exfalso; omega
  | succ d ih =>
    intro k hk
    refine g_iload_n (i := 1) (t := 107) dX7_digest_106 rfl rfl rfl ?_
    refine g_aload_n (i := 0) (r := 41) (t := 108) dX7_digest_107 rfl rfl (Or.inl l9_41) rfl ?_
    refine gm_getI (o := 41) (ci := 7) (k := 9) (t := 111) l6_41 l9_41 s_41 gf_X7_176 rfl dX7_digest_108 rfl ?_
    rw [o1]
    refine g_icmp_ge_n (t1 := 131) (t2 := 114) dX7_digest_111 (by decide) rfl (by omega) (by omega) (fun h111 => ?_) (fun h111 => ?_)
    · exfalso; omega
    · refine g_aload_n (i := 0) (r := 41) (t := 115) dX7_digest_114 rfl rfl (Or.inl l9_41) rfl ?_
      refine g_aload_n (i := 0) (r := 41) (t := 116) dX7_digest_115 rfl rfl (Or.inl l9_41) rfl ?_
      refine gm_getR (o := 41) (ci := 7) (k := 8) (r := 46) (t := 119) l6_41 l9_41 s_41 gf_X7_22 rfl r_41_8 l9_46 dX7_digest_116 rfl ?_
      refine g_iload_n (i := 1) (t := 120) dX7_digest_119 rfl rfl rfl ?_
      refine gm_iald_n (a := 46) (n := 16) (t := 121) l6_46 l9_46 s_46 dX7_digest_120 (by omega) (by decide) rfl ?_
      rw [o2 k (by omega)]
      refine g_i2l (t := 122) dX7_digest_121 rfl ?_
      refine g_cVh (o := 41) (t := 125) mX7_mixes k_X7_259 imX7_mixes seX7_mixes l6_41 l9_41 s_41 rfl dX7_digest_122 (x7_mixes) rfl rfl (by decide) (by decide) (Nat.le_of_ble_eq_true rfl) rfl ?_
      refine g_iinc (i := 1) (t := 128) (L1 := [_, _]) dX7_digest_125 rfl (gi_1 _) (by decide) rfl rfl rfl ?_
      refine g_goto (t := 106) dX7_digest_128 (by decide) ?_
      exact ih (k + 1) (by omega)
theorem x7_dg3 {x : Int64} {Q : Option Value → gS → Prop} (hR : rM I S) (hD : dM I S.1 (S.1.2.2 0)) (hq : Q (some (.long (dgV (dgV (dgLs S x (nln (sQ S.1) (sC S.1))) (fun p => nI ((sQ S.1).2.2.2 p)) (sC S.1)) (fun j => S.2.2.2 j) S.2.2.1))) (gM I (dgV (dgV (dgLs S x (nln (sQ S.1) (sC S.1))) (fun p => nI ((sQ S.1).2.2.2 p)) (sC S.1)) (fun j => S.2.2.2 j) S.2.2.1))) : ∀ (d l k : Nat), k < 8 → 8 * l + k + d = 8 * nln (sQ S.1) (sC S.1) → Wp E fX7_digest 62 70 [.ref 41, .int (nI (8 * l + k))] [] (gM I (dgV (dgLs S x l) (lnV S.1 l) k)) (gRet fX7_digest 62 Q) := by
  have hn := hR.1
  have hc := sC_le hn
  have hC := hR.2.1
  have l1 : I 41 13 = nI (nln (sQ S.1) (sC S.1)) := hD.2.1.1
  have hnl := nln_le (sQ S.1) (sC S.1)
  intro d
  induction d with
  | zero =>
    intro l k hk8 hk
    have hk0 : k = 0 := by omega
    subst hk0
    have hl : l = nln (sQ S.1) (sC S.1) := by omega
    subst hl
    refine g_iload_n (i := 1) (t := 71) dX7_digest_70 rfl rfl rfl ?_
    refine g_bipush (t := 73) dX7_digest_71 c_bipush_8 rfl ?_
    refine g_aload_n (i := 0) (r := 41) (t := 74) dX7_digest_73 rfl rfl (Or.inl l9_41) rfl ?_
    refine gm_getI (o := 41) (ci := 7) (k := 13) (t := 77) l6_41 l9_41 s_41 gf_X7_182 rfl dX7_digest_74 rfl ?_
    rw [l1]
    refine g_imul (t := 78) dX7_digest_77 rfl ?_
    refine g_top (pk_mul _ _) ?_
    refine g_icmp_ge_n (t1 := 104) (t2 := 81) dX7_digest_78 (by decide) rfl (by omega) (by omega) (fun h78 => ?_) (fun h78 => ?_)
    · refine g_iconst (t := 105) dX7_digest_104 c_iconst_0 rfl ?_
      refine g_istore_n (i := 1) (t := 106) (L1 := [_, _]) dX7_digest_105 rfl (by decide) rfl rfl rfl ?_
      exact x7_dg4 hR hD hq (sC S.1) 0 (Nat.zero_add _)
    · exfalso; omega
  | succ d ih =>
    intro l k hk8 hk
    have ne8 : ¬ nI 8 = 0 := by decide
    have ed : nI (8 * l + k) / nI 8 = nI l := by rw [pk_div (by omega) (by decide) (by decide)]; exact congrArg nI (by omega)
    have em : nI (8 * l + k) - nI (8 * l + k) / nI 8 * nI 8 = nI k := by rw [pk_rem (by omega) (by decide) (by decide)]; exact congrArg nI (by omega)
    refine g_iload_n (i := 1) (t := 71) dX7_digest_70 rfl rfl rfl ?_
    refine g_bipush (t := 73) dX7_digest_71 c_bipush_8 rfl ?_
    refine g_aload_n (i := 0) (r := 41) (t := 74) dX7_digest_73 rfl rfl (Or.inl l9_41) rfl ?_
    refine gm_getI (o := 41) (ci := 7) (k := 13) (t := 77) l6_41 l9_41 s_41 gf_X7_182 rfl dX7_digest_74 rfl ?_
    rw [l1]
    refine g_imul (t := 78) dX7_digest_77 rfl ?_
    refine g_top (pk_mul _ _) ?_
    refine g_icmp_ge_n (t1 := 104) (t2 := 81) dX7_digest_78 (by decide) rfl (by omega) (by omega) (fun h78 => ?_) (fun h78 => ?_)
    · exfalso; omega
    · refine g_aload_n (i := 0) (r := 41) (t := 82) dX7_digest_81 rfl rfl (Or.inl l9_41) rfl ?_
      refine g_aload_n (i := 0) (r := 41) (t := 83) dX7_digest_82 rfl rfl (Or.inl l9_41) rfl ?_
      refine g_iload_n (i := 1) (t := 84) dX7_digest_83 rfl rfl rfl ?_
      refine g_bipush (t := 86) dX7_digest_84 c_bipush_8 rfl ?_
      refine g_idiv (t := 87) dX7_digest_86 ne8 rfl ?_
      rw [ed]
      refine g_iload_n (i := 1) (t := 88) dX7_digest_87 rfl rfl rfl ?_
      refine g_bipush (t := 90) dX7_digest_88 c_bipush_8 rfl ?_
      refine g_irem (t := 91) dX7_digest_90 ne8 rfl ?_
      rw [em]
      refine g_cVp (o := 41) (t := 94) mX7_linePart k_X7_234 imX7_linePart seX7_linePart l6_41 l9_41 s_41 rfl dX7_digest_91 (x7_linePart hC hn hD (by omega) hk8) rfl rfl (by decide) (by decide) (Nat.le_of_ble_eq_true rfl) rfl ?_
      refine g_i2l (t := 95) dX7_digest_94 rfl ?_
      refine g_cVh (o := 41) (t := 98) mX7_mixes k_X7_259 imX7_mixes seX7_mixes l6_41 l9_41 s_41 rfl dX7_digest_95 (x7_mixes) rfl rfl (by decide) (by decide) (Nat.le_of_ble_eq_true rfl) rfl ?_
      refine g_iinc (i := 1) (t := 101) (L1 := [_, _]) dX7_digest_98 rfl (gi_1 _) (by decide) rfl rfl rfl ?_
      refine g_goto (t := 70) dX7_digest_101 (by decide) ?_
      by_cases y : k = 7
      · subst y
        have := ih (l + 1) 0 (by decide) (by omega)
        exact this
      · exact ih l (k + 1) (by omega) (by omega)
theorem x7_dg2 {x : Int64} {Q : Option Value → gS → Prop} (hR : rM I S) (hV : vT S) (hD : dM I S.1 (S.1.2.2 0)) (hq : Q (some (.long (dgV (dgV (dgLs S (dgIs S x S.1.1) (nln (sQ S.1) (sC S.1))) (fun p => nI ((sQ S.1).2.2.2 p)) (sC S.1)) (fun j => S.2.2.2 j) S.2.2.1))) (gM I (dgV (dgV (dgLs S (dgIs S x S.1.1) (nln (sQ S.1) (sC S.1))) (fun p => nI ((sQ S.1).2.2.2 p)) (sC S.1)) (fun j => S.2.2.2 j) S.2.2.1))) : ∀ (d k : Nat), k + d = S.1.1 → Wp E fX7_digest 62 45 [.ref 41, .int (nI k)] [] (gM I (dgIs S x k)) (gRet fX7_digest 62 Q) := by
  have hn := hR.1
  have hC := hR.2.1
  intro d
  induction d with
  | zero =>
    intro k hk
    have hk : k = S.1.1 := by omega
    subst hk
    refine g_iload_n (i := 1) (t := 46) dX7_digest_45 rfl rfl rfl ?_
    refine g_aload_n (i := 0) (r := 41) (t := 47) dX7_digest_46 rfl rfl (Or.inl l9_41) rfl ?_
    refine gm_getR (o := 41) (ci := 7) (k := 0) (r := 42) (t := 50) l6_41 l9_41 s_41 gf_X7_7 rfl r_41_0 l9_42 dX7_digest_47 rfl ?_
    refine g_sipush (t := 53) dX7_digest_50 c_sipush_176 rfl ?_
    refine gm_iald_n (a := 42) (n := 184) (t := 54) l6_42 l9_42 s_42 dX7_digest_53 (by omega) (by decide) rfl ?_
    rw [hC.1]
    refine g_icmp_ge_n (t1 := 68) (t2 := 57) dX7_digest_54 (by decide) rfl (by omega) (by omega) (fun h54 => ?_) (fun h54 => ?_)
    · refine g_iconst (t := 69) dX7_digest_68 c_iconst_0 rfl ?_
      refine g_istore_n (i := 1) (t := 70) (L1 := [_, _]) dX7_digest_69 rfl (by decide) rfl rfl rfl ?_
      exact x7_dg3 hR hD hq (8 * nln (sQ S.1) (sC S.1)) 0 0 (by decide) (by omega)
    · exfalso; omega
  | succ d ih =>
    intro k hk
    refine g_iload_n (i := 1) (t := 46) dX7_digest_45 rfl rfl rfl ?_
    refine g_aload_n (i := 0) (r := 41) (t := 47) dX7_digest_46 rfl rfl (Or.inl l9_41) rfl ?_
    refine gm_getR (o := 41) (ci := 7) (k := 0) (r := 42) (t := 50) l6_41 l9_41 s_41 gf_X7_7 rfl r_41_0 l9_42 dX7_digest_47 rfl ?_
    refine g_sipush (t := 53) dX7_digest_50 c_sipush_176 rfl ?_
    refine gm_iald_n (a := 42) (n := 184) (t := 54) l6_42 l9_42 s_42 dX7_digest_53 (by omega) (by decide) rfl ?_
    rw [hC.1]
    refine g_icmp_ge_n (t1 := 68) (t2 := 57) dX7_digest_54 (by decide) rfl (by omega) (by omega) (fun h54 => ?_) (fun h54 => ?_)
    · exfalso; omega
    · refine g_aload_n (i := 0) (r := 41) (t := 58) dX7_digest_57 rfl rfl (Or.inl l9_41) rfl ?_
      refine g_iload_n (i := 1) (t := 59) dX7_digest_58 rfl rfl rfl ?_
      refine g_cVh (o := 41) (t := 62) mX7_mixesItem k_X7_265 imX7_mixesItem seX7_mixesItem l6_41 l9_41 s_41 rfl dX7_digest_59 (x7_mixesItem hR hV hD (by omega)) rfl rfl (by decide) (by decide) (Nat.le_of_ble_eq_true rfl) rfl ?_
      refine g_iinc (i := 1) (t := 65) (L1 := [_, _]) dX7_digest_62 rfl (gi_1 _) (by decide) rfl rfl rfl ?_
      refine g_goto (t := 45) dX7_digest_65 (by decide) ?_
      exact ih (k + 1) (by omega)
theorem x7_dg1 {Q : Option Value → gS → Prop} (hR : rM I S) (hV : vT S) (hD : dM I S.1 (S.1.2.2 0)) (hq : Q (some (.long (dgA S))) (gM I (dgA S))) : ∀ (d k : Nat), k + d = 14 → Wp E fX7_digest 62 21 [.ref 41, .int (nI k)] [] (gM I (dgV 148 (cnV S) k)) (gRet fX7_digest 62 Q) := by
  intro d
  induction d with
  | zero =>
    intro k hk
    have hk : k = 14 := by omega
    subst hk
    refine g_iload_n (i := 1) (t := 22) dX7_digest_21 rfl rfl rfl ?_
    refine g_bipush (t := 24) dX7_digest_22 c_bipush_14 rfl ?_
    refine g_icmp_ge_n (t1 := 43) (t2 := 27) dX7_digest_24 (by decide) rfl (by omega) (by omega) (fun h24 => ?_) (fun h24 => ?_)
    · refine g_iconst (t := 44) dX7_digest_43 c_iconst_0 rfl ?_
      refine g_istore_n (i := 1) (t := 45) (L1 := [_, _]) dX7_digest_44 rfl (by decide) rfl rfl rfl ?_
      exact x7_dg2 hR hV hD hq S.1.1 0 (Nat.zero_add _)
    · exfalso; omega
  | succ d ih =>
    intro k hk
    refine g_iload_n (i := 1) (t := 22) dX7_digest_21 rfl rfl rfl ?_
    refine g_bipush (t := 24) dX7_digest_22 c_bipush_14 rfl ?_
    refine g_icmp_ge_n (t1 := 43) (t2 := 27) dX7_digest_24 (by decide) rfl (by omega) (by omega) (fun h24 => ?_) (fun h24 => ?_)
    · exfalso; omega
    · refine g_aload_n (i := 0) (r := 41) (t := 28) dX7_digest_27 rfl rfl (Or.inl l9_41) rfl ?_
      refine g_aload_n (i := 0) (r := 41) (t := 29) dX7_digest_28 rfl rfl (Or.inl l9_41) rfl ?_
      refine g_iload_n (i := 1) (t := 30) dX7_digest_29 rfl rfl rfl ?_
      refine g_cVp (o := 41) (t := 33) mX7_number k_X7_247 imX7_number seX7_number l6_41 l9_41 s_41 rfl dX7_digest_30 (x7_number hR hV hD (by omega)) rfl rfl (by decide) (by decide) (Nat.le_of_ble_eq_true rfl) rfl ?_
      refine g_i2l (t := 34) dX7_digest_33 rfl ?_
      refine g_cVh (o := 41) (t := 37) mX7_mixes k_X7_259 imX7_mixes seX7_mixes l6_41 l9_41 s_41 rfl dX7_digest_34 (x7_mixes) rfl rfl (by decide) (by decide) (Nat.le_of_ble_eq_true rfl) rfl ?_
      refine g_iinc (i := 1) (t := 40) (L1 := [_, _]) dX7_digest_37 rfl (gi_1 _) (by decide) rfl rfl rfl ?_
      refine g_goto (t := 21) dX7_digest_40 (by decide) ?_
      exact ih (k + 1) (by omega)
theorem x7_digest (hR : rM I S) (hV : vT S) : gEv E fX7_digest 62 [.ref 41] (gM I h) (fun r σ' => ∃ (v : Int64) (I' : Nat → Nat → Int32) (h' : Int64), r = some (.long v) ∧ σ' = gM I' h' ∧ gSame ML I I' ∧ v = dgA S ∧ rM I' S) := by
  refine gEv.of rfl (Nat.le_refl _) (Nat.le_of_ble_eq_true rfl) (L := [.ref 41, .null]) rfl ?_
  have hC := hR.2.1
  refine g_aload_n (i := 0) (r := 41) (t := 1) dX7_digest_0 rfl rfl (Or.inl l9_41) rfl ?_
  refine g_ldc2 (v := 148) (t := 4) kc_X7_263 dX7_digest_1 rfl ?_
  refine gm_putL (ci := 7) (k := 26) (t := 7) s_41 gp_X7_252 rfl (fun j hj => gfk_one hj) dX7_digest_4 rfl ?_
  refine g_aload_n (i := 0) (r := 41) (t := 8) dX7_digest_7 rfl rfl (Or.inl l9_41) rfl ?_
  refine g_aload_n (i := 0) (r := 41) (t := 9) dX7_digest_8 rfl rfl (Or.inl l9_41) rfl ?_
  refine gm_getR (o := 41) (ci := 7) (k := 0) (r := 42) (t := 12) l6_41 l9_41 s_41 gf_X7_7 rfl r_41_0 l9_42 dX7_digest_9 rfl ?_
  refine g_sipush (t := 15) dX7_digest_12 c_sipush_177 rfl ?_
  refine gm_iald_n (a := 42) (n := 184) (t := 16) l6_42 l9_42 s_42 dX7_digest_15 (by omega) (by decide) rfl ?_
  rw [show I 42 177 = S.1.2.2 0 from hC.2.2 0 (by decide)]
  refine g_cVv (o := 41) (t := 19) mX7_draws k_X7_161 imX7_draws seX7_draws l6_41 l9_41 s_41 rfl dX7_digest_16 (x7_draws hV.1 hV.1.b0 hC) rfl rfl (by decide) (by decide) (Nat.le_of_ble_eq_true rfl) rfl (fun J q => ?_)
  refine g_iconst (t := 20) dX7_digest_19 c_iconst_0 rfl ?_
  refine g_istore_n (i := 1) (t := 21) (L1 := [_, _]) dX7_digest_20 rfl (by decide) rfl rfl rfl ?_
  exact x7_dg1 (hR.drawn q.1 q.2.1) hV q.2.2 ⟨_, _, _, rfl, rfl, q.1.wk rfl, rfl, hR.drawn q.1 q.2.1⟩ 14 0 rfl
end X7V

