/-! FlexRowsModel: what is told -/
theorem lsm_start (Q : lQ) {p : Nat} (h : p = 0 ∨ lin Q (p - 1) < lin Q p) : lsm Q p = ob Q p := by
  cases p with
  | zero => rfl
  | succ p =>
    have h : lin Q p < lin Q (p + 1) := h.resolve_left (Nat.succ_ne_zero _)
    unfold lsm
    by_cases y : Q.2.1 3 = nI 1 ∧ Q.2.2.1 < (lnS Q p).1 + Q.2.1 1 + ob Q (p + 1)
    · rw [lnS, if_pos y]
    · have e : lnS Q (p + 1) = _ := if_neg y
      have : lin Q (p + 1) = lin Q p := by unfold lin; rw [e]
      omega
theorem lsm_step (Q : lQ) {p : Nat} (h : lin Q (p + 1) = lin Q p) : lsm Q (p + 1) = lsm Q p + Q.2.1 1 + ob Q (p + 1) := by
  unfold lsm
  by_cases y : Q.2.1 3 = nI 1 ∧ Q.2.2.1 < (lnS Q p).1 + Q.2.1 1 + ob Q (p + 1)
  · have e : lnS Q (p + 1) = _ := if_pos y
    have : lin Q (p + 1) = lin Q p + 1 := by unfold lin; rw [e]
    omega
  · rw [lnS, if_neg y]
theorem lsm_sum (Q : lQ) {lo : Nat} (h0 : lsm Q lo = ob Q lo) : ∀ k, (∀ j, j < k → lin Q (lo + (j + 1)) = lin Q (lo + j)) → lsm Q (lo + k) = Q.2.1 1 * nI k + smS (ob Q) lo (k + 1)
  | 0, _ => by
    rw [smS, smS, Nat.add_zero, h0, nI_0, Int32.mul_zero, Int32.zero_add, Int32.zero_add]
  | k + 1, h => by
    have hst : lsm Q (lo + k + 1) = lsm Q (lo + k) + Q.2.1 1 + ob Q (lo + k + 1) := lsm_step Q (h k (by omega))
    have e : smS (ob Q) lo (k + 1 + 1) = smS (ob Q) lo (k + 1) + ob Q (lo + k + 1) := rfl
    rw [show lo + (k + 1) = (lo + k) + 1 from rfl, hst, lsm_sum Q h0 k (fun j hj => h j (by omega)), e]
    generalize smS (ob Q) lo (k + 1) = X
    generalize ob Q (lo + k + 1) = Y
    rw [show nI (k + 1) = nI k + nI 1 from (nI_add _ _).symm, Int32.mul_add, show Q.2.1 1 * nI 1 = Q.2.1 1 from Int32.mul_one _]
    generalize Q.2.1 1 * nI k = Z
    rw [Int32.add_assoc Z X, Int32.add_comm X, ← Int32.add_assoc Z, Int32.add_assoc _ X]
theorem lsm_line (Q : lQ) {c l : Nat} (hl : l < nln Q c) : lsm Q (frC Q c (l + 1) - 1) = Q.2.1 1 * nI (frC Q c (l + 1) - frC Q c l - 1) + smS (ob Q) (frC Q c l) (frC Q c (l + 1) - frC Q c l) := by
  have hp := frC_pos Q c l hl
  have hle := frC_le Q c (l + 1)
  have hin : ∀ q, frC Q c l ≤ q → q < frC Q c (l + 1) → lin Q q = l := fun q a b => (frC_lin Q (c := c) (by omega)).mpr ⟨a, b⟩
  have h0 : lsm Q (frC Q c l) = ob Q (frC Q c l) := by
    refine lsm_start Q ?_
    rcases Nat.eq_zero_or_pos (frC Q c l) with y | y
    · exact Or.inl y
    · refine Or.inr ?_
      rw [hin _ (Nat.le_refl _) hp]
      exact (frC_iff Q c l (frC Q c l - 1) (by omega)).mpr (by omega)
  have := lsm_sum Q h0 (frC Q c (l + 1) - frC Q c l - 1) (fun j hj => by rw [hin _ (by omega) (by omega), hin _ (by omega) (by omega)])
  rw [show frC Q c l + (frC Q c (l + 1) - frC Q c l - 1) = frC Q c (l + 1) - 1 by omega, show frC Q c (l + 1) - frC Q c l - 1 + 1 = frC Q c (l + 1) - frC Q c l by omega] at this
  exact this
section X7Q
variable {E : gE} {I : Nat → Nat → Int32} {h : Int64} {S : sT} {s : sS}
theorem x7_liesAt {p k : Nat} (hC : mC I s) (hn : s.1 ≤ 16) (hD : dM I s (s.2.2 0)) (hp : p < sC s) (hk : k < 8) : gPI E fX7_liesAt [.ref 41, .int (nI p), .int (nI k)] I h (liV s p k) := by
  refine gEv.of rfl (Nat.le_refl _) (Nat.le_of_ble_eq_true rfl) (L := [.ref 41, .int (nI p), .int (nI k)]) rfl ?_
  have hc := sC_le hn
  obtain ⟨hO, hL, hD⟩ := hD
  have hlt := lin_lt (sW s (s.2.2 0)) hp
  obtain ⟨d1, d2, d3, d4⟩ := hD.2 p hp hlt
  have x1 := hO.2 p hp
  have x2 := sQ_le hn hp
  refine g_iload_n (i := 2) (t := 1) dX7_liesAt_0 rfl rfl rfl ?_
  refine g_sw7 (l := 0) (td := 105) (t0 := 44) (t1 := 51) (t2 := 53) (t3 := 60) (t4 := 67) (t5 := 74) (t6 := 87) (by decide) dX7_liesAt_1 rfl rfl (by decide) (by decide) (by decide) (by decide) (by decide) (by decide) (by decide) (by decide) (fun h1_0 => ?_) (fun h1_1 => ?_) (fun h1_2 => ?_) (fun h1_3 => ?_) (fun h1_4 => ?_) (fun h1_5 => ?_) (fun h1_6 => ?_) (fun h1_d => ?_)
  · have e : k = 0 := by have := (nI_eq (by omega) (by omega)).mp h1_0; omega
    subst e
    refine g_aload_n (i := 0) (r := 41) (t := 45) dX7_liesAt_44 rfl rfl (Or.inl l9_41) rfl ?_
    refine gm_getR (o := 41) (ci := 7) (k := 10) (r := 47) (t := 48) l6_41 l9_41 s_41 gf_X7_25 rfl r_41_10 l9_47 dX7_liesAt_45 rfl ?_
    refine g_iload_n (i := 1) (t := 49) dX7_liesAt_48 rfl rfl rfl ?_
    refine gm_iald_n (a := 47) (n := 16) (t := 50) l6_47 l9_47 s_47 dX7_liesAt_49 (by omega) (by decide) rfl ?_
    exact g_retP dX7_liesAt_50 rfl rfl (hL.2.1 p hp)
  · have e : k = 1 := by have := (nI_eq (by omega) (by omega)).mp h1_1; omega
    subst e
    refine g_iload_n (i := 1) (t := 52) dX7_liesAt_51 rfl rfl rfl ?_
    exact g_retP dX7_liesAt_52 rfl rfl (rfl)
  · have e : k = 2 := by have := (nI_eq (by omega) (by omega)).mp h1_2; omega
    subst e
    refine g_aload_n (i := 0) (r := 41) (t := 54) dX7_liesAt_53 rfl rfl (Or.inl l9_41) rfl ?_
    refine gm_getR (o := 41) (ci := 7) (k := 22) (r := 58) (t := 57) l6_41 l9_41 s_41 gf_X7_59 rfl r_41_22 l9_58 dX7_liesAt_54 rfl ?_
    refine g_iload_n (i := 1) (t := 58) dX7_liesAt_57 rfl rfl rfl ?_
    refine gm_iald_n (a := 58) (n := 16) (t := 59) l6_58 l9_58 s_58 dX7_liesAt_58 (by omega) (by decide) rfl ?_
    exact g_retP dX7_liesAt_59 rfl rfl (d3)
  · have e : k = 3 := by have := (nI_eq (by omega) (by omega)).mp h1_3; omega
    subst e
    refine g_aload_n (i := 0) (r := 41) (t := 61) dX7_liesAt_60 rfl rfl (Or.inl l9_41) rfl ?_
    refine gm_getR (o := 41) (ci := 7) (k := 14) (r := 50) (t := 64) l6_41 l9_41 s_41 gf_X7_34 rfl r_41_14 l9_50 dX7_liesAt_61 rfl ?_
    refine g_iload_n (i := 1) (t := 65) dX7_liesAt_64 rfl rfl rfl ?_
    refine gm_iald_n (a := 50) (n := 16) (t := 66) l6_50 l9_50 s_50 dX7_liesAt_65 (by omega) (by decide) rfl ?_
    exact g_retP dX7_liesAt_66 rfl rfl (d1)
  · have e : k = 4 := by have := (nI_eq (by omega) (by omega)).mp h1_4; omega
    subst e
    refine g_aload_n (i := 0) (r := 41) (t := 68) dX7_liesAt_67 rfl rfl (Or.inl l9_41) rfl ?_
    refine gm_getR (o := 41) (ci := 7) (k := 23) (r := 59) (t := 71) l6_41 l9_41 s_41 gf_X7_62 rfl r_41_23 l9_59 dX7_liesAt_68 rfl ?_
    refine g_iload_n (i := 1) (t := 72) dX7_liesAt_71 rfl rfl rfl ?_
    refine gm_iald_n (a := 59) (n := 16) (t := 73) l6_59 l9_59 s_59 dX7_liesAt_72 (by omega) (by decide) rfl ?_
    exact g_retP dX7_liesAt_73 rfl rfl (d4)
  · have e : k = 5 := by have := (nI_eq (by omega) (by omega)).mp h1_5; omega
    subst e
    refine g_aload_n (i := 0) (r := 41) (t := 75) dX7_liesAt_74 rfl rfl (Or.inl l9_41) rfl ?_
    refine gm_getR (o := 41) (ci := 7) (k := 23) (r := 59) (t := 78) l6_41 l9_41 s_41 gf_X7_62 rfl r_41_23 l9_59 dX7_liesAt_75 rfl ?_
    refine g_iload_n (i := 1) (t := 79) dX7_liesAt_78 rfl rfl rfl ?_
    refine gm_iald_n (a := 59) (n := 16) (t := 80) l6_59 l9_59 s_59 dX7_liesAt_79 (by omega) (by decide) rfl ?_
    refine g_aload_n (i := 0) (r := 41) (t := 81) dX7_liesAt_80 rfl rfl (Or.inl l9_41) rfl ?_
    refine g_iload_n (i := 1) (t := 82) dX7_liesAt_81 rfl rfl rfl ?_
    refine g_cVp (o := 41) (t := 85) mX7_above k_X7_210 imX7_above seX7_above l6_41 l9_41 s_41 rfl dX7_liesAt_82 (x7_above (c := 0) (f := (sQ s).2.2.2) hC hn x1 (by omega) x2) rfl rfl (by decide) (by decide) (Nat.le_of_ble_eq_true rfl) rfl ?_
    refine g_iadd (t := 86) dX7_liesAt_85 rfl ?_
    exact g_retP dX7_liesAt_86 rfl rfl (by rw [d4]; rfl)
  · have e : k = 6 := by have := (nI_eq (by omega) (by omega)).mp h1_6; omega
    subst e
    refine g_aload_n (i := 0) (r := 41) (t := 88) dX7_liesAt_87 rfl rfl (Or.inl l9_41) rfl ?_
    refine gm_getR (o := 41) (ci := 7) (k := 14) (r := 50) (t := 91) l6_41 l9_41 s_41 gf_X7_34 rfl r_41_14 l9_50 dX7_liesAt_88 rfl ?_
    refine g_iload_n (i := 1) (t := 92) dX7_liesAt_91 rfl rfl rfl ?_
    refine gm_iald_n (a := 50) (n := 16) (t := 93) l6_50 l9_50 s_50 dX7_liesAt_92 (by omega) (by decide) rfl ?_
    refine g_aload_n (i := 0) (r := 41) (t := 94) dX7_liesAt_93 rfl rfl (Or.inl l9_41) rfl ?_
    refine g_aload_n (i := 0) (r := 41) (t := 95) dX7_liesAt_94 rfl rfl (Or.inl l9_41) rfl ?_
    refine gm_getR (o := 41) (ci := 7) (k := 8) (r := 46) (t := 98) l6_41 l9_41 s_41 gf_X7_22 rfl r_41_8 l9_46 dX7_liesAt_95 rfl ?_
    refine g_iload_n (i := 1) (t := 99) dX7_liesAt_98 rfl rfl rfl ?_
    refine gm_iald_n (a := 46) (n := 16) (t := 100) l6_46 l9_46 s_46 dX7_liesAt_99 (by omega) (by decide) rfl ?_
    rw [x1]
    refine g_cVp (o := 41) (t := 103) mX7_wish k_X7_179 imX7_wish seX7_wish l6_41 l9_41 s_41 rfl dX7_liesAt_100 (x7_wish hC hn x2) rfl rfl (by decide) (by decide) (Nat.le_of_ble_eq_true rfl) rfl ?_
    refine g_isub (t := 104) dX7_liesAt_103 rfl ?_
    exact g_retP dX7_liesAt_104 rfl rfl (by rw [d1]; rfl)
  · have e : k = 7 := by
      apply Classical.byContradiction
      intro q
      exact h1_d k (by omega) (congrArg nI (by omega))
    subst e
    refine g_aload_n (i := 0) (r := 41) (t := 106) dX7_liesAt_105 rfl rfl (Or.inl l9_41) rfl ?_
    refine gm_getR (o := 41) (ci := 7) (k := 16) (r := 52) (t := 109) l6_41 l9_41 s_41 gf_X7_40 rfl r_41_16 l9_52 dX7_liesAt_106 rfl ?_
    refine g_iload_n (i := 1) (t := 110) dX7_liesAt_109 rfl rfl rfl ?_
    refine gm_iald_n (a := 52) (n := 16) (t := 111) l6_52 l9_52 s_52 dX7_liesAt_110 (by omega) (by decide) rfl ?_
    exact g_retP dX7_liesAt_111 rfl rfl (d2)
theorem x7_ou_loop {l : Nat} {w : Int32} (hB : mB I s (lnA (sW s w) (sC s) l) l) (hO : mO I (sC s) (sQ s).2.2.2) (hle : (lnA (sW s w) (sC s) l).2.1 + (lnA (sW s w) (sC s) l).2.2 ≤ sC s) {r : Int32} : ∀ (d k : Nat), k + d = (lnA (sW s w) (sC s) l).2.2 → Wp E fX7_outer 62 32 [.ref 41, .int (nI l), .int (r + smS (ob (sW s w)) (lnA (sW s w) (sC s) l).2.1 k), .int (nI ((lnA (sW s w) (sC s) l).2.1 + k))] [] (gM I h) (gRet fX7_outer 62 (fun v σ' => v = some (.int (r + smS (ob (sW s w)) (lnA (sW s w) (sC s) l).2.1 (lnA (sW s w) (sC s) l).2.2)) ∧ σ' = gM I h)) := by
  have ⟨b1, b2, b3, b4, b5, b6, b7, b8, b9⟩ := hB
  have hc := sC_le b2
  intro d
  induction d with
  | zero =>
    intro k hk
    have hk : k = (lnA (sW s w) (sC s) l).2.2 := by omega
    subst hk
    refine g_iload_n (i := 3) (t := 33) dX7_outer_32 rfl rfl rfl ?_
    refine g_aload_n (i := 0) (r := 41) (t := 34) dX7_outer_33 rfl rfl (Or.inl l9_41) rfl ?_
    refine gm_getR (o := 41) (ci := 7) (k := 12) (r := 49) (t := 37) l6_41 l9_41 s_41 gf_X7_31 rfl r_41_12 l9_49 dX7_outer_34 rfl ?_
    refine g_iload_n (i := 1) (t := 38) dX7_outer_37 rfl rfl rfl ?_
    refine gm_iald_n (a := 49) (n := 16) (t := 39) l6_49 l9_49 s_49 dX7_outer_38 (by omega) (by decide) rfl ?_
    rw [b5]
    refine g_icmp_ge_n (t1 := 56) (t2 := 42) dX7_outer_39 (by decide) rfl (by omega) (by omega) (fun h39 => ?_) (fun h39 => ?_)
    · refine g_iload_n (i := 2) (t := 57) dX7_outer_56 rfl rfl rfl ?_
      exact g_retP dX7_outer_57 rfl rfl (rfl)
    · exfalso; omega
  | succ d ih =>
    intro k hk
    have x2 := sQ_le (p := (lnA (sW s w) (sC s) l).2.1 + k) b2 (by omega)
    refine g_iload_n (i := 3) (t := 33) dX7_outer_32 rfl rfl rfl ?_
    refine g_aload_n (i := 0) (r := 41) (t := 34) dX7_outer_33 rfl rfl (Or.inl l9_41) rfl ?_
    refine gm_getR (o := 41) (ci := 7) (k := 12) (r := 49) (t := 37) l6_41 l9_41 s_41 gf_X7_31 rfl r_41_12 l9_49 dX7_outer_34 rfl ?_
    refine g_iload_n (i := 1) (t := 38) dX7_outer_37 rfl rfl rfl ?_
    refine gm_iald_n (a := 49) (n := 16) (t := 39) l6_49 l9_49 s_49 dX7_outer_38 (by omega) (by decide) rfl ?_
    rw [b5]
    refine g_icmp_ge_n (t1 := 56) (t2 := 42) dX7_outer_39 (by decide) rfl (by omega) (by omega) (fun h39 => ?_) (fun h39 => ?_)
    · exfalso; omega
    · refine g_iload_n (i := 2) (t := 43) dX7_outer_42 rfl rfl rfl ?_
      refine g_aload_n (i := 0) (r := 41) (t := 44) dX7_outer_43 rfl rfl (Or.inl l9_41) rfl ?_
      refine g_iload_n (i := 3) (t := 45) dX7_outer_44 rfl rfl rfl ?_
      refine g_cVp (o := 41) (t := 48) mX7_outerWish k_X7_185 imX7_outerWish seX7_outerWish l6_41 l9_41 s_41 rfl dX7_outer_45 (x7_outerWish b1 b2 hO hc (by omega) x2) rfl rfl (by decide) (by decide) (Nat.le_of_ble_eq_true rfl) rfl ?_
      refine g_iadd (t := 49) dX7_outer_48 rfl ?_
      refine g_top (y := r + smS (ob (sW s w)) (lnA (sW s w) (sC s) l).2.1 (k + 1)) (by rw [smS, ← Int32.add_assoc]; rfl) ?_
      refine g_istore_n (i := 2) (t := 50) (L1 := [_, _, _, _]) dX7_outer_49 rfl (by decide) rfl rfl rfl ?_
      refine g_iinc (i := 3) (t := 53) (L1 := [_, _, _, _]) dX7_outer_50 rfl (gi_1 _) (by decide) rfl rfl rfl ?_
      refine g_goto (t := 32) dX7_outer_53 (by decide) ?_
      exact ih (k + 1) (by omega)
theorem x7_outer {l : Nat} {w : Int32} (hB : mB I s (lnA (sW s w) (sC s) l) l) (hO : mO I (sC s) (sQ s).2.2.2) (hl : l < nln (sW s w) (sC s)) : gPI E fX7_outer [.ref 41, .int (nI l)] I h (lsm (sW s w) (frC (sW s w) (sC s) (l + 1) - 1)) := by
  refine gEv.of rfl (Nat.le_refl _) (Nat.le_of_ble_eq_true rfl) (L := [.ref 41, .int (nI l), .null, .null]) rfl ?_
  have ⟨b1, b2, b3, b4, b5, b6, b7, b8, b9⟩ := hB
  obtain ⟨hhi, h1⟩ := lnA_hi (sW s w) (sC s) hl
  have hle := frC_le (sW s w) (sC s) (l + 1)
  rw [lsm_line (sW s w) hl]
  refine g_aload_n (i := 0) (r := 41) (t := 1) dX7_outer_0 rfl rfl (Or.inl l9_41) rfl ?_
  refine gm_getR (o := 41) (ci := 7) (k := 0) (r := 42) (t := 4) l6_41 l9_41 s_41 gf_X7_7 rfl r_41_0 l9_42 dX7_outer_1 rfl ?_
  refine g_sipush (t := 7) dX7_outer_4 c_sipush_178 rfl ?_
  refine gm_iald_n (a := 42) (n := 184) (t := 8) l6_42 l9_42 s_42 dX7_outer_7 (by omega) (by decide) rfl ?_
  rw [show I 42 178 = (sW s w).2.1 1 from b1.2.2 1 (by decide)]
  refine g_aload_n (i := 0) (r := 41) (t := 9) dX7_outer_8 rfl rfl (Or.inl l9_41) rfl ?_
  refine gm_getR (o := 41) (ci := 7) (k := 12) (r := 49) (t := 12) l6_41 l9_41 s_41 gf_X7_31 rfl r_41_12 l9_49 dX7_outer_9 rfl ?_
  refine g_iload_n (i := 1) (t := 13) dX7_outer_12 rfl rfl rfl ?_
  refine gm_iald_n (a := 49) (n := 16) (t := 14) l6_49 l9_49 s_49 dX7_outer_13 (by omega) (by decide) rfl ?_
  rw [b5]
  refine g_aload_n (i := 0) (r := 41) (t := 15) dX7_outer_14 rfl rfl (Or.inl l9_41) rfl ?_
  refine gm_getR (o := 41) (ci := 7) (k := 11) (r := 48) (t := 18) l6_41 l9_41 s_41 gf_X7_28 rfl r_41_11 l9_48 dX7_outer_15 rfl ?_
  refine g_iload_n (i := 1) (t := 19) dX7_outer_18 rfl rfl rfl ?_
  refine gm_iald_n (a := 48) (n := 16) (t := 20) l6_48 l9_48 s_48 dX7_outer_19 (by omega) (by decide) rfl ?_
  rw [b4]
  refine g_isub (t := 21) dX7_outer_20 rfl ?_
  refine g_top (y := nI (lnA (sW s w) (sC s) l).2.2) (by rw [pk_sub (by omega), Nat.add_sub_cancel_left]) ?_
  refine g_iconst (t := 22) dX7_outer_21 c_iconst_1 rfl ?_
  refine g_isub (t := 23) dX7_outer_22 rfl ?_
  refine g_top (y := nI ((lnA (sW s w) (sC s) l).2.2 - 1)) (pk_sub h1) ?_
  refine g_imul (t := 24) dX7_outer_23 rfl ?_
  refine g_istore_n (i := 2) (t := 25) (L1 := [_, _, _, _]) dX7_outer_24 rfl (by decide) rfl rfl rfl ?_
  refine g_aload_n (i := 0) (r := 41) (t := 26) dX7_outer_25 rfl rfl (Or.inl l9_41) rfl ?_
  refine gm_getR (o := 41) (ci := 7) (k := 11) (r := 48) (t := 29) l6_41 l9_41 s_41 gf_X7_28 rfl r_41_11 l9_48 dX7_outer_26 rfl ?_
  refine g_iload_n (i := 1) (t := 30) dX7_outer_29 rfl rfl rfl ?_
  refine gm_iald_n (a := 48) (n := 16) (t := 31) l6_48 l9_48 s_48 dX7_outer_30 (by omega) (by decide) rfl ?_
  rw [b4]
  refine g_istore_n (i := 3) (t := 32) (L1 := [_, _, _, _]) dX7_outer_31 rfl (by decide) rfl rfl rfl ?_
  refine Wp.eq rfl ?_ rfl rfl (x7_ou_loop hB hO (by rw [hhi]; exact hle) (r := (sW s w).2.1 1 * nI (frC (sW s w) (sC s) (l + 1) - frC (sW s w) (sC s) l - 1)) (lnA (sW s w) (sC s) l).2.2 0 (Nat.zero_add _))
  rw [smS, add_n0]
  rfl
theorem x7_linePart {l k : Nat} (hC : mC I s) (hn : s.1 ≤ 16) (hD : dM I s (s.2.2 0)) (hl : l < nln (sQ s) (sC s)) (hk : k < 8) : gPI E fX7_linePart [.ref 41, .int (nI l), .int (nI k)] I h (lnV s l k) := by
  refine gEv.of rfl (Nat.le_refl _) (Nat.le_of_ble_eq_true rfl) (L := [.ref 41, .int (nI l), .int (nI k)]) rfl ?_
  have hc := sC_le hn
  obtain ⟨hO, hL, hD⟩ := hD
  have hB := mB_of hC hn hO hL hl
  have hnl := nln_le (sQ s) (sC s)
  obtain ⟨d1, d2, d3, d4, d5⟩ := hD.1 l hl
  obtain ⟨l1, l2⟩ := hL.2.2 l hl
  have hp := frC_pos (sQ s) (sC s) l hl
  refine g_iload_n (i := 2) (t := 1) dX7_linePart_0 rfl rfl rfl ?_
  refine g_sw7 (l := 0) (td := 108) (t0 := 44) (t1 := 58) (t2 := 65) (t3 := 72) (t4 := 79) (t5 := 86) (t6 := 101) (by decide) dX7_linePart_1 rfl rfl (by decide) (by decide) (by decide) (by decide) (by decide) (by decide) (by decide) (by decide) (fun h1_0 => ?_) (fun h1_1 => ?_) (fun h1_2 => ?_) (fun h1_3 => ?_) (fun h1_4 => ?_) (fun h1_5 => ?_) (fun h1_6 => ?_) (fun h1_d => ?_)
  · have e : k = 0 := by have := (nI_eq (by omega) (by omega)).mp h1_0; omega
    subst e
    refine g_aload_n (i := 0) (r := 41) (t := 45) dX7_linePart_44 rfl rfl (Or.inl l9_41) rfl ?_
    refine gm_getR (o := 41) (ci := 7) (k := 12) (r := 49) (t := 48) l6_41 l9_41 s_41 gf_X7_31 rfl r_41_12 l9_49 dX7_linePart_45 rfl ?_
    refine g_iload_n (i := 1) (t := 49) dX7_linePart_48 rfl rfl rfl ?_
    refine gm_iald_n (a := 49) (n := 16) (t := 50) l6_49 l9_49 s_49 dX7_linePart_49 (by omega) (by decide) rfl ?_
    rw [l2]
    refine g_aload_n (i := 0) (r := 41) (t := 51) dX7_linePart_50 rfl rfl (Or.inl l9_41) rfl ?_
    refine gm_getR (o := 41) (ci := 7) (k := 11) (r := 48) (t := 54) l6_41 l9_41 s_41 gf_X7_28 rfl r_41_11 l9_48 dX7_linePart_51 rfl ?_
    refine g_iload_n (i := 1) (t := 55) dX7_linePart_54 rfl rfl rfl ?_
    refine gm_iald_n (a := 48) (n := 16) (t := 56) l6_48 l9_48 s_48 dX7_linePart_55 (by omega) (by decide) rfl ?_
    rw [l1]
    refine g_isub (t := 57) dX7_linePart_56 rfl ?_
    exact g_retP dX7_linePart_57 rfl rfl (pk_sub (by show frC (sQ s) (sC s) l ≤ frC (sQ s) (sC s) (l + 1); omega))
  · have e : k = 1 := by have := (nI_eq (by omega) (by omega)).mp h1_1; omega
    subst e
    refine g_aload_n (i := 0) (r := 41) (t := 59) dX7_linePart_58 rfl rfl (Or.inl l9_41) rfl ?_
    refine gm_getR (o := 41) (ci := 7) (k := 11) (r := 48) (t := 62) l6_41 l9_41 s_41 gf_X7_28 rfl r_41_11 l9_48 dX7_linePart_59 rfl ?_
    refine g_iload_n (i := 1) (t := 63) dX7_linePart_62 rfl rfl rfl ?_
    refine gm_iald_n (a := 48) (n := 16) (t := 64) l6_48 l9_48 s_48 dX7_linePart_63 (by omega) (by decide) rfl ?_
    exact g_retP dX7_linePart_64 rfl rfl (l1)
  · have e : k = 2 := by have := (nI_eq (by omega) (by omega)).mp h1_2; omega
    subst e
    refine g_aload_n (i := 0) (r := 41) (t := 66) dX7_linePart_65 rfl rfl (Or.inl l9_41) rfl ?_
    refine gm_getR (o := 41) (ci := 7) (k := 24) (r := 60) (t := 69) l6_41 l9_41 s_41 gf_X7_65 rfl r_41_24 l9_60 dX7_linePart_66 rfl ?_
    refine g_iload_n (i := 1) (t := 70) dX7_linePart_69 rfl rfl rfl ?_
    refine gm_iald_n (a := 60) (n := 16) (t := 71) l6_60 l9_60 s_60 dX7_linePart_70 (by omega) (by decide) rfl ?_
    exact g_retP dX7_linePart_71 rfl rfl (d4)
  · have e : k = 3 := by have := (nI_eq (by omega) (by omega)).mp h1_3; omega
    subst e
    refine g_aload_n (i := 0) (r := 41) (t := 73) dX7_linePart_72 rfl rfl (Or.inl l9_41) rfl ?_
    refine gm_getR (o := 41) (ci := 7) (k := 25) (r := 61) (t := 76) l6_41 l9_41 s_41 gf_X7_68 rfl r_41_25 l9_61 dX7_linePart_73 rfl ?_
    refine g_iload_n (i := 1) (t := 77) dX7_linePart_76 rfl rfl rfl ?_
    refine gm_iald_n (a := 61) (n := 16) (t := 78) l6_61 l9_61 s_61 dX7_linePart_77 (by omega) (by decide) rfl ?_
    exact g_retP dX7_linePart_78 rfl rfl (d5)
  · have e : k = 4 := by have := (nI_eq (by omega) (by omega)).mp h1_4; omega
    subst e
    refine g_aload_n (i := 0) (r := 41) (t := 80) dX7_linePart_79 rfl rfl (Or.inl l9_41) rfl ?_
    refine gm_getR (o := 41) (ci := 7) (k := 19) (r := 55) (t := 83) l6_41 l9_41 s_41 gf_X7_50 rfl r_41_19 l9_55 dX7_linePart_80 rfl ?_
    refine g_iload_n (i := 1) (t := 84) dX7_linePart_83 rfl rfl rfl ?_
    refine gm_iald_n (a := 55) (n := 16) (t := 85) l6_55 l9_55 s_55 dX7_linePart_84 (by omega) (by decide) rfl ?_
    exact g_retP dX7_linePart_85 rfl rfl (d1)
  · have e : k = 5 := by have := (nI_eq (by omega) (by omega)).mp h1_5; omega
    subst e
    refine g_aload_n (i := 0) (r := 41) (t := 87) dX7_linePart_86 rfl rfl (Or.inl l9_41) rfl ?_
    refine gm_getR (o := 41) (ci := 7) (k := 21) (r := 57) (t := 90) l6_41 l9_41 s_41 gf_X7_56 rfl r_41_21 l9_57 dX7_linePart_87 rfl ?_
    refine g_iload_n (i := 1) (t := 91) dX7_linePart_90 rfl rfl rfl ?_
    refine gm_zald_n (a := 57) (n := 16) (t := 92) l6_57 l9_57 s_57 dX7_linePart_91 (by omega) (by decide) rfl ?_
    rw [d3]
    refine g_if_eq (t1 := 99) (t2 := 95) dX7_linePart_92 (by decide) rfl (fun h92 => ?_) (fun h92 => ?_)
    · refine g_iconst (t := 100) dX7_linePart_99 c_iconst_0 rfl ?_
      exact g_retP dX7_linePart_100 rfl rfl (by
    show _ = bI (grL (lnA (sW s (s.2.2 0)) (sC s) l))
    first
    | (rw [bI_0 h92]; rfl)
    | (rw [bI_n0 h92]; rfl))
    · refine g_iconst (t := 96) dX7_linePart_95 c_iconst_1 rfl ?_
      refine g_goto (t := 100) dX7_linePart_96 (by decide) ?_
      exact g_retP dX7_linePart_100 rfl rfl (by
    show _ = bI (grL (lnA (sW s (s.2.2 0)) (sC s) l))
    first
    | (rw [bI_0 h92]; rfl)
    | (rw [bI_n0 h92]; rfl))
  · have e : k = 6 := by have := (nI_eq (by omega) (by omega)).mp h1_6; omega
    subst e
    refine g_aload_n (i := 0) (r := 41) (t := 102) dX7_linePart_101 rfl rfl (Or.inl l9_41) rfl ?_
    refine gm_getR (o := 41) (ci := 7) (k := 20) (r := 56) (t := 105) l6_41 l9_41 s_41 gf_X7_53 rfl r_41_20 l9_56 dX7_linePart_102 rfl ?_
    refine g_iload_n (i := 1) (t := 106) dX7_linePart_105 rfl rfl rfl ?_
    refine gm_iald_n (a := 56) (n := 16) (t := 107) l6_56 l9_56 s_56 dX7_linePart_106 (by omega) (by decide) rfl ?_
    exact g_retP dX7_linePart_107 rfl rfl (d2)
  · have e : k = 7 := by
      apply Classical.byContradiction
      intro q
      exact h1_d k (by omega) (congrArg nI (by omega))
    subst e
    refine g_aload_n (i := 0) (r := 41) (t := 109) dX7_linePart_108 rfl rfl (Or.inl l9_41) rfl ?_
    refine g_iload_n (i := 1) (t := 110) dX7_linePart_109 rfl rfl rfl ?_
    refine g_cVp (o := 41) (t := 113) mX7_outer k_X7_231 imX7_outer seX7_outer l6_41 l9_41 s_41 rfl dX7_linePart_110 (x7_outer hB hO hl) rfl rfl (by decide) (by decide) (Nat.le_of_ble_eq_true rfl) rfl ?_
    exact g_retP dX7_linePart_113 rfl rfl (rfl)
end X7Q

