/-! java.lang.Math and FlexRows$History -/
def fdv (x y : Int32) : Int32 := if x ^^^ y < 0 ∧ ¬ x / y * y = x then x / y - nI 1 else x / y
def fmd (x y : Int32) : Int32 := if x ^^^ y < 0 ∧ ¬ x - x / y * y = 0 then x - x / y * y + y else x - x / y * y
theorem fmd_8 : ∀ a, a < 16 → fmd (nI a) (nI 8) = nI (a % 8) := by decide +kernel
theorem fmd_m1 : fmd (-1) (nI 8) = nI 7 := by decide +kernel
section X0
variable {E : gE} {I : Nat → Nat → Int32} {h : gX}
theorem j9_floorDiv {x y : Int32} (hy : ¬ y = 0) : gPI E fJ9_floorDiv_7cf53 [.int x, .int y] I h (fdv x y) := by
  refine gEv.ofJ (by decide +kernel) (Nat.le_refl _) (Nat.le_of_ble_eq_true rfl) (L := [.int x, .int y, .null]) rfl ?_
  refine g_iload_n (i := 0) (t := 1) dJ9_floorDiv_7cf53_0 rfl rfl rfl ?_
  refine g_iload_n (i := 1) (t := 2) dJ9_floorDiv_7cf53_1 rfl rfl rfl ?_
  refine g_idiv (t := 3) dJ9_floorDiv_7cf53_2 hy rfl ?_
  refine g_istore_n (i := 2) (t := 4) (L1 := [_, _, _]) dJ9_floorDiv_7cf53_3 rfl (by decide) rfl rfl rfl ?_
  refine g_iload_n (i := 0) (t := 5) dJ9_floorDiv_7cf53_4 rfl rfl rfl ?_
  refine g_iload_n (i := 1) (t := 6) dJ9_floorDiv_7cf53_5 rfl rfl rfl ?_
  refine g_ixor (t := 7) dJ9_floorDiv_7cf53_6 rfl ?_
  refine g_if_ge (t1 := 21) (t2 := 10) dJ9_floorDiv_7cf53_7 (by decide) rfl (fun h7 => ?_) (fun h7 => ?_)
  · refine g_iload_n (i := 2) (t := 22) dJ9_floorDiv_7cf53_21 rfl rfl rfl ?_
    exact g_retP dJ9_floorDiv_7cf53_22 rfl rfl (by unfold fdv; rw [if_neg (fun z => by first | exact z.2 h14 | exact absurd z.1 (Int32.not_lt.mpr h7))])
  · refine g_iload_n (i := 2) (t := 11) dJ9_floorDiv_7cf53_10 rfl rfl rfl ?_
    refine g_iload_n (i := 1) (t := 12) dJ9_floorDiv_7cf53_11 rfl rfl rfl ?_
    refine g_imul (t := 13) dJ9_floorDiv_7cf53_12 rfl ?_
    refine g_iload_n (i := 0) (t := 14) dJ9_floorDiv_7cf53_13 rfl rfl rfl ?_
    refine g_icmp_eq (t1 := 21) (t2 := 17) dJ9_floorDiv_7cf53_14 (by decide) rfl (fun h14 => ?_) (fun h14 => ?_)
    · refine g_iload_n (i := 2) (t := 22) dJ9_floorDiv_7cf53_21 rfl rfl rfl ?_
      exact g_retP dJ9_floorDiv_7cf53_22 rfl rfl (by unfold fdv; rw [if_neg (fun z => by first | exact z.2 h14 | exact absurd z.1 (Int32.not_lt.mpr h7))])
    · refine g_iload_n (i := 2) (t := 18) dJ9_floorDiv_7cf53_17 rfl rfl rfl ?_
      refine g_iconst (t := 19) dJ9_floorDiv_7cf53_18 c_iconst_1 rfl ?_
      refine g_isub (t := 20) dJ9_floorDiv_7cf53_19 rfl ?_
      exact g_retP dJ9_floorDiv_7cf53_20 rfl rfl (by unfold fdv; rw [if_pos ⟨Int32.not_le.mp h7, h14⟩])
theorem j9_floorMod {x y : Int32} (hy : ¬ y = 0) : gPI E fJ9_floorMod_7cf53 [.int x, .int y] I h (fmd x y) := by
  refine gEv.ofJ (by decide +kernel) (Nat.le_refl _) (Nat.le_of_ble_eq_true rfl) (L := [.int x, .int y, .null]) rfl ?_
  refine g_iload_n (i := 0) (t := 1) dJ9_floorMod_7cf53_0 rfl rfl rfl ?_
  refine g_iload_n (i := 1) (t := 2) dJ9_floorMod_7cf53_1 rfl rfl rfl ?_
  refine g_irem (t := 3) dJ9_floorMod_7cf53_2 hy rfl ?_
  refine g_istore_n (i := 2) (t := 4) (L1 := [_, _, _]) dJ9_floorMod_7cf53_3 rfl (by decide) rfl rfl rfl ?_
  refine g_iload_n (i := 0) (t := 5) dJ9_floorMod_7cf53_4 rfl rfl rfl ?_
  refine g_iload_n (i := 1) (t := 6) dJ9_floorMod_7cf53_5 rfl rfl rfl ?_
  refine g_ixor (t := 7) dJ9_floorMod_7cf53_6 rfl ?_
  refine g_if_ge (t1 := 18) (t2 := 10) dJ9_floorMod_7cf53_7 (by decide) rfl (fun h7 => ?_) (fun h7 => ?_)
  · refine g_iload_n (i := 2) (t := 19) dJ9_floorMod_7cf53_18 rfl rfl rfl ?_
    exact g_retP dJ9_floorMod_7cf53_19 rfl rfl (by unfold fmd; rw [if_neg (fun z => by first | exact z.2 h11 | exact absurd z.1 (Int32.not_lt.mpr h7))])
  · refine g_iload_n (i := 2) (t := 11) dJ9_floorMod_7cf53_10 rfl rfl rfl ?_
    refine g_if_eq (t1 := 18) (t2 := 14) dJ9_floorMod_7cf53_11 (by decide) rfl (fun h11 => ?_) (fun h11 => ?_)
    · refine g_iload_n (i := 2) (t := 19) dJ9_floorMod_7cf53_18 rfl rfl rfl ?_
      exact g_retP dJ9_floorMod_7cf53_19 rfl rfl (by unfold fmd; rw [if_neg (fun z => by first | exact z.2 h11 | exact absurd z.1 (Int32.not_lt.mpr h7))])
    · refine g_iload_n (i := 2) (t := 15) dJ9_floorMod_7cf53_14 rfl rfl rfl ?_
      refine g_iload_n (i := 1) (t := 16) dJ9_floorMod_7cf53_15 rfl rfl rfl ?_
      refine g_iadd (t := 17) dJ9_floorMod_7cf53_16 rfl ?_
      exact g_retP dJ9_floorMod_7cf53_17 rfl rfl (by unfold fmd; rw [if_pos ⟨Int32.not_le.mp h7, h11⟩])
theorem x0_record {k c : Nat} (hk : k < 8) (hc : c ≤ 8) (h1 : I 7 1 = nI k) (h0 : I 7 0 = nI c) : gQV E fX0_record [.ref 7, .ref 4] I h (fun I' => gSame [7, 8, 9, 10] I I' ∧ I' 7 0 = nI (min (c + 1) 8) ∧ I' 7 1 = nI ((k + 1) % 8) ∧ (∀ j, I' 8 j = if j = k then I 4 0 else I 8 j) ∧ (∀ j w, w < 7 → I' 9 (7 * j + w) = if j = k then I 5 w else I 9 (7 * j + w)) ∧ (∀ j w, w < 176 → I' 10 (176 * j + w) = if j = k then I 6 w else I 10 (176 * j + w))) := by
  refine gEv.of rfl (Nat.le_refl _) (Nat.le_of_ble_eq_true rfl) (L := [.ref 7, .ref 4, .null]) rfl ?_
  have e7 : min (c + 1) 8 = if 8 < c + 1 then 8 else c + 1 := by split <;> omega
  refine g_aload_n (i := 0) (r := 7) (t := 1) dX0_record_0 rfl rfl (Or.inl l9_7) rfl ?_
  refine gm_getI (o := 7) (ci := 0) (k := 1) (t := 4) l6_7 l9_7 s_7 gf_X0_21 rfl dX0_record_1 rfl ?_
  rw [h1]
  refine g_bipush (t := 6) dX0_record_4 c_bipush_8 rfl ?_
  refine g_cSp (t := 9) mJ9_floorMod_7cf53 k_X0_25 smJ9_floorMod_7cf53 dX0_record_6 (j9_floorMod (by decide)) rfl rfl (by decide) (by decide) (Nat.le_of_ble_eq_true rfl) rfl (Nat.le_refl _) ?_
  refine g_top (y := nI k) (by rw [fmd_8 k (by omega), Nat.mod_eq_of_lt hk]) ?_
  refine g_istore_n (i := 2) (t := 10) (L1 := [_, _, _]) dX0_record_9 rfl (by decide) rfl rfl rfl ?_
  refine g_aload_n (i := 0) (r := 7) (t := 11) dX0_record_10 rfl rfl (Or.inl l9_7) rfl ?_
  refine gm_getR (o := 7) (ci := 0) (k := 2) (r := 8) (t := 14) l6_7 l9_7 s_7 gf_X0_9 rfl r_7_2 l9_8 dX0_record_11 rfl ?_
  refine g_iload_n (i := 2) (t := 15) dX0_record_14 rfl rfl rfl ?_
  refine g_aload_n (i := 1) (r := 4) (t := 16) dX0_record_15 rfl rfl (Or.inl l9_4) rfl ?_
  refine gm_getI (o := 4) (ci := 4) (k := 0) (t := 19) l6_4 l9_4 s_4 gf_X0_31 rfl dX0_record_16 rfl ?_
  refine gm_iast_n (a := 8) (n := 8) (t := 20) l6_8 l9_8 s_8 dX0_record_19 (by omega) (by decide) rfl ?_
  refine g_aload_n (i := 1) (r := 4) (t := 21) dX0_record_20 rfl rfl (Or.inl l9_4) rfl ?_
  refine gm_getR (o := 4) (ci := 4) (k := 1) (r := 5) (t := 24) l6_4 l9_4 s_4 gf_X0_35 rfl r_4_1 l9_5 dX0_record_21 rfl ?_
  refine g_iconst (t := 25) dX0_record_24 c_iconst_0 rfl ?_
  refine g_aload_n (i := 0) (r := 7) (t := 26) dX0_record_25 rfl rfl (Or.inl l9_7) rfl ?_
  refine gm_getR (o := 7) (ci := 0) (k := 3) (r := 9) (t := 29) l6_7 l9_7 s_7 gf_X0_15 rfl r_7_3 l9_9 dX0_record_26 rfl ?_
  refine g_iload_n (i := 2) (t := 30) dX0_record_29 rfl rfl rfl ?_
  refine g_bipush (t := 32) dX0_record_30 c_bipush_7 rfl ?_
  refine g_imul (t := 33) dX0_record_32 rfl ?_
  refine g_top (y := nI (7 * k)) (by rw [pk_mul, Nat.mul_comm]) ?_
  refine g_bipush (t := 35) dX0_record_33 c_bipush_7 rfl ?_
  refine gm_copy (a := 5) (b := 9) (n0 := 7) (n1 := 56) (t := 38) k_X0_38 l6_5 l9_5 s_5 l6_9 l9_9 s_9 (by omega) (by omega) (by decide) (by decide) (by decide) (by decide) (Nat.le_of_ble_eq_true rfl) dX0_record_35 rfl ?_
  refine g_aload_n (i := 1) (r := 4) (t := 39) dX0_record_38 rfl rfl (Or.inl l9_4) rfl ?_
  refine gm_getR (o := 4) (ci := 4) (k := 2) (r := 6) (t := 42) l6_4 l9_4 s_4 gf_X0_44 rfl r_4_2 l9_6 dX0_record_39 rfl ?_
  refine g_iconst (t := 43) dX0_record_42 c_iconst_0 rfl ?_
  refine g_aload_n (i := 0) (r := 7) (t := 44) dX0_record_43 rfl rfl (Or.inl l9_7) rfl ?_
  refine gm_getR (o := 7) (ci := 0) (k := 4) (r := 10) (t := 47) l6_7 l9_7 s_7 gf_X0_18 rfl r_7_4 l9_10 dX0_record_44 rfl ?_
  refine g_iload_n (i := 2) (t := 48) dX0_record_47 rfl rfl rfl ?_
  refine g_bipush (t := 50) dX0_record_48 c_bipush_16 rfl ?_
  refine g_imul (t := 51) dX0_record_50 rfl ?_
  refine g_bipush (t := 53) dX0_record_51 c_bipush_11 rfl ?_
  refine g_imul (t := 54) dX0_record_53 rfl ?_
  refine g_top (y := nI (176 * k)) (by rw [pk_mul, pk_mul]; exact congrArg nI (by omega)) ?_
  refine g_sipush (t := 57) dX0_record_54 c_sipush_176 rfl ?_
  refine gm_copy (a := 6) (b := 10) (n0 := 176) (n1 := 1408) (t := 60) k_X0_38 l6_6 l9_6 s_6 l6_10 l9_10 s_10 (by omega) (by omega) (by decide) (by decide) (by decide) (by decide) (Nat.le_of_ble_eq_true rfl) dX0_record_57 rfl ?_
  refine g_aload_n (i := 0) (r := 7) (t := 61) dX0_record_60 rfl rfl (Or.inl l9_7) rfl ?_
  refine g_iload_n (i := 2) (t := 62) dX0_record_61 rfl rfl rfl ?_
  refine g_iconst (t := 63) dX0_record_62 c_iconst_1 rfl ?_
  refine g_iadd (t := 64) dX0_record_63 rfl ?_
  refine g_top (y := nI (k + 1)) (nI_add _ _) ?_
  refine g_bipush (t := 66) dX0_record_64 c_bipush_8 rfl ?_
  refine g_cSp (t := 69) mJ9_floorMod_7cf53 k_X0_25 smJ9_floorMod_7cf53 dX0_record_66 (j9_floorMod (by decide)) rfl rfl (by decide) (by decide) (Nat.le_of_ble_eq_true rfl) rfl (Nat.le_refl _) ?_
  refine g_top (y := nI ((k + 1) % 8)) (fmd_8 _ (by omega)) ?_
  refine gm_putI (o := 7) (ci := 0) (k := 1) (t := 72) l6_7 l9_7 s_7 gp_X0_21 rfl rfl rfl dX0_record_69 rfl ?_
  refine g_aload_n (i := 0) (r := 7) (t := 73) dX0_record_72 rfl rfl (Or.inl l9_7) rfl ?_
  refine g_aload_n (i := 0) (r := 7) (t := 74) dX0_record_73 rfl rfl (Or.inl l9_7) rfl ?_
  refine gm_getI (o := 7) (ci := 0) (k := 0) (t := 77) l6_7 l9_7 s_7 gf_X0_45 rfl dX0_record_74 rfl ?_
  refine g_top (y := nI c) (by
      rw [gup_k _ _ _ (by decide)]
      exact h0) ?_
  refine g_iconst (t := 78) dX0_record_77 c_iconst_1 rfl ?_
  refine g_iadd (t := 79) dX0_record_78 rfl ?_
  refine g_top (y := nI (c + 1)) (nI_add _ _) ?_
  refine g_bipush (t := 81) dX0_record_79 c_bipush_8 rfl ?_
  refine g_min (t := 84) k_X0_48 k_min2 k_ma3 k_min4 (by decide) (by decide) (Nat.le_of_ble_eq_true rfl) dX0_record_81 rfl ?_
  refine g_top (y := nI (min (c + 1) 8)) (by
      rw [e7]
      by_cases z : 8 < c + 1
      · rw [if_pos z, if_pos ((nI_ltI (by omega) (by omega)).mpr z)]
      · rw [if_neg z, if_neg (fun q => z ((nI_ltI (by omega) (by omega)).mp q))]) ?_
  refine gm_putI (o := 7) (ci := 0) (k := 0) (t := 87) l6_7 l9_7 s_7 gp_X0_45 rfl rfl rfl dX0_record_84 rfl ?_
  exact g_retV dX0_record_87 rfl (by
    refine ⟨fun q hq => ?_, gup_self _ _ _ _, ?_, fun j => ?_, fun j w hw => ?_, fun j w hw => ?_⟩
    · have n7 : q ≠ 7 := fun z => hq (by subst z; decide)
      have n8 : q ≠ 8 := fun z => hq (by subst z; decide)
      have n9 : q ≠ 9 := fun z => hq (by subst z; decide)
      have n10 : q ≠ 10 := fun z => hq (by subst z; decide)
      rw [gup_rowo _ _ _ n7, gup_rowo _ _ _ n7]
      show gcpy _ _ _ _ _ _ q = _
      simp only [gcpy, if_neg n9, if_neg n10]
      rw [gup_rowo _ _ _ n8]
    · rw [gup_k _ _ _ (by decide), gup_self]
    · rw [gup_o _ _ _ _ (by decide), gup_o _ _ _ _ (by decide)]
      show gcpy _ _ _ _ _ _ 8 j = _
      rw [gcpy, if_neg (by decide), gcpy, if_neg (by decide), gup_at]
    · rw [gup_o _ _ _ _ (by decide), gup_o _ _ _ _ (by decide)]
      show gcpy _ _ _ _ _ _ 9 _ = _
      rw [gcpy, if_neg (by decide), gcpy, if_pos rfl]
      by_cases z : j = k
      · subst z
        rw [if_pos rfl, pk_cpy_in (by omega) (by omega), show 0 + (7 * j + w - 7 * j) = w by omega, gup_o _ _ _ _ (by decide)]
      · rw [if_neg z, pk_cpy_out (by omega), gup_o _ _ _ _ (by decide)]
    · rw [gup_o _ _ _ _ (by decide), gup_o _ _ _ _ (by decide)]
      show gcpy _ _ _ _ _ _ 10 _ = _
      rw [gcpy, if_pos rfl]
      by_cases z : j = k
      · subst z
        rw [if_pos rfl, pk_cpy_in (by omega) (by omega), show 0 + (176 * j + w - 176 * j) = w by omega, gcpy, if_neg (by decide), gup_o _ _ _ _ (by decide)]
      · rw [if_neg z, pk_cpy_out (by omega), gcpy, if_neg (by decide), gup_o _ _ _ _ (by decide)])
theorem x0_restore {k c : Nat} (hk : k < 8) (hc : c < 8) (h1 : I 7 1 = nI k) (h0 : I 7 0 = nI (c + 1)) : gQV E fX0_restore [.ref 7, .ref 4] I h (fun I' => gSame [4, 5, 6, 7] I I' ∧ I' 7 0 = nI c ∧ I' 7 1 = nI ((k + 7) % 8) ∧ I' 4 0 = I 8 ((k + 7) % 8) ∧ (∀ w, w < 7 → I' 5 w = I 9 (7 * ((k + 7) % 8) + w)) ∧ (∀ w, w < 176 → I' 6 w = I 10 (176 * ((k + 7) % 8) + w))) := by
  refine gEv.of rfl (Nat.le_refl _) (Nat.le_of_ble_eq_true rfl) (L := [.ref 7, .ref 4, .null]) rfl ?_
  obtain ⟨s, hs⟩ : ∃ s, s = (k + 7) % 8 := ⟨_, rfl⟩
  have hs8 : s < 8 := by omega
  rw [← hs]
  refine g_aload_n (i := 0) (r := 7) (t := 1) dX0_restore_0 rfl rfl (Or.inl l9_7) rfl ?_
  refine gm_getI (o := 7) (ci := 0) (k := 0) (t := 4) l6_7 l9_7 s_7 gf_X0_45 rfl dX0_restore_1 rfl ?_
  rw [h0]
  refine g_if_ne (t1 := 8) (t2 := 7) dX0_restore_4 (by decide) rfl (fun h4 => ?_) (fun h4 => ?_)
  · refine g_aload_n (i := 0) (r := 7) (t := 9) dX0_restore_8 rfl rfl (Or.inl l9_7) rfl ?_
    refine gm_getI (o := 7) (ci := 0) (k := 1) (t := 12) l6_7 l9_7 s_7 gf_X0_21 rfl dX0_restore_9 rfl ?_
    rw [h1]
    refine g_iconst (t := 13) dX0_restore_12 c_iconst_1 rfl ?_
    refine g_isub (t := 14) dX0_restore_13 rfl ?_
    refine g_bipush (t := 16) dX0_restore_14 c_bipush_8 rfl ?_
    refine g_cSp (t := 19) mJ9_floorMod_7cf53 k_X0_25 smJ9_floorMod_7cf53 dX0_restore_16 (j9_floorMod (by decide)) rfl rfl (by decide) (by decide) (Nat.le_of_ble_eq_true rfl) rfl (Nat.le_refl _) ?_
    refine g_top (y := nI s) (by
        rcases Nat.eq_zero_or_pos k with z | z
        · subst z
          rw [show nI 0 - nI 1 = -1 by decide +kernel, fmd_m1, hs]
        · rw [pk_sub (by omega), fmd_8 _ (by omega), hs]
          exact congrArg nI (by omega)) ?_
    refine g_istore_n (i := 2) (t := 20) (L1 := [_, _, _]) dX0_restore_19 rfl (by decide) rfl rfl rfl ?_
    refine g_aload_n (i := 1) (r := 4) (t := 21) dX0_restore_20 rfl rfl (Or.inl l9_4) rfl ?_
    refine g_aload_n (i := 0) (r := 7) (t := 22) dX0_restore_21 rfl rfl (Or.inl l9_7) rfl ?_
    refine gm_getR (o := 7) (ci := 0) (k := 2) (r := 8) (t := 25) l6_7 l9_7 s_7 gf_X0_9 rfl r_7_2 l9_8 dX0_restore_22 rfl ?_
    refine g_iload_n (i := 2) (t := 26) dX0_restore_25 rfl rfl rfl ?_
    refine gm_iald_n (a := 8) (n := 8) (t := 27) l6_8 l9_8 s_8 dX0_restore_26 (by omega) (by decide) rfl ?_
    refine gm_putI (o := 4) (ci := 4) (k := 0) (t := 30) l6_4 l9_4 s_4 gp_X0_31 rfl rfl rfl dX0_restore_27 rfl ?_
    refine g_aload_n (i := 0) (r := 7) (t := 31) dX0_restore_30 rfl rfl (Or.inl l9_7) rfl ?_
    refine gm_getR (o := 7) (ci := 0) (k := 3) (r := 9) (t := 34) l6_7 l9_7 s_7 gf_X0_15 rfl r_7_3 l9_9 dX0_restore_31 rfl ?_
    refine g_iload_n (i := 2) (t := 35) dX0_restore_34 rfl rfl rfl ?_
    refine g_bipush (t := 37) dX0_restore_35 c_bipush_7 rfl ?_
    refine g_imul (t := 38) dX0_restore_37 rfl ?_
    refine g_top (y := nI (7 * s)) (by rw [pk_mul, Nat.mul_comm]) ?_
    refine g_aload_n (i := 1) (r := 4) (t := 39) dX0_restore_38 rfl rfl (Or.inl l9_4) rfl ?_
    refine gm_getR (o := 4) (ci := 4) (k := 1) (r := 5) (t := 42) l6_4 l9_4 s_4 gf_X0_35 rfl r_4_1 l9_5 dX0_restore_39 rfl ?_
    refine g_iconst (t := 43) dX0_restore_42 c_iconst_0 rfl ?_
    refine g_bipush (t := 45) dX0_restore_43 c_bipush_7 rfl ?_
    refine gm_copy (a := 9) (b := 5) (n0 := 56) (n1 := 7) (t := 48) k_X0_38 l6_9 l9_9 s_9 l6_5 l9_5 s_5 (by omega) (by omega) (by decide) (by decide) (by decide) (by decide) (Nat.le_of_ble_eq_true rfl) dX0_restore_45 rfl ?_
    refine g_aload_n (i := 0) (r := 7) (t := 49) dX0_restore_48 rfl rfl (Or.inl l9_7) rfl ?_
    refine gm_getR (o := 7) (ci := 0) (k := 4) (r := 10) (t := 52) l6_7 l9_7 s_7 gf_X0_18 rfl r_7_4 l9_10 dX0_restore_49 rfl ?_
    refine g_iload_n (i := 2) (t := 53) dX0_restore_52 rfl rfl rfl ?_
    refine g_bipush (t := 55) dX0_restore_53 c_bipush_16 rfl ?_
    refine g_imul (t := 56) dX0_restore_55 rfl ?_
    refine g_bipush (t := 58) dX0_restore_56 c_bipush_11 rfl ?_
    refine g_imul (t := 59) dX0_restore_58 rfl ?_
    refine g_top (y := nI (176 * s)) (by rw [pk_mul, pk_mul]; exact congrArg nI (by omega)) ?_
    refine g_aload_n (i := 1) (r := 4) (t := 60) dX0_restore_59 rfl rfl (Or.inl l9_4) rfl ?_
    refine gm_getR (o := 4) (ci := 4) (k := 2) (r := 6) (t := 63) l6_4 l9_4 s_4 gf_X0_44 rfl r_4_2 l9_6 dX0_restore_60 rfl ?_
    refine g_iconst (t := 64) dX0_restore_63 c_iconst_0 rfl ?_
    refine g_sipush (t := 67) dX0_restore_64 c_sipush_176 rfl ?_
    refine gm_copy (a := 10) (b := 6) (n0 := 1408) (n1 := 176) (t := 70) k_X0_38 l6_10 l9_10 s_10 l6_6 l9_6 s_6 (by omega) (by omega) (by decide) (by decide) (by decide) (by decide) (Nat.le_of_ble_eq_true rfl) dX0_restore_67 rfl ?_
    refine g_aload_n (i := 0) (r := 7) (t := 71) dX0_restore_70 rfl rfl (Or.inl l9_7) rfl ?_
    refine g_iload_n (i := 2) (t := 72) dX0_restore_71 rfl rfl rfl ?_
    refine gm_putI (o := 7) (ci := 0) (k := 1) (t := 75) l6_7 l9_7 s_7 gp_X0_21 rfl rfl rfl dX0_restore_72 rfl ?_
    refine g_aload_n (i := 0) (r := 7) (t := 76) dX0_restore_75 rfl rfl (Or.inl l9_7) rfl ?_
    refine g_dup (t := 77) dX0_restore_76 rfl rfl ?_
    refine gm_getI (o := 7) (ci := 0) (k := 0) (t := 80) l6_7 l9_7 s_7 gf_X0_45 rfl dX0_restore_77 rfl ?_
    refine g_top (y := nI (c + 1)) (by
        rw [gup_k _ _ _ (by decide)]
        exact h0) ?_
    refine g_iconst (t := 81) dX0_restore_80 c_iconst_1 rfl ?_
    refine g_isub (t := 82) dX0_restore_81 rfl ?_
    refine g_top (y := nI c) (by rw [pk_sub (by omega)]; rfl) ?_
    refine gm_putI (o := 7) (ci := 0) (k := 0) (t := 85) l6_7 l9_7 s_7 gp_X0_45 rfl rfl rfl dX0_restore_82 rfl ?_
    exact g_retV dX0_restore_85 rfl (by
    refine ⟨fun q hq => ?_, gup_self _ _ _ _, ?_, ?_, fun w hw => ?_, fun w hw => ?_⟩
    · have n7 : q ≠ 7 := fun z => hq (by subst z; decide)
      have n4 : q ≠ 4 := fun z => hq (by subst z; decide)
      have n5 : q ≠ 5 := fun z => hq (by subst z; decide)
      have n6 : q ≠ 6 := fun z => hq (by subst z; decide)
      rw [gup_rowo _ _ _ n7, gup_rowo _ _ _ n7]
      show gcpy _ _ _ _ _ _ q = _
      simp only [gcpy, if_neg n5, if_neg n6]
      rw [gup_rowo _ _ _ n4]
    · rw [gup_k _ _ _ (by decide), gup_self]
    · rw [gup_o _ _ _ _ (by decide), gup_o _ _ _ _ (by decide)]
      show gcpy _ _ _ _ _ _ 4 0 = _
      rw [gcpy, if_neg (by decide), gcpy, if_neg (by decide), gup_self]
    · rw [gup_o _ _ _ _ (by decide), gup_o _ _ _ _ (by decide)]
      show gcpy _ _ _ _ _ _ 5 _ = _
      rw [gcpy, if_neg (by decide), gcpy, if_pos rfl, pk_cpy_in (by omega) (by omega), gup_o _ _ _ _ (by decide)]
      rfl
    · rw [gup_o _ _ _ _ (by decide), gup_o _ _ _ _ (by decide)]
      show gcpy _ _ _ _ _ _ 6 _ = _
      rw [gcpy, if_pos rfl, pk_cpy_in (by omega) (by omega), gcpy, if_neg (by decide), gup_o _ _ _ _ (by decide)]
      rfl)
  · exact absurd h4 (nI_ne0 (by omega) (by omega))
end X0

