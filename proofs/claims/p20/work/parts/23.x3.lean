/-! FlexRows$Places -/
theorem nI_le0 {n : Nat} (h : 0 < n) (h2 : n < 2147483648) : ¬ nI n ≤ 0 := fun q => by
  rw [← nI_0] at q
  have := (nI_leI h2 (by omega)).mp q
  omega
theorem lfA_at (Q : lQ) (c l k : Nat) : lfA (lnA Q c l) (frC Q c l + k) = if Q.2.1 6 = nI 1 then Q.2.2.1 - xA (lnA Q c l) k - szA (lnA Q c l) (frC Q c l + k) else xA (lnA Q c l) k := by
  show (if Q.2.1 6 = nI 1 then Q.2.2.1 - xA (lnA Q c l) (frC Q c l + k - frC Q c l) - szA (lnA Q c l) (frC Q c l + k) else xA (lnA Q c l) (frC Q c l + k - frC Q c l)) = _
  rw [Nat.add_sub_cancel_left]
section X3
variable {E : gE} {I : Nat → Nat → Int32} {h : gX}
theorem x3_shift {r : Int32} {k n : Nat} (hk : k < n) (hn : n ≤ 16) : gPI E fX3_shift [.ref 27, .int r, .int (nI k), .int (nI n)] I h (shfS (I 5 4) r k n) := by
  refine gEv.of rfl (Nat.le_refl _) (Nat.le_of_ble_eq_true rfl) (L := [.ref 27, .int r, .int (nI k), .int (nI n), .null]) rfl ?_
  have T : ∀ v : Int32, (v = nI 3 → 2 ≤ n) → shfW v r k n = shfS (I 5 4) r k n → Wp E fX3_shift (gn h) 38 [.ref 27, .int r, .int (nI k), .int (nI n), .int v] [] (gM I h) (gRet fX3_shift (gn h) (fun r' σ' => r' = some (.int (shfS (I 5 4) r k n)) ∧ σ' = gM I h)) := by
    intro v h3 hq
    refine g_iload (i := 4) (t := 40) dX3_shift_38 rfl rfl ?_
    refine g_sw5 (l := 1) (td := 145) (t0 := 76) (t1 := 78) (t2 := 84) (t3 := 103) (t4 := 125) (by decide) dX3_shift_40 rfl rfl (by decide) (by decide) (by decide) (by decide) (by decide) (by decide) (fun h40_1 => ?_) (fun h40_2 => ?_) (fun h40_3 => ?_) (fun h40_4 => ?_) (fun h40_5 => ?_) (fun h40_d => ?_)
    · have hv : v = nI 1 := h40_1
      subst hv
      refine g_iload_n (i := 1) (t := 77) dX3_shift_76 rfl rfl rfl ?_
      exact g_retP dX3_shift_77 rfl rfl (by
    rw [← hq, shfW, if_pos rfl])
    · have hv : v = nI 2 := h40_2
      subst hv
      refine g_iload_n (i := 1) (t := 79) dX3_shift_78 rfl rfl rfl ?_
      refine g_iconst (t := 80) dX3_shift_79 c_iconst_2 rfl ?_
      refine g_cSp (t := 83) mJ9_floorDiv_7cf53 k_X3_90 smJ9_floorDiv_7cf53 dX3_shift_80 (j9_floorDiv (by first | decide | exact nI_ne0 (by omega) (by omega))) rfl rfl (by decide) (by decide) (Nat.le_of_ble_eq_true rfl) rfl (Nat.le_refl _) ?_
      exact g_retP dX3_shift_83 rfl rfl (by
    rw [← hq, shfW, if_neg (by decide), if_pos rfl])
    · have hv : v = nI 3 := h40_3
      subst hv
      have h32 := h3 rfl
      refine g_iload_n (i := 3) (t := 85) dX3_shift_84 rfl rfl rfl ?_
      refine g_iconst (t := 86) dX3_shift_85 c_iconst_1 rfl ?_
      refine g_icmp_le_n (t1 := 101) (t2 := 89) dX3_shift_86 (by decide) rfl (by omega) (by omega) (fun h86 => ?_) (fun h86 => ?_)
      · exfalso; omega
      · refine g_iload_n (i := 1) (t := 90) dX3_shift_89 rfl rfl rfl ?_
        refine g_iload_n (i := 2) (t := 91) dX3_shift_90 rfl rfl rfl ?_
        refine g_imul (t := 92) dX3_shift_91 rfl ?_
        refine g_iload_n (i := 3) (t := 93) dX3_shift_92 rfl rfl rfl ?_
        refine g_iconst (t := 94) dX3_shift_93 c_iconst_1 rfl ?_
        refine g_isub (t := 95) dX3_shift_94 rfl ?_
        rw [show nI n - nI 1 = nI (n - 1) from pk_sub (by omega)]
        refine g_cSp (t := 98) mJ9_floorDiv_7cf53 k_X3_90 smJ9_floorDiv_7cf53 dX3_shift_95 (j9_floorDiv (by first | decide | exact nI_ne0 (by omega) (by omega))) rfl rfl (by decide) (by decide) (Nat.le_of_ble_eq_true rfl) rfl (Nat.le_refl _) ?_
        refine g_goto (t := 102) dX3_shift_98 (by decide) ?_
        exact g_retP dX3_shift_102 rfl rfl (by
    rw [← hq, shfW, if_neg (by decide), if_neg (by decide), if_pos rfl])
    · have hv : v = nI 4 := h40_4
      subst hv
      refine g_iload_n (i := 3) (t := 104) dX3_shift_103 rfl rfl rfl ?_
      refine g_if_le (t1 := 123) (t2 := 107) dX3_shift_104 (by decide) rfl (fun h104 => ?_) (fun h104 => ?_)
      · exact absurd h104 (nI_le0 (by omega) (by omega))
      · refine g_iload_n (i := 1) (t := 108) dX3_shift_107 rfl rfl rfl ?_
        refine g_iconst (t := 109) dX3_shift_108 c_iconst_2 rfl ?_
        refine g_iload_n (i := 2) (t := 110) dX3_shift_109 rfl rfl rfl ?_
        refine g_imul (t := 111) dX3_shift_110 rfl ?_
        refine g_iconst (t := 112) dX3_shift_111 c_iconst_1 rfl ?_
        refine g_iadd (t := 113) dX3_shift_112 rfl ?_
        refine g_imul (t := 114) dX3_shift_113 rfl ?_
        refine g_iconst (t := 115) dX3_shift_114 c_iconst_2 rfl ?_
        refine g_iload_n (i := 3) (t := 116) dX3_shift_115 rfl rfl rfl ?_
        refine g_imul (t := 117) dX3_shift_116 rfl ?_
        rw [show nI 2 * nI n = nI (2 * n) from pk_mul _ _, show nI 2 * nI k + nI 1 = nI (2 * k + 1) by rw [pk_mul, nI_add]]
        refine g_cSp (t := 120) mJ9_floorDiv_7cf53 k_X3_90 smJ9_floorDiv_7cf53 dX3_shift_117 (j9_floorDiv (by first | decide | exact nI_ne0 (by omega) (by omega))) rfl rfl (by decide) (by decide) (Nat.le_of_ble_eq_true rfl) rfl (Nat.le_refl _) ?_
        refine g_goto (t := 124) dX3_shift_120 (by decide) ?_
        exact g_retP dX3_shift_124 rfl rfl (by
    rw [← hq, shfW, if_neg (by decide), if_neg (by decide), if_neg (by decide), if_pos rfl])
    · have hv : v = nI 5 := h40_5
      subst hv
      refine g_iload_n (i := 3) (t := 126) dX3_shift_125 rfl rfl rfl ?_
      refine g_if_le (t1 := 143) (t2 := 129) dX3_shift_126 (by decide) rfl (fun h126 => ?_) (fun h126 => ?_)
      · exact absurd h126 (nI_le0 (by omega) (by omega))
      · refine g_iload_n (i := 1) (t := 130) dX3_shift_129 rfl rfl rfl ?_
        refine g_iload_n (i := 2) (t := 131) dX3_shift_130 rfl rfl rfl ?_
        refine g_iconst (t := 132) dX3_shift_131 c_iconst_1 rfl ?_
        refine g_iadd (t := 133) dX3_shift_132 rfl ?_
        refine g_imul (t := 134) dX3_shift_133 rfl ?_
        refine g_iload_n (i := 3) (t := 135) dX3_shift_134 rfl rfl rfl ?_
        refine g_iconst (t := 136) dX3_shift_135 c_iconst_1 rfl ?_
        refine g_iadd (t := 137) dX3_shift_136 rfl ?_
        rw [gi_s, gi_s]
        refine g_cSp (t := 140) mJ9_floorDiv_7cf53 k_X3_90 smJ9_floorDiv_7cf53 dX3_shift_137 (j9_floorDiv (by first | decide | exact nI_ne0 (by omega) (by omega))) rfl rfl (by decide) (by decide) (Nat.le_of_ble_eq_true rfl) rfl (Nat.le_refl _) ?_
        refine g_goto (t := 144) dX3_shift_140 (by decide) ?_
        exact g_retP dX3_shift_144 rfl rfl (by
    rw [← hq, shfW, if_neg (by decide), if_neg (by decide), if_neg (by decide), if_neg (by decide), if_pos rfl])
    · refine g_iconst (t := 146) dX3_shift_145 c_iconst_0 rfl ?_
      exact g_retP dX3_shift_146 rfl rfl (by
    rw [← hq, shfW, if_neg (h40_d 0 (by decide)), if_neg (h40_d 1 (by decide)), if_neg (h40_d 2 (by decide)), if_neg (h40_d 3 (by decide)), if_neg (h40_d 4 (by decide))])
  have e3 : nI 3 ≤ I 5 4 → (r < 0 ∨ n ≤ 1) → wayV (I 5 4) r n = if I 5 4 = nI 3 then nI 0 else nI 2 := fun a b => if_pos ⟨a, b⟩
  have e4 : ¬ (nI 3 ≤ I 5 4 ∧ (r < 0 ∨ n ≤ 1)) → wayV (I 5 4) r n = I 5 4 := fun a => if_neg a
  refine g_aload_n (i := 0) (r := 27) (t := 1) dX3_shift_0 rfl rfl (Or.inl l9_27) rfl ?_
  refine gm_getR (o := 27) (ci := 3) (k := 5) (r := 4) (t := 4) l6_27 l9_27 s_27 gf_X3_24 rfl r_27_5 l9_4 dX3_shift_1 rfl ?_
  refine g_iconst (t := 5) dX3_shift_4 c_iconst_4 rfl ?_
  refine g_cVp (o := 4) (t := 8) mX4_number k_X3_49 imX4_number seX4_number l6_4 l9_4 s_4 rfl dX3_shift_5 (x4_number (by omega)) rfl rfl (by decide) (by decide) (Nat.le_of_ble_eq_true rfl) rfl (Nat.le_refl _) ?_
  refine g_istore (i := 4) (t := 10) (L1 := [_, _, _, _, _]) dX3_shift_8 (by decide) rfl rfl rfl ?_
  refine g_iload (i := 4) (t := 12) dX3_shift_10 rfl rfl ?_
  refine g_iconst (t := 13) dX3_shift_12 c_iconst_3 rfl ?_
  refine g_icmp_lt (t1 := 38) (t2 := 16) dX3_shift_13 (by decide) rfl (fun h13 => ?_) (fun h13 => ?_)
  · first
    | exact T _ (fun z => by rw [z] at h13; exact absurd h13 (by decide)) (by rw [shfS, e4 (fun z => absurd h13 (Int32.not_lt.mpr z.1))])
    | exact T _ (fun _ => by omega) (by rw [shfS, e4 (fun z => by rcases z.2 with z | z; exact h17 z; omega)])
    | exact T _ (fun z => absurd z (by decide)) (by rw [shfS, e3 (Int32.not_lt.mp h13) (by first | exact Or.inl h17 | exact Or.inr h22), if_pos h28])
    | exact T _ (fun z => absurd z (by decide)) (by rw [shfS, e3 (Int32.not_lt.mp h13) (by first | exact Or.inl h17 | exact Or.inr h22), if_neg h28])
  · refine g_iload_n (i := 1) (t := 17) dX3_shift_16 rfl rfl rfl ?_
    refine g_if_lt (t1 := 25) (t2 := 20) dX3_shift_17 (by decide) rfl (fun h17 => ?_) (fun h17 => ?_)
    · refine g_iload (i := 4) (t := 27) dX3_shift_25 rfl rfl ?_
      refine g_iconst (t := 28) dX3_shift_27 c_iconst_3 rfl ?_
      refine g_icmp_ne (t1 := 35) (t2 := 31) dX3_shift_28 (by decide) rfl (fun h28 => ?_) (fun h28 => ?_)
      · refine g_iconst (t := 36) dX3_shift_35 c_iconst_2 rfl ?_
        refine g_istore (i := 4) (t := 38) (L1 := [_, _, _, _, _]) dX3_shift_36 (by decide) rfl rfl rfl ?_
        first
        | exact T _ (fun z => by rw [z] at h13; exact absurd h13 (by decide)) (by rw [shfS, e4 (fun z => absurd h13 (Int32.not_lt.mpr z.1))])
        | exact T _ (fun _ => by omega) (by rw [shfS, e4 (fun z => by rcases z.2 with z | z; exact h17 z; omega)])
        | exact T _ (fun z => absurd z (by decide)) (by rw [shfS, e3 (Int32.not_lt.mp h13) (by first | exact Or.inl h17 | exact Or.inr h22), if_pos h28])
        | exact T _ (fun z => absurd z (by decide)) (by rw [shfS, e3 (Int32.not_lt.mp h13) (by first | exact Or.inl h17 | exact Or.inr h22), if_neg h28])
      · refine g_iconst (t := 32) dX3_shift_31 c_iconst_0 rfl ?_
        refine g_goto (t := 36) dX3_shift_32 (by decide) ?_
        refine g_istore (i := 4) (t := 38) (L1 := [_, _, _, _, _]) dX3_shift_36 (by decide) rfl rfl rfl ?_
        first
        | exact T _ (fun z => by rw [z] at h13; exact absurd h13 (by decide)) (by rw [shfS, e4 (fun z => absurd h13 (Int32.not_lt.mpr z.1))])
        | exact T _ (fun _ => by omega) (by rw [shfS, e4 (fun z => by rcases z.2 with z | z; exact h17 z; omega)])
        | exact T _ (fun z => absurd z (by decide)) (by rw [shfS, e3 (Int32.not_lt.mp h13) (by first | exact Or.inl h17 | exact Or.inr h22), if_pos h28])
        | exact T _ (fun z => absurd z (by decide)) (by rw [shfS, e3 (Int32.not_lt.mp h13) (by first | exact Or.inl h17 | exact Or.inr h22), if_neg h28])
    · refine g_iload_n (i := 3) (t := 21) dX3_shift_20 rfl rfl rfl ?_
      refine g_iconst (t := 22) dX3_shift_21 c_iconst_1 rfl ?_
      refine g_icmp_gt_n (t1 := 38) (t2 := 25) dX3_shift_22 (by decide) rfl (by omega) (by omega) (fun h22 => ?_) (fun h22 => ?_)
      · first
        | exact T _ (fun z => by rw [z] at h13; exact absurd h13 (by decide)) (by rw [shfS, e4 (fun z => absurd h13 (Int32.not_lt.mpr z.1))])
        | exact T _ (fun _ => by omega) (by rw [shfS, e4 (fun z => by rcases z.2 with z | z; exact h17 z; omega)])
        | exact T _ (fun z => absurd z (by decide)) (by rw [shfS, e3 (Int32.not_lt.mp h13) (by first | exact Or.inl h17 | exact Or.inr h22), if_pos h28])
        | exact T _ (fun z => absurd z (by decide)) (by rw [shfS, e3 (Int32.not_lt.mp h13) (by first | exact Or.inl h17 | exact Or.inr h22), if_neg h28])
      · refine g_iload (i := 4) (t := 27) dX3_shift_25 rfl rfl ?_
        refine g_iconst (t := 28) dX3_shift_27 c_iconst_3 rfl ?_
        refine g_icmp_ne (t1 := 35) (t2 := 31) dX3_shift_28 (by decide) rfl (fun h28 => ?_) (fun h28 => ?_)
        · refine g_iconst (t := 36) dX3_shift_35 c_iconst_2 rfl ?_
          refine g_istore (i := 4) (t := 38) (L1 := [_, _, _, _, _]) dX3_shift_36 (by decide) rfl rfl rfl ?_
          first
          | exact T _ (fun z => by rw [z] at h13; exact absurd h13 (by decide)) (by rw [shfS, e4 (fun z => absurd h13 (Int32.not_lt.mpr z.1))])
          | exact T _ (fun _ => by omega) (by rw [shfS, e4 (fun z => by rcases z.2 with z | z; exact h17 z; omega)])
          | exact T _ (fun z => absurd z (by decide)) (by rw [shfS, e3 (Int32.not_lt.mp h13) (by first | exact Or.inl h17 | exact Or.inr h22), if_pos h28])
          | exact T _ (fun z => absurd z (by decide)) (by rw [shfS, e3 (Int32.not_lt.mp h13) (by first | exact Or.inl h17 | exact Or.inr h22), if_neg h28])
        · refine g_iconst (t := 32) dX3_shift_31 c_iconst_0 rfl ?_
          refine g_goto (t := 36) dX3_shift_32 (by decide) ?_
          refine g_istore (i := 4) (t := 38) (L1 := [_, _, _, _, _]) dX3_shift_36 (by decide) rfl rfl rfl ?_
          first
          | exact T _ (fun z => by rw [z] at h13; exact absurd h13 (by decide)) (by rw [shfS, e4 (fun z => absurd h13 (Int32.not_lt.mpr z.1))])
          | exact T _ (fun _ => by omega) (by rw [shfS, e4 (fun z => by rcases z.2 with z | z; exact h17 z; omega)])
          | exact T _ (fun z => absurd z (by decide)) (by rw [shfS, e3 (Int32.not_lt.mp h13) (by first | exact Or.inl h17 | exact Or.inr h22), if_pos h28])
          | exact T _ (fun z => absurd z (by decide)) (by rw [shfS, e3 (Int32.not_lt.mp h13) (by first | exact Or.inl h17 | exact Or.inr h22), if_neg h28])
theorem x3_lowered {i : Nat} {hi ab : Int32} (hk : i < 16) : gPI E fX3_lowered [.ref 27, .int (nI i), .int hi, .int ab] I h (loW (xP I) (I 5) i hi ab) := by
  refine gEv.of rfl (Nat.le_refl _) (Nat.le_of_ble_eq_true rfl) (L := [.ref 27, .int (nI i), .int hi, .int ab, .null]) rfl ?_
  refine g_iload_n (i := 2) (t := 1) dX3_lowered_0 rfl rfl rfl ?_
  refine g_aload_n (i := 0) (r := 27) (t := 2) dX3_lowered_1 rfl rfl (Or.inl l9_27) rfl ?_
  refine gm_getR (o := 27) (ci := 3) (k := 5) (r := 4) (t := 5) l6_27 l9_27 s_27 gf_X3_24 rfl r_27_5 l9_4 dX3_lowered_2 rfl ?_
  refine g_iload_n (i := 1) (t := 6) dX3_lowered_5 rfl rfl rfl ?_
  refine g_bipush (t := 8) dX3_lowered_6 c_bipush_7 rfl ?_
  refine g_cVp (o := 4) (t := 11) mX4_property k_X3_69 imX4_property seX4_property l6_4 l9_4 s_4 rfl dX3_lowered_8 (x4_property (by omega) (by omega)) rfl rfl (by decide) (by decide) (Nat.le_of_ble_eq_true rfl) rfl (Nat.le_refl _) ?_
  refine g_isub (t := 12) dX3_lowered_11 rfl ?_
  refine g_istore (i := 4) (t := 14) (L1 := [_, _, _, _, _]) dX3_lowered_12 (by decide) rfl rfl rfl ?_
  refine g_aload_n (i := 0) (r := 27) (t := 15) dX3_lowered_14 rfl rfl (Or.inl l9_27) rfl ?_
  refine gm_getR (o := 27) (ci := 3) (k := 5) (r := 4) (t := 18) l6_27 l9_27 s_27 gf_X3_24 rfl r_27_5 l9_4 dX3_lowered_15 rfl ?_
  refine g_iload_n (i := 1) (t := 19) dX3_lowered_18 rfl rfl rfl ?_
  refine g_cVp (o := 4) (t := 22) mX4_wayAcross k_X3_98 imX4_wayAcross seX4_wayAcross l6_4 l9_4 s_4 rfl dX3_lowered_19 (x4_wayAcross (by omega)) rfl rfl (by decide) (by decide) (Nat.le_of_ble_eq_true rfl) rfl (Nat.le_refl _) ?_
  refine g_sw3 (l := 1) (td := 69) (t0 := 48) (t1 := 51) (t2 := 58) (by decide) dX3_lowered_22 rfl rfl (by decide) (by decide) (by decide) (by decide) (fun h22_1 => ?_) (fun h22_2 => ?_) (fun h22_3 => ?_) (fun h22_d => ?_)
  · refine g_iload (i := 4) (t := 50) dX3_lowered_48 rfl rfl ?_
    exact g_retP dX3_lowered_50 rfl rfl (by
    have z : way (xP I) (I 5) i = nI 1 := h22_1
    rw [loW, if_pos z])
  · refine g_iload (i := 4) (t := 53) dX3_lowered_51 rfl rfl ?_
    refine g_iconst (t := 54) dX3_lowered_53 c_iconst_2 rfl ?_
    refine g_cSp (t := 57) mJ9_floorDiv_7cf53 k_X3_90 smJ9_floorDiv_7cf53 dX3_lowered_54 (j9_floorDiv (by first | decide | exact nI_ne0 (by omega) (by omega))) rfl rfl (by decide) (by decide) (Nat.le_of_ble_eq_true rfl) rfl (Nat.le_refl _) ?_
    exact g_retP dX3_lowered_57 rfl rfl (by
    have z : way (xP I) (I 5) i = nI 2 := h22_2
    rw [loW, if_neg (by rw [z]; decide), if_pos z])
  · refine g_iload_n (i := 3) (t := 59) dX3_lowered_58 rfl rfl rfl ?_
    refine g_aload_n (i := 0) (r := 27) (t := 60) dX3_lowered_59 rfl rfl (Or.inl l9_27) rfl ?_
    refine gm_getR (o := 27) (ci := 3) (k := 5) (r := 4) (t := 63) l6_27 l9_27 s_27 gf_X3_24 rfl r_27_5 l9_4 dX3_lowered_60 rfl ?_
    refine g_iload_n (i := 1) (t := 64) dX3_lowered_63 rfl rfl rfl ?_
    refine g_cVp (o := 4) (t := 67) mX4_above k_X3_101 imX4_above seX4_above l6_4 l9_4 s_4 rfl dX3_lowered_64 (x4_above (by omega)) rfl rfl (by decide) (by decide) (Nat.le_of_ble_eq_true rfl) rfl (Nat.le_refl _) ?_
    refine g_isub (t := 68) dX3_lowered_67 rfl ?_
    exact g_retP dX3_lowered_68 rfl rfl (by
    have z : way (xP I) (I 5) i = nI 3 := h22_3
    rw [loW, if_neg (by rw [z]; decide), if_neg (by rw [z]; decide), if_pos z])
  · refine g_iconst (t := 70) dX3_lowered_69 c_iconst_0 rfl ?_
    exact g_retP dX3_lowered_70 rfl rfl (by
    rw [loW, if_neg (h22_d 0 (by decide)), if_neg (h22_d 1 (by decide)), if_neg (h22_d 2 (by decide))])
theorem x3_end {p : Nat} (hp : p < 16) : gPI E fX3_end [.ref 27, .int (nI p)] I h (I 28 p + I 24 p) := by
  refine gEv.of rfl (Nat.le_refl _) (Nat.le_of_ble_eq_true rfl) (L := [.ref 27, .int (nI p)]) rfl ?_
  refine g_iload_n (i := 1) (t := 1) dX3_end_0 rfl rfl rfl ?_
  refine g_if_lt (t1 := 29) (t2 := 4) dX3_end_1 (by decide) rfl (fun h1 => ?_) (fun h1 => ?_)
  · exact absurd h1 (by first | decide | exact nI_pos (by omega) | exact nI_ne0 (by omega) (by omega))
  · refine g_iload_n (i := 1) (t := 5) dX3_end_4 rfl rfl rfl ?_
    refine g_bipush (t := 7) dX3_end_5 c_bipush_16 rfl ?_
    refine g_icmp_ge_n (t1 := 29) (t2 := 10) dX3_end_7 (by decide) rfl (by omega) (by omega) (fun h7 => ?_) (fun h7 => ?_)
    · exfalso; omega
    · refine g_aload_n (i := 0) (r := 27) (t := 11) dX3_end_10 rfl rfl (Or.inl l9_27) rfl ?_
      refine gm_getR (o := 27) (ci := 3) (k := 1) (r := 28) (t := 14) l6_27 l9_27 s_27 gf_X3_9 rfl r_27_1 l9_28 dX3_end_11 rfl ?_
      refine g_iload_n (i := 1) (t := 15) dX3_end_14 rfl rfl rfl ?_
      refine gm_iald_n (a := 28) (n := 16) (t := 16) l6_28 l9_28 s_28 dX3_end_15 (by omega) (by decide) rfl ?_
      refine g_aload_n (i := 0) (r := 27) (t := 17) dX3_end_16 rfl rfl (Or.inl l9_27) rfl ?_
      refine gm_getR (o := 27) (ci := 3) (k := 7) (r := 18) (t := 20) l6_27 l9_27 s_27 gf_X3_32 rfl r_27_7 l9_18 dX3_end_17 rfl ?_
      refine gm_getR (o := 18) (ci := 1) (k := 6) (r := 24) (t := 23) l6_18 l9_18 s_18 gf_X3_58 rfl r_18_6 l9_24 dX3_end_20 rfl ?_
      refine g_iload_n (i := 1) (t := 24) dX3_end_23 rfl rfl rfl ?_
      refine gm_iald_n (a := 24) (n := 16) (t := 25) l6_24 l9_24 s_24 dX3_end_24 (by omega) (by decide) rfl ?_
      refine g_iadd (t := 26) dX3_end_25 rfl ?_
      refine g_goto (t := 32) dX3_end_26 (by decide) ?_
      exact g_retP dX3_end_32 rfl rfl (rfl)
theorem x3_setAlong {Q : lQ} {c l : Nat} {f : Nat → Nat} (hO : xO I (xP I) c f) (hQ : Q = (xP I, I 5, I 5 0, f)) (hB : xB I 18 19 20 Q c) (hS : xS I Q c (nln Q c)) (hl : l < nln Q c) : gQV E fX3_setAlong [.ref 27, .int (nI l)] I h (fun I' => gSame [28] I I' ∧ strN I' I 28 (frC Q c l) (frC Q c (l + 1)) (lfA (lnA Q c l))) := by
  refine gEv.of rfl (Nat.le_refl _) (Nat.le_of_ble_eq_true rfl) (L := [.ref 27, .int (nI l), .null, .null, .null, .null, .null, .null, .null, .null]) rfl ?_
  have hc := hO.1
  have hnl := nln_le Q c
  have hlt := frC_pos Q c l hl
  have hle := frC_le Q c (l + 1)
  have h1 := (hB.2 l hl).1
  have e6 : Q.2.1 6 = I 5 6 := by rw [hQ]
  have L : ∀ (d k : Nat) (J : Nat → Nat → Int32) (b : Bool) (v7 : Value) (v8 : Value) (v9 : Value), k + d = frC Q c (l + 1) - frC Q c l → (b = true ↔ I 5 6 = nI 1) → gSame [28] I J → strN J I 28 (frC Q c l) (frC Q c l + k) (lfA (lnA Q c l)) → Wp E fX3_setAlong (gn h) 47 [.ref 27, .int (nI l), .int (nI (frC Q c l)), .int (nI (frC Q c (l + 1) - frC Q c l)), .int (bI b), .int (alN (lnA Q c l) k), .int (nI k), v7, v8, v9] [] (gM J h) (gRet fX3_setAlong (gn h) (fun r σ' => ∃ I' : Nat → Nat → Int32, r = none ∧ σ' = gM I' h ∧ gSame [28] I I' ∧ strN I' I 28 (frC Q c l) (frC Q c (l + 1)) (lfA (lnA Q c l)))) := by
    intro d
    induction d with
    | zero =>
      intro k J b v7 v8 v9 hk hb hs zs
      have hk : k = frC Q c (l + 1) - frC Q c l := by omega
      subst hk
      rw [Nat.add_sub_cancel' (Nat.le_of_lt hlt)] at zs
      refine g_iload (i := 6) (t := 49) dX3_setAlong_47 rfl rfl ?_
      refine g_iload_n (i := 3) (t := 50) dX3_setAlong_49 rfl rfl rfl ?_
      refine g_icmp_ge_n (t1 := 169) (t2 := 53) dX3_setAlong_50 (by decide) rfl (by omega) (by omega) (fun h50 => ?_) (fun h50 => ?_)
      · exact g_retV dX3_setAlong_169 rfl (⟨hs, zs⟩)
      · exfalso; omega
    | succ d ih =>
      intro k J b v7 v8 v9 hk hb hs zs
      obtain ⟨g1, g2, g3, g4, g5, g6, g7⟩ := hO.2.2 (frC Q c l + k) (by omega)
      have hlin : lin Q (frC Q c l + k) = l := (frC_lin Q (c := c) (by omega)).mpr ⟨by omega, by omega⟩
      have eS := (hS.2 (frC Q c l + k) (by omega) (by omega)).1
      have eR := (hS.1 l hl).1
      have eP : Q.1 = xP I := by rw [hQ]
      have eB : Q.2.1 = I 5 := by rw [hQ]
      have eW : Q.2.2.1 = I 5 0 := by rw [hQ]
      have ef : Q.2.2.2 = f := by rw [hQ]
      rw [szQ, hlin] at eS
      have ex : xA (lnA Q c l) k = alN (lnA Q c l) k + Q.1 (Q.2.2.2 (frC Q c l + k)) 5 + shfS (I 5 4) (reL (lnA Q c l)) k (frC Q c (l + 1) - frC Q c l) := by rw [xA, ← eB]; rfl
      have TT : ∀ v : Int32, v = lfA (lnA Q c l) (frC Q c l + k) → Wp E fX3_setAlong (gn h) 133 [.ref 27, .int (nI l), .int (nI (frC Q c l)), .int (nI (frC Q c (l + 1) - frC Q c l)), .int (bI b), .int (alN (lnA Q c l) k), .int (nI k), .int (nI (frC Q c l + k)), .int (xA (lnA Q c l) k), .int (szA (lnA Q c l) (frC Q c l + k))] [.int v, .int (nI (frC Q c l + k)), .ref 28] (gM J h) (gRet fX3_setAlong (gn h) (fun r σ' => ∃ I' : Nat → Nat → Int32, r = none ∧ σ' = gM I' h ∧ gSame [28] I I' ∧ strN I' I 28 (frC Q c l) (frC Q c (l + 1)) (lfA (lnA Q c l)))) := by
        intro v hv
        refine gm_iast_n (a := 28) (n := 16) (t := 134) l6_28 l9_28 s_28 dX3_setAlong_133 (by omega) (by decide) rfl ?_
        refine g_iload (i := 5) (t := 136) dX3_setAlong_134 rfl rfl ?_
        refine g_iload (i := 9) (t := 138) dX3_setAlong_136 rfl rfl ?_
        refine g_iconst (t := 139) dX3_setAlong_138 c_iconst_2 rfl ?_
        refine g_aload_n (i := 0) (r := 27) (t := 140) dX3_setAlong_139 rfl rfl (Or.inl l9_27) rfl ?_
        refine gm_getR (o := 27) (ci := 3) (k := 6) (r := 11) (t := 143) l6_27 l9_27 s_27 gf_X3_28 rfl r_27_6 l9_11 dX3_setAlong_140 rfl ?_
        refine gm_getR (o := 11) (ci := 2) (k := 5) (r := 16) (t := 146) l6_11 l9_11 s_11 gf_X3_80 rfl r_11_5 l9_16 dX3_setAlong_143 rfl ?_
        refine g_iload (i := 7) (t := 148) dX3_setAlong_146 rfl rfl ?_
        refine gm_iald_n (a := 16) (n := 16) (t := 149) l6_16 l9_16 s_16 dX3_setAlong_148 (by omega) (by decide) rfl ?_
        rw [show gup J 28 (frC Q c l + k) v 16 = I 16 from (hs.up rfl).at 16 rfl, g6]
        refine g_imul (t := 150) dX3_setAlong_149 rfl ?_
        refine g_iadd (t := 151) dX3_setAlong_150 rfl ?_
        refine g_aload_n (i := 0) (r := 27) (t := 152) dX3_setAlong_151 rfl rfl (Or.inl l9_27) rfl ?_
        refine gm_getR (o := 27) (ci := 3) (k := 5) (r := 4) (t := 155) l6_27 l9_27 s_27 gf_X3_24 rfl r_27_5 l9_4 dX3_setAlong_152 rfl ?_
        refine g_iconst (t := 156) dX3_setAlong_155 c_iconst_1 rfl ?_
        refine g_cVp (o := 4) (t := 159) mX4_number k_X3_49 imX4_number seX4_number l6_4 l9_4 s_4 rfl dX3_setAlong_156 (x4_number (by omega)) rfl rfl (by decide) (by decide) (Nat.le_of_ble_eq_true rfl) rfl (Nat.le_refl _) ?_
        refine g_iadd (t := 160) dX3_setAlong_159 rfl ?_
        rw [show gup J 28 (frC Q c l + k) v 5 = I 5 from (hs.up rfl).at 5 rfl]
        refine g_iadd (t := 161) dX3_setAlong_160 rfl ?_
        refine g_top (y := alN (lnA Q c l) (k + 1)) (by rw [alN, ← eP, ← eB, ← ef]; rfl) ?_
        refine g_istore (i := 5) (t := 163) (L1 := [_, _, _, _, _, _, _, _, _, _]) dX3_setAlong_161 (by decide) rfl rfl rfl ?_
        refine g_iinc (i := 6) (t := 166) (L1 := [_, _, _, _, _, _, _, _, _, _]) dX3_setAlong_163 rfl (gi_1 _) (by decide) rfl rfl rfl ?_
        refine g_goto (t := 47) dX3_setAlong_166 (by decide) ?_
        exact ih (k + 1) _ b _ _ _ (by omega) hb (hs.up rfl) (zs.next (by omega) hv)
      refine g_iload (i := 6) (t := 49) dX3_setAlong_47 rfl rfl ?_
      refine g_iload_n (i := 3) (t := 50) dX3_setAlong_49 rfl rfl rfl ?_
      refine g_icmp_ge_n (t1 := 169) (t2 := 53) dX3_setAlong_50 (by decide) rfl (by omega) (by omega) (fun h50 => ?_) (fun h50 => ?_)
      · exfalso; omega
      · refine g_iload_n (i := 2) (t := 54) dX3_setAlong_53 rfl rfl rfl ?_
        refine g_iload (i := 6) (t := 56) dX3_setAlong_54 rfl rfl ?_
        refine g_iadd (t := 57) dX3_setAlong_56 rfl ?_
        refine g_top (nI_add _ _) ?_
        refine g_istore (i := 7) (t := 59) (L1 := [_, _, _, _, _, _, _, _, _, _]) dX3_setAlong_57 (by decide) rfl rfl rfl ?_
        refine g_iload (i := 5) (t := 61) dX3_setAlong_59 rfl rfl ?_
        refine g_aload_n (i := 0) (r := 27) (t := 62) dX3_setAlong_61 rfl rfl (Or.inl l9_27) rfl ?_
        refine gm_getR (o := 27) (ci := 3) (k := 6) (r := 11) (t := 65) l6_27 l9_27 s_27 gf_X3_28 rfl r_27_6 l9_11 dX3_setAlong_62 rfl ?_
        refine gm_getR (o := 11) (ci := 2) (k := 5) (r := 16) (t := 68) l6_11 l9_11 s_11 gf_X3_80 rfl r_11_5 l9_16 dX3_setAlong_65 rfl ?_
        refine g_iload (i := 7) (t := 70) dX3_setAlong_68 rfl rfl ?_
        refine gm_iald_n (a := 16) (n := 16) (t := 71) l6_16 l9_16 s_16 dX3_setAlong_70 (by omega) (by decide) rfl ?_
        rw [show J 16 = I 16 from hs.at 16 rfl, g6]
        refine g_iadd (t := 72) dX3_setAlong_71 rfl ?_
        refine g_aload_n (i := 0) (r := 27) (t := 73) dX3_setAlong_72 rfl rfl (Or.inl l9_27) rfl ?_
        refine g_aload_n (i := 0) (r := 27) (t := 74) dX3_setAlong_73 rfl rfl (Or.inl l9_27) rfl ?_
        refine gm_getR (o := 27) (ci := 3) (k := 7) (r := 18) (t := 77) l6_27 l9_27 s_27 gf_X3_32 rfl r_27_7 l9_18 dX3_setAlong_74 rfl ?_
        refine gm_getR (o := 18) (ci := 1) (k := 3) (r := 21) (t := 80) l6_18 l9_18 s_18 gf_X3_83 rfl r_18_3 l9_21 dX3_setAlong_77 rfl ?_
        refine g_iload_n (i := 1) (t := 81) dX3_setAlong_80 rfl rfl rfl ?_
        refine gm_iald_n (a := 21) (n := 16) (t := 82) l6_21 l9_21 s_21 dX3_setAlong_81 (by omega) (by decide) rfl ?_
        rw [show J 21 = I 21 from hs.at 21 rfl, eR]
        refine g_iload (i := 6) (t := 84) dX3_setAlong_82 rfl rfl ?_
        refine g_iload_n (i := 3) (t := 85) dX3_setAlong_84 rfl rfl rfl ?_
        refine g_cVp (o := 27) (t := 88) mX3_shift k_X3_86 imX3_shift seX3_shift l6_27 l9_27 s_27 rfl dX3_setAlong_85 (x3_shift (by omega) (by omega)) rfl rfl (by decide) (by decide) (Nat.le_of_ble_eq_true rfl) rfl (Nat.le_refl _) ?_
        refine g_iadd (t := 89) dX3_setAlong_88 rfl ?_
        refine g_top (y := xA (lnA Q c l) k) (by rw [ex, show J 5 = I 5 from hs.at 5 rfl, eP, ef]) ?_
        refine g_istore (i := 8) (t := 91) (L1 := [_, _, _, _, _, _, _, _, _, _]) dX3_setAlong_89 (by decide) rfl rfl rfl ?_
        refine g_aload_n (i := 0) (r := 27) (t := 92) dX3_setAlong_91 rfl rfl (Or.inl l9_27) rfl ?_
        refine gm_getR (o := 27) (ci := 3) (k := 7) (r := 18) (t := 95) l6_27 l9_27 s_27 gf_X3_32 rfl r_27_7 l9_18 dX3_setAlong_92 rfl ?_
        refine gm_getR (o := 18) (ci := 1) (k := 6) (r := 24) (t := 98) l6_18 l9_18 s_18 gf_X3_58 rfl r_18_6 l9_24 dX3_setAlong_95 rfl ?_
        refine g_iload (i := 7) (t := 100) dX3_setAlong_98 rfl rfl ?_
        refine gm_iald_n (a := 24) (n := 16) (t := 101) l6_24 l9_24 s_24 dX3_setAlong_100 (by omega) (by decide) rfl ?_
        rw [show J 24 = I 24 from hs.at 24 rfl, eS]
        refine g_istore (i := 9) (t := 103) (L1 := [_, _, _, _, _, _, _, _, _, _]) dX3_setAlong_101 (by decide) rfl rfl rfl ?_
        refine g_aload_n (i := 0) (r := 27) (t := 104) dX3_setAlong_103 rfl rfl (Or.inl l9_27) rfl ?_
        refine gm_getR (o := 27) (ci := 3) (k := 1) (r := 28) (t := 107) l6_27 l9_27 s_27 gf_X3_9 rfl r_27_1 l9_28 dX3_setAlong_104 rfl ?_
        refine g_iload (i := 7) (t := 109) dX3_setAlong_107 rfl rfl ?_
        refine g_iload (i := 4) (t := 111) dX3_setAlong_109 rfl rfl ?_
        refine g_if_eq (t1 := 131) (t2 := 114) dX3_setAlong_111 (by decide) rfl (fun h111 => ?_) (fun h111 => ?_)
        · refine g_iload (i := 8) (t := 133) dX3_setAlong_131 rfl rfl ?_
          refine TT _ ?_
          rw [lfA_at, e6]
          first
          | (rw [if_neg (fun z => absurd (hb.mpr z) (by rw [bI_0 h111]; decide))])
          | (rw [if_pos (hb.mp (bI_n0 h111)), show J 5 = I 5 from hs.at 5 rfl, ← eW]; rfl)
        · refine g_aload_n (i := 0) (r := 27) (t := 115) dX3_setAlong_114 rfl rfl (Or.inl l9_27) rfl ?_
          refine gm_getR (o := 27) (ci := 3) (k := 5) (r := 4) (t := 118) l6_27 l9_27 s_27 gf_X3_24 rfl r_27_5 l9_4 dX3_setAlong_115 rfl ?_
          refine g_iconst (t := 119) dX3_setAlong_118 c_iconst_0 rfl ?_
          refine g_cVp (o := 4) (t := 122) mX4_number k_X3_49 imX4_number seX4_number l6_4 l9_4 s_4 rfl dX3_setAlong_119 (x4_number (by omega)) rfl rfl (by decide) (by decide) (Nat.le_of_ble_eq_true rfl) rfl (Nat.le_refl _) ?_
          refine g_iload (i := 8) (t := 124) dX3_setAlong_122 rfl rfl ?_
          refine g_isub (t := 125) dX3_setAlong_124 rfl ?_
          refine g_iload (i := 9) (t := 127) dX3_setAlong_125 rfl rfl ?_
          refine g_isub (t := 128) dX3_setAlong_127 rfl ?_
          refine g_goto (t := 133) dX3_setAlong_128 (by decide) ?_
          refine TT _ ?_
          rw [lfA_at, e6]
          first
          | (rw [if_neg (fun z => absurd (hb.mpr z) (by rw [bI_0 h111]; decide))])
          | (rw [if_pos (hb.mp (bI_n0 h111)), show J 5 = I 5 from hs.at 5 rfl, ← eW]; rfl)
  refine g_aload_n (i := 0) (r := 27) (t := 1) dX3_setAlong_0 rfl rfl (Or.inl l9_27) rfl ?_
  refine gm_getR (o := 27) (ci := 3) (k := 7) (r := 18) (t := 4) l6_27 l9_27 s_27 gf_X3_32 rfl r_27_7 l9_18 dX3_setAlong_1 rfl ?_
  refine gm_getR (o := 18) (ci := 1) (k := 1) (r := 19) (t := 7) l6_18 l9_18 s_18 gf_X3_76 rfl r_18_1 l9_19 dX3_setAlong_4 rfl ?_
  refine g_iload_n (i := 1) (t := 8) dX3_setAlong_7 rfl rfl rfl ?_
  refine gm_iald_n (a := 19) (n := 16) (t := 9) l6_19 l9_19 s_19 dX3_setAlong_8 (by omega) (by decide) rfl ?_
  rw [h1]
  refine g_istore_n (i := 2) (t := 10) (L1 := [_, _, _, _, _, _, _, _, _, _]) dX3_setAlong_9 rfl (by decide) rfl rfl rfl ?_
  refine g_aload_n (i := 0) (r := 27) (t := 11) dX3_setAlong_10 rfl rfl (Or.inl l9_27) rfl ?_
  refine gm_getR (o := 27) (ci := 3) (k := 7) (r := 18) (t := 14) l6_27 l9_27 s_27 gf_X3_32 rfl r_27_7 l9_18 dX3_setAlong_11 rfl ?_
  refine g_iload_n (i := 1) (t := 15) dX3_setAlong_14 rfl rfl rfl ?_
  refine g_cVp (o := 18) (t := 18) mX1_end k_X3_79 imX1_end seX1_end l6_18 l9_18 s_18 rfl dX3_setAlong_15 (x1_end_18 hO.2.1 hc hB hl) rfl rfl (by decide) (by decide) (Nat.le_of_ble_eq_true rfl) rfl (Nat.le_refl _) ?_
  refine g_iload_n (i := 2) (t := 19) dX3_setAlong_18 rfl rfl rfl ?_
  refine g_isub (t := 20) dX3_setAlong_19 rfl ?_
  refine g_top (y := nI (frC Q c (l + 1) - frC Q c l)) (pk_sub (by omega)) ?_
  refine g_istore_n (i := 3) (t := 21) (L1 := [_, _, _, _, _, _, _, _, _, _]) dX3_setAlong_20 rfl (by decide) rfl rfl rfl ?_
  refine g_aload_n (i := 0) (r := 27) (t := 22) dX3_setAlong_21 rfl rfl (Or.inl l9_27) rfl ?_
  refine gm_getR (o := 27) (ci := 3) (k := 5) (r := 4) (t := 25) l6_27 l9_27 s_27 gf_X3_24 rfl r_27_5 l9_4 dX3_setAlong_22 rfl ?_
  refine g_bipush (t := 27) dX3_setAlong_25 c_bipush_6 rfl ?_
  refine g_cVp (o := 4) (t := 30) mX4_number k_X3_49 imX4_number seX4_number l6_4 l9_4 s_4 rfl dX3_setAlong_27 (x4_number (by omega)) rfl rfl (by decide) (by decide) (Nat.le_of_ble_eq_true rfl) rfl (Nat.le_refl _) ?_
  refine g_iconst (t := 31) dX3_setAlong_30 c_iconst_1 rfl ?_
  refine g_icmp_ne (t1 := 38) (t2 := 34) dX3_setAlong_31 (by decide) rfl (fun h31 => ?_) (fun h31 => ?_)
  · have hbb : false = true ↔ I 5 6 = nI 1 := ⟨fun q => absurd q (by decide), fun q => absurd q h31⟩
    refine g_iconst (t := 39) dX3_setAlong_38 c_iconst_0 rfl ?_
    refine g_istore (i := 4) (t := 41) (L1 := [_, _, _, _, _, _, _, _, _, _]) dX3_setAlong_39 (by decide) rfl rfl rfl ?_
    refine g_iconst (t := 42) dX3_setAlong_41 c_iconst_0 rfl ?_
    refine g_istore (i := 5) (t := 44) (L1 := [_, _, _, _, _, _, _, _, _, _]) dX3_setAlong_42 (by decide) rfl rfl rfl ?_
    refine g_iconst (t := 45) dX3_setAlong_44 c_iconst_0 rfl ?_
    refine g_istore (i := 6) (t := 47) (L1 := [_, _, _, _, _, _, _, _, _, _]) dX3_setAlong_45 (by decide) rfl rfl rfl ?_
    exact L _ 0 I _ .null .null .null (Nat.zero_add _) hbb gSame.rf strN.rf
  · have hbb : true = true ↔ I 5 6 = nI 1 := ⟨fun _ => h31, fun _ => rfl⟩
    refine g_iconst (t := 35) dX3_setAlong_34 c_iconst_1 rfl ?_
    refine g_goto (t := 39) dX3_setAlong_35 (by decide) ?_
    refine g_istore (i := 4) (t := 41) (L1 := [_, _, _, _, _, _, _, _, _, _]) dX3_setAlong_39 (by decide) rfl rfl rfl ?_
    refine g_iconst (t := 42) dX3_setAlong_41 c_iconst_0 rfl ?_
    refine g_istore (i := 5) (t := 44) (L1 := [_, _, _, _, _, _, _, _, _, _]) dX3_setAlong_42 (by decide) rfl rfl rfl ?_
    refine g_iconst (t := 45) dX3_setAlong_44 c_iconst_0 rfl ?_
    refine g_istore (i := 6) (t := 47) (L1 := [_, _, _, _, _, _, _, _, _, _]) dX3_setAlong_45 (by decide) rfl rfl rfl ?_
    exact L _ 0 I _ .null .null .null (Nat.zero_add _) hbb gSame.rf strN.rf
end X3

