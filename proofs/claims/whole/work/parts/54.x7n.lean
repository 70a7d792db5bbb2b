/-! FlexRowsModel: along the line -/
section X7N
variable {E : gE} {I : Nat → Nat → Int32} {h : Int64} {s : sS} {A : lA} {l : Nat}
theorem x7_down {x : Int32} (hx : bnd x (-8000) 999) : gPI E fX7_down [.int x, .int (nI 2)] I h (fdv x (nI 2)) := by
  refine gEv.of rfl (Nat.le_refl _) (Nat.le_of_ble_eq_true rfl) (L := [.int x, .int (nI 2)]) rfl ?_
  have k := (down2 hx).1
  have ne : ¬ nI 2 = 0 := by decide
  refine g_iload_n (i := 0) (t := 1) dX7_down_0 rfl rfl rfl ?_
  refine g_if_lt (t1 := 10) (t2 := 4) dX7_down_1 (by decide) rfl (fun h1 => ?_) (fun h1 => ?_)
  · refine g_iload_n (i := 1) (t := 11) dX7_down_10 rfl rfl rfl ?_
    refine g_iconst (t := 12) dX7_down_11 c_iconst_1 rfl ?_
    refine g_isub (t := 13) dX7_down_12 rfl ?_
    refine g_iload_n (i := 0) (t := 14) dX7_down_13 rfl rfl rfl ?_
    refine g_isub (t := 15) dX7_down_14 rfl ?_
    refine g_iload_n (i := 1) (t := 16) dX7_down_15 rfl rfl rfl ?_
    refine g_idiv (t := 17) dX7_down_16 ne rfl ?_
    refine g_ineg (t := 18) dX7_down_17 rfl ?_
    exact g_retP dX7_down_18 rfl rfl (by
    rw [← k]
    first
    | rw [if_pos h1]
    | rw [if_neg h1])
  · refine g_iload_n (i := 0) (t := 5) dX7_down_4 rfl rfl rfl ?_
    refine g_iload_n (i := 1) (t := 6) dX7_down_5 rfl rfl rfl ?_
    refine g_idiv (t := 7) dX7_down_6 ne rfl ?_
    refine g_goto (t := 18) dX7_down_7 (by decide) ?_
    exact g_retP dX7_down_18 rfl rfl (by
    rw [← k]
    first
    | rw [if_pos h1]
    | rw [if_neg h1])
theorem of_b5 {x : Int32} {b : Int} (h : bnd x 0 b) (hb : b < 1000) : ∃ a : Nat, (a : Int) ≤ b ∧ x = nI a := by
  obtain ⟨a, -, h2, h3⟩ := nn_of h (by omega)
  exact ⟨a, h2, h3⟩
theorem x7_shift {k : Nat} (hB : mB I s A l) (hV : aV A) (h55 : I 55 l = reL A) (hk : k < A.2.2) : gPI E fX7_shift [.ref 41, .int (nI l), .int (nI k)] I h (shfS (A.1.2.1 4) (reL A) k A.2.2) := by
  refine gEv.of rfl (Nat.le_refl _) (Nat.le_of_ble_eq_true rfl) (L := [.ref 41, .int (nI l), .int (nI k), .null, .null, .null]) rfl ?_
  have ⟨b1, b2, b3, b4, b5, b6, b7, b8, b9⟩ := hB
  have hr := re_b hV
  have h16 := hV.1
  obtain ⟨wv, hw5, hw⟩ : ∃ a : Nat, (a : Int) ≤ 5 ∧ A.1.2.1 4 = nI a := of_b5 (hV.2.2.1 4 (by decide)) (by decide)
  have e181 : I 42 181 = nI wv := by rw [← hw, b9]; exact b1.2.2 4 (by decide)
  rw [hw]
  have z0 : (0 : Int32).toInt = 0 := by decide +kernel
  have T66 : ∀ v : Nat, v ≤ 5 → (3 ≤ v → 0 ≤ (reL A).toInt ∧ 2 ≤ A.2.2) → wayV (nI wv) (reL A) A.2.2 = nI v → Wp E fX7_shift 62 66 [.ref 41, .int (nI l), .int (nI k), .int (nI A.2.2), .int (reL A), .int (nI v)] [] (gM I h) (gRet fX7_shift 62 (fun r σ' => r = some (.int (shfS (nI wv) (reL A) k A.2.2)) ∧ σ' = gM I h)) := by
    intro v hv h3 hq
    have hs : shfS (nI wv) (reL A) k A.2.2 = shfW (nI v) (reL A) k A.2.2 := by rw [shfS, hq]
    rw [hs]
    have dv : ∀ (m d : Nat), 3 ≤ v → m ≤ 40 → 1 ≤ d → d ≤ 40 → reL A * nI m / nI d = fdv (reL A * nI m) (nI d) := fun m d a b c e => (fdv_pos (b_mul ⟨(h3 a).1, hr.2⟩ (b_nI (n := m) (a := 0) (b := 40) (by omega) (by omega) (by omega)) (by decide)).1 (by decide) (b_nI (n := d) (a := 1) (b := 40) (by omega) (by omega) (by omega)) (by decide)).symm
    refine g_iload (i := 5) (t := 68) dX7_shift_66 rfl rfl ?_
    refine g_sw5 (l := 0) (td := 138) (t0 := 104) (t1 := 106) (t2 := 109) (t3 := 116) (t4 := 125) (by decide) dX7_shift_68 rfl rfl (by decide) (by decide) (by decide) (by decide) (by decide) (by decide) (fun h68_0 => ?_) (fun h68_1 => ?_) (fun h68_2 => ?_) (fun h68_3 => ?_) (fun h68_4 => ?_) (fun h68_d => ?_)
    · have e : v = 0 := by have := (nI_eq (by omega) (by omega)).mp h68_0; omega
      subst e
      refine g_iconst (t := 105) dX7_shift_104 c_iconst_0 rfl ?_
      exact g_retP dX7_shift_105 rfl rfl (by rw [shfW, if_neg (by decide), if_neg (by decide), if_neg (by decide), if_neg (by decide), if_neg (by decide)])
    · have e : v = 1 := by have := (nI_eq (by omega) (by omega)).mp h68_1; omega
      subst e
      refine g_iload (i := 4) (t := 108) dX7_shift_106 rfl rfl ?_
      exact g_retP dX7_shift_108 rfl rfl (by rw [shfW, if_pos rfl])
    · have e : v = 2 := by have := (nI_eq (by omega) (by omega)).mp h68_2; omega
      subst e
      refine g_iload (i := 4) (t := 111) dX7_shift_109 rfl rfl ?_
      refine g_iconst (t := 112) dX7_shift_111 c_iconst_2 rfl ?_
      refine g_cSp (t := 115) mX7_down k_X7_201 smX7_down dX7_shift_112 (x7_down (b_wk hr (by decide) (by decide))) rfl rfl (by decide) (by decide) (Nat.le_of_ble_eq_true rfl) rfl ?_
      exact g_retP dX7_shift_115 rfl rfl (by rw [shfW, if_neg (by decide), if_pos rfl])
    · have e : v = 3 := by have := (nI_eq (by omega) (by omega)).mp h68_3; omega
      subst e
      refine g_iload (i := 4) (t := 118) dX7_shift_116 rfl rfl ?_
      refine g_iload_n (i := 2) (t := 119) dX7_shift_118 rfl rfl rfl ?_
      refine g_imul (t := 120) dX7_shift_119 rfl ?_
      refine g_iload_n (i := 3) (t := 121) dX7_shift_120 rfl rfl rfl ?_
      refine g_iconst (t := 122) dX7_shift_121 c_iconst_1 rfl ?_
      refine g_isub (t := 123) dX7_shift_122 rfl ?_
      rw [show nI A.2.2 - nI 1 = nI (A.2.2 - 1) from pk_sub (by omega)]
      have h32 := (h3 (by decide)).2
      refine g_idiv (t := 124) dX7_shift_123 (nI_ne0 (by omega) (by omega)) rfl ?_
      exact g_retP dX7_shift_124 rfl rfl (by rw [dv k _ (by decide) (by omega) (by omega) (by omega), shfW, if_neg (by decide), if_neg (by decide), if_pos rfl])
    · have e : v = 4 := by have := (nI_eq (by omega) (by omega)).mp h68_4; omega
      subst e
      refine g_iload (i := 4) (t := 127) dX7_shift_125 rfl rfl ?_
      refine g_iconst (t := 128) dX7_shift_127 c_iconst_2 rfl ?_
      refine g_iload_n (i := 2) (t := 129) dX7_shift_128 rfl rfl rfl ?_
      refine g_imul (t := 130) dX7_shift_129 rfl ?_
      refine g_iconst (t := 131) dX7_shift_130 c_iconst_1 rfl ?_
      refine g_iadd (t := 132) dX7_shift_131 rfl ?_
      refine g_imul (t := 133) dX7_shift_132 rfl ?_
      refine g_iconst (t := 134) dX7_shift_133 c_iconst_2 rfl ?_
      refine g_iload_n (i := 3) (t := 135) dX7_shift_134 rfl rfl rfl ?_
      refine g_imul (t := 136) dX7_shift_135 rfl ?_
      rw [show nI 2 * nI A.2.2 = nI (2 * A.2.2) from pk_mul _ _, show nI 2 * nI k + nI 1 = nI (2 * k + 1) by rw [pk_mul, nI_add]]
      refine g_idiv (t := 137) dX7_shift_136 (nI_ne0 (by omega) (by omega)) rfl ?_
      exact g_retP dX7_shift_137 rfl rfl (by rw [dv _ _ (by decide) (by omega) (by omega) (by omega), shfW, if_neg (by decide), if_neg (by decide), if_neg (by decide), if_pos rfl])
    · have e : v = 5 := by
        apply Classical.byContradiction
        intro q
        exact h68_d v (by omega) (congrArg nI (by omega))
      subst e
      refine g_iload (i := 4) (t := 140) dX7_shift_138 rfl rfl ?_
      refine g_iload_n (i := 2) (t := 141) dX7_shift_140 rfl rfl rfl ?_
      refine g_iconst (t := 142) dX7_shift_141 c_iconst_1 rfl ?_
      refine g_iadd (t := 143) dX7_shift_142 rfl ?_
      refine g_imul (t := 144) dX7_shift_143 rfl ?_
      refine g_iload_n (i := 3) (t := 145) dX7_shift_144 rfl rfl rfl ?_
      refine g_iconst (t := 146) dX7_shift_145 c_iconst_1 rfl ?_
      refine g_iadd (t := 147) dX7_shift_146 rfl ?_
      rw [gi_s, gi_s]
      refine g_idiv (t := 148) dX7_shift_147 (nI_ne0 (by omega) (by omega)) rfl ?_
      exact g_retP dX7_shift_148 rfl rfl (by rw [dv _ _ (by decide) (by omega) (by omega) (by omega), shfW, if_neg (by decide), if_neg (by decide), if_neg (by decide), if_neg (by decide), if_pos rfl])
  have r0 : ¬ reL A < 0 → 0 ≤ (reL A).toInt := fun a => by rw [t_lt, z0] at a; omega
  have e3 : 3 ≤ wv → ((reL A) < 0 ∨ A.2.2 ≤ 1) → wayV (nI wv) (reL A) A.2.2 = if nI wv = nI 3 then nI 0 else nI 2 := fun a b => if_pos ⟨nI_le a (by omega), b⟩
  have e4 : ¬ (3 ≤ wv ∧ ((reL A) < 0 ∨ A.2.2 ≤ 1)) → wayV (nI wv) (reL A) A.2.2 = nI wv := fun a => if_neg (fun q => a ⟨(nI_leI (by omega) (by omega)).mp q.1, q.2⟩)
  refine g_aload_n (i := 0) (r := 41) (t := 1) dX7_shift_0 rfl rfl (Or.inl l9_41) rfl ?_
  refine gm_getR (o := 41) (ci := 7) (k := 12) (r := 49) (t := 4) l6_41 l9_41 s_41 gf_X7_31 rfl r_41_12 l9_49 dX7_shift_1 rfl ?_
  refine g_iload_n (i := 1) (t := 5) dX7_shift_4 rfl rfl rfl ?_
  refine gm_iald_n (a := 49) (n := 16) (t := 6) l6_49 l9_49 s_49 dX7_shift_5 (by omega) (by decide) rfl ?_
  rw [b5]
  refine g_aload_n (i := 0) (r := 41) (t := 7) dX7_shift_6 rfl rfl (Or.inl l9_41) rfl ?_
  refine gm_getR (o := 41) (ci := 7) (k := 11) (r := 48) (t := 10) l6_41 l9_41 s_41 gf_X7_28 rfl r_41_11 l9_48 dX7_shift_7 rfl ?_
  refine g_iload_n (i := 1) (t := 11) dX7_shift_10 rfl rfl rfl ?_
  refine gm_iald_n (a := 48) (n := 16) (t := 12) l6_48 l9_48 s_48 dX7_shift_11 (by omega) (by decide) rfl ?_
  rw [b4]
  refine g_isub (t := 13) dX7_shift_12 rfl ?_
  refine g_top (y := nI A.2.2) (by rw [pk_sub (by omega), Nat.add_sub_cancel_left]) ?_
  refine g_istore_n (i := 3) (t := 14) (L1 := [_, _, _, _, _, _]) dX7_shift_13 rfl (by decide) rfl rfl rfl ?_
  refine g_aload_n (i := 0) (r := 41) (t := 15) dX7_shift_14 rfl rfl (Or.inl l9_41) rfl ?_
  refine gm_getR (o := 41) (ci := 7) (k := 19) (r := 55) (t := 18) l6_41 l9_41 s_41 gf_X7_50 rfl r_41_19 l9_55 dX7_shift_15 rfl ?_
  refine g_iload_n (i := 1) (t := 19) dX7_shift_18 rfl rfl rfl ?_
  refine gm_iald_n (a := 55) (n := 16) (t := 20) l6_55 l9_55 s_55 dX7_shift_19 (by omega) (by decide) rfl ?_
  rw [h55]
  refine g_istore (i := 4) (t := 22) (L1 := [_, _, _, _, _, _]) dX7_shift_20 (by decide) rfl rfl rfl ?_
  refine g_aload_n (i := 0) (r := 41) (t := 23) dX7_shift_22 rfl rfl (Or.inl l9_41) rfl ?_
  refine gm_getR (o := 41) (ci := 7) (k := 0) (r := 42) (t := 26) l6_41 l9_41 s_41 gf_X7_7 rfl r_41_0 l9_42 dX7_shift_23 rfl ?_
  refine g_sipush (t := 29) dX7_shift_26 c_sipush_181 rfl ?_
  refine gm_iald_n (a := 42) (n := 184) (t := 30) l6_42 l9_42 s_42 dX7_shift_29 (by omega) (by decide) rfl ?_
  rw [e181]
  refine g_istore (i := 5) (t := 32) (L1 := [_, _, _, _, _, _]) dX7_shift_30 (by decide) rfl rfl rfl ?_
  refine g_iload (i := 4) (t := 34) dX7_shift_32 rfl rfl ?_
  refine g_if_lt (t1 := 42) (t2 := 37) dX7_shift_34 (by decide) rfl (fun h34 => ?_) (fun h34 => ?_)
  · refine g_iload (i := 5) (t := 44) dX7_shift_42 rfl rfl ?_
    refine g_iconst (t := 45) dX7_shift_44 c_iconst_3 rfl ?_
    refine g_icmp_ne_n (t1 := 52) (t2 := 48) dX7_shift_45 (by decide) rfl (by omega) (by omega) (fun h45 => ?_) (fun h45 => ?_)
    · refine g_iload (i := 5) (t := 54) dX7_shift_52 rfl rfl ?_
      refine g_iconst (t := 55) dX7_shift_54 c_iconst_3 rfl ?_
      refine g_icmp_le_n (t1 := 62) (t2 := 58) dX7_shift_55 (by decide) rfl (by omega) (by omega) (fun h55 => ?_) (fun h55 => ?_)
      · refine g_iload (i := 5) (t := 64) dX7_shift_62 rfl rfl ?_
        refine g_istore (i := 5) (t := 66) (L1 := [_, _, _, _, _, _]) dX7_shift_64 (by decide) rfl rfl rfl ?_
        first
        | exact T66 wv (by omega) (fun _ => ⟨r0 h34, by omega⟩) (e4 (fun q => q.2.elim h34 (fun y => by omega)))
        | exact T66 0 (by decide) (fun q => absurd q (by decide)) (by rw [e3 (by omega) (by first | exact Or.inl h34 | exact Or.inr (by omega)), if_pos (by rw [h45])])
        | exact T66 2 (by decide) (fun q => absurd q (by decide)) (by rw [e3 (by omega) (by first | exact Or.inl h34 | exact Or.inr (by omega)), if_neg (fun q => h45 ((nI_eq (by omega) (by omega)).mp q))])
        | exact T66 wv (by omega) (fun q => by omega) (e4 (fun q => by omega))
      · refine g_iconst (t := 59) dX7_shift_58 c_iconst_2 rfl ?_
        refine g_goto (t := 64) dX7_shift_59 (by decide) ?_
        refine g_istore (i := 5) (t := 66) (L1 := [_, _, _, _, _, _]) dX7_shift_64 (by decide) rfl rfl rfl ?_
        first
        | exact T66 wv (by omega) (fun _ => ⟨r0 h34, by omega⟩) (e4 (fun q => q.2.elim h34 (fun y => by omega)))
        | exact T66 0 (by decide) (fun q => absurd q (by decide)) (by rw [e3 (by omega) (by first | exact Or.inl h34 | exact Or.inr (by omega)), if_pos (by rw [h45])])
        | exact T66 2 (by decide) (fun q => absurd q (by decide)) (by rw [e3 (by omega) (by first | exact Or.inl h34 | exact Or.inr (by omega)), if_neg (fun q => h45 ((nI_eq (by omega) (by omega)).mp q))])
        | exact T66 wv (by omega) (fun q => by omega) (e4 (fun q => by omega))
    · refine g_iconst (t := 49) dX7_shift_48 c_iconst_0 rfl ?_
      refine g_goto (t := 64) dX7_shift_49 (by decide) ?_
      refine g_istore (i := 5) (t := 66) (L1 := [_, _, _, _, _, _]) dX7_shift_64 (by decide) rfl rfl rfl ?_
      first
      | exact T66 wv (by omega) (fun _ => ⟨r0 h34, by omega⟩) (e4 (fun q => q.2.elim h34 (fun y => by omega)))
      | exact T66 0 (by decide) (fun q => absurd q (by decide)) (by rw [e3 (by omega) (by first | exact Or.inl h34 | exact Or.inr (by omega)), if_pos (by rw [h45])])
      | exact T66 2 (by decide) (fun q => absurd q (by decide)) (by rw [e3 (by omega) (by first | exact Or.inl h34 | exact Or.inr (by omega)), if_neg (fun q => h45 ((nI_eq (by omega) (by omega)).mp q))])
      | exact T66 wv (by omega) (fun q => by omega) (e4 (fun q => by omega))
  · refine g_iload_n (i := 3) (t := 38) dX7_shift_37 rfl rfl rfl ?_
    refine g_iconst (t := 39) dX7_shift_38 c_iconst_1 rfl ?_
    refine g_icmp_ne_n (t1 := 66) (t2 := 42) dX7_shift_39 (by decide) rfl (by omega) (by omega) (fun h39 => ?_) (fun h39 => ?_)
    · first
      | exact T66 wv (by omega) (fun _ => ⟨r0 h34, by omega⟩) (e4 (fun q => q.2.elim h34 (fun y => by omega)))
      | exact T66 0 (by decide) (fun q => absurd q (by decide)) (by rw [e3 (by omega) (by first | exact Or.inl h34 | exact Or.inr (by omega)), if_pos (by rw [h45])])
      | exact T66 2 (by decide) (fun q => absurd q (by decide)) (by rw [e3 (by omega) (by first | exact Or.inl h34 | exact Or.inr (by omega)), if_neg (fun q => h45 ((nI_eq (by omega) (by omega)).mp q))])
      | exact T66 wv (by omega) (fun q => by omega) (e4 (fun q => by omega))
    · refine g_iload (i := 5) (t := 44) dX7_shift_42 rfl rfl ?_
      refine g_iconst (t := 45) dX7_shift_44 c_iconst_3 rfl ?_
      refine g_icmp_ne_n (t1 := 52) (t2 := 48) dX7_shift_45 (by decide) rfl (by omega) (by omega) (fun h45 => ?_) (fun h45 => ?_)
      · refine g_iload (i := 5) (t := 54) dX7_shift_52 rfl rfl ?_
        refine g_iconst (t := 55) dX7_shift_54 c_iconst_3 rfl ?_
        refine g_icmp_le_n (t1 := 62) (t2 := 58) dX7_shift_55 (by decide) rfl (by omega) (by omega) (fun h55 => ?_) (fun h55 => ?_)
        · refine g_iload (i := 5) (t := 64) dX7_shift_62 rfl rfl ?_
          refine g_istore (i := 5) (t := 66) (L1 := [_, _, _, _, _, _]) dX7_shift_64 (by decide) rfl rfl rfl ?_
          first
          | exact T66 wv (by omega) (fun _ => ⟨r0 h34, by omega⟩) (e4 (fun q => q.2.elim h34 (fun y => by omega)))
          | exact T66 0 (by decide) (fun q => absurd q (by decide)) (by rw [e3 (by omega) (by first | exact Or.inl h34 | exact Or.inr (by omega)), if_pos (by rw [h45])])
          | exact T66 2 (by decide) (fun q => absurd q (by decide)) (by rw [e3 (by omega) (by first | exact Or.inl h34 | exact Or.inr (by omega)), if_neg (fun q => h45 ((nI_eq (by omega) (by omega)).mp q))])
          | exact T66 wv (by omega) (fun q => by omega) (e4 (fun q => by omega))
        · refine g_iconst (t := 59) dX7_shift_58 c_iconst_2 rfl ?_
          refine g_goto (t := 64) dX7_shift_59 (by decide) ?_
          refine g_istore (i := 5) (t := 66) (L1 := [_, _, _, _, _, _]) dX7_shift_64 (by decide) rfl rfl rfl ?_
          first
          | exact T66 wv (by omega) (fun _ => ⟨r0 h34, by omega⟩) (e4 (fun q => q.2.elim h34 (fun y => by omega)))
          | exact T66 0 (by decide) (fun q => absurd q (by decide)) (by rw [e3 (by omega) (by first | exact Or.inl h34 | exact Or.inr (by omega)), if_pos (by rw [h45])])
          | exact T66 2 (by decide) (fun q => absurd q (by decide)) (by rw [e3 (by omega) (by first | exact Or.inl h34 | exact Or.inr (by omega)), if_neg (fun q => h45 ((nI_eq (by omega) (by omega)).mp q))])
          | exact T66 wv (by omega) (fun q => by omega) (e4 (fun q => by omega))
      · refine g_iconst (t := 49) dX7_shift_48 c_iconst_0 rfl ?_
        refine g_goto (t := 64) dX7_shift_49 (by decide) ?_
        refine g_istore (i := 5) (t := 66) (L1 := [_, _, _, _, _, _]) dX7_shift_64 (by decide) rfl rfl rfl ?_
        first
        | exact T66 wv (by omega) (fun _ => ⟨r0 h34, by omega⟩) (e4 (fun q => q.2.elim h34 (fun y => by omega)))
        | exact T66 0 (by decide) (fun q => absurd q (by decide)) (by rw [e3 (by omega) (by first | exact Or.inl h34 | exact Or.inr (by omega)), if_pos (by rw [h45])])
        | exact T66 2 (by decide) (fun q => absurd q (by decide)) (by rw [e3 (by omega) (by first | exact Or.inl h34 | exact Or.inr (by omega)), if_neg (fun q => h45 ((nI_eq (by omega) (by omega)).mp q))])
        | exact T66 wv (by omega) (fun q => by omega) (e4 (fun q => by omega))
theorem x7_along (hB : mB I s A l) (hV : aV A) (h55 : I 55 l = reL A) (h50 : ∀ p, A.2.1 ≤ p → p < A.2.1 + A.2.2 → I 50 p = szA A p) : gQV E fX7_along [.ref 41, .int (nI l), .int A.1.2.2.1] I h (fun I' => gSame [58] I I' ∧ strN I' I 58 A.2.1 (A.2.1 + A.2.2) (lfA A)) := by
  refine gEv.of rfl (Nat.le_refl _) (Nat.le_of_ble_eq_true rfl) (L := [.ref 41, .int (nI l), .int A.1.2.2.1, .null, .null, .null, .null]) rfl ?_
  have ⟨b1, b2, b3, b4, b5, b6, b7, b8, b9⟩ := hB
  have L : ∀ (d k : Nat) (J : Nat → Nat → Int32) (v5 v6 : Value), k + d = A.2.2 → gSame [58] I J → strN J I 58 A.2.1 (A.2.1 + k) (lfA A) → Wp E fX7_along 62 10 [.ref 41, .int (nI l), .int A.1.2.2.1, .int (alN A k), .int (nI (A.2.1 + k)), v5, v6] [] (gM J h) (gRet fX7_along 62 (fun r σ' => ∃ I', r = none ∧ σ' = gM I' h ∧ gSame [58] I I' ∧ strN I' I 58 A.2.1 (A.2.1 + A.2.2) (lfA A))) := by
    intro d
    induction d with
    | zero =>
      intro k J v5 v6 hk hs zs
      have hk : k = A.2.2 := by omega
      subst hk
      refine g_iload (i := 4) (t := 12) dX7_along_10 rfl rfl ?_
      refine g_aload_n (i := 0) (r := 41) (t := 13) dX7_along_12 rfl rfl (Or.inl l9_41) rfl ?_
      refine gm_getR (o := 41) (ci := 7) (k := 12) (r := 49) (t := 16) l6_41 l9_41 s_41 gf_X7_31 rfl r_41_12 l9_49 dX7_along_13 rfl ?_
      refine g_iload_n (i := 1) (t := 17) dX7_along_16 rfl rfl rfl ?_
      refine gm_iald_n (a := 49) (n := 16) (t := 18) l6_49 l9_49 s_49 dX7_along_17 (by omega) (by decide) rfl ?_
      rw [show J 49 l = nI (A.2.1 + A.2.2) by rw [hs.at 49 rfl]; exact b5]
      refine g_icmp_ge_n (t1 := 122) (t2 := 21) dX7_along_18 (by decide) rfl (by omega) (by omega) (fun h18 => ?_) (fun h18 => ?_)
      · exact g_retV dX7_along_122 rfl (⟨hs, zs⟩)
      · exfalso; omega
    | succ d ih =>
      intro k J v5 v6 hk hs zs
      obtain ⟨x1, x2⟩ := b7 (A.2.1 + k) (by omega) (by omega)
      have hBJ : mB J s A l := hB.keep hs rfl
      have h55J : J 55 l = reL A := by rw [hs.at 55 rfl]; exact h55
      have j50 : J 50 (A.2.1 + k) = szA A (A.2.1 + k) := by rw [hs.at 50 rfl]; exact h50 _ (by omega) (by omega)
      have jC := hBJ.1
      have emg : J 42 (11 * A.1.2.2.2 (A.2.1 + k) + 5) = A.1.1 (A.1.2.2.2 (A.2.1 + k)) 5 := by rw [b8]; exact jC.2.1 _ 5 x2 (by decide)
      have T91 : ∀ v : Int32, v = lfA A (A.2.1 + k) → Wp E fX7_along 62 91 [.ref 41, .int (nI l), .int A.1.2.2.1, .int (alN A k), .int (nI (A.2.1 + k)), .int (A.1.1 (A.1.2.2.2 (A.2.1 + k)) 5), .int (xA A k)] [.int v, .int (nI (A.2.1 + k)), .ref 58] (gM J h) (gRet fX7_along 62 (fun r σ' => ∃ I', r = none ∧ σ' = gM I' h ∧ gSame [58] I I' ∧ strN I' I 58 A.2.1 (A.2.1 + A.2.2) (lfA A))) := by
        intro v hv
        refine gm_iast_n (a := 58) (n := 16) (t := 92) l6_58 l9_58 s_58 dX7_along_91 (by omega) (by decide) rfl ?_
        refine g_iload_n (i := 3) (t := 93) dX7_along_92 rfl rfl rfl ?_
        refine g_iconst (t := 94) dX7_along_93 c_iconst_2 rfl ?_
        refine g_iload (i := 5) (t := 96) dX7_along_94 rfl rfl ?_
        refine g_imul (t := 97) dX7_along_96 rfl ?_
        refine g_aload_n (i := 0) (r := 41) (t := 98) dX7_along_97 rfl rfl (Or.inl l9_41) rfl ?_
        refine gm_getR (o := 41) (ci := 7) (k := 14) (r := 50) (t := 101) l6_41 l9_41 s_41 gf_X7_34 rfl r_41_14 l9_50 dX7_along_98 rfl ?_
        refine g_iload (i := 4) (t := 103) dX7_along_101 rfl rfl ?_
        refine gm_iald_n (a := 50) (n := 16) (t := 104) l6_50 l9_50 s_50 dX7_along_103 (by omega) (by decide) rfl ?_
        rw [gup_o _ _ _ _ (by decide), j50]
        refine g_iadd (t := 105) dX7_along_104 rfl ?_
        refine g_aload_n (i := 0) (r := 41) (t := 106) dX7_along_105 rfl rfl (Or.inl l9_41) rfl ?_
        refine gm_getR (o := 41) (ci := 7) (k := 0) (r := 42) (t := 109) l6_41 l9_41 s_41 gf_X7_7 rfl r_41_0 l9_42 dX7_along_106 rfl ?_
        refine g_sipush (t := 112) dX7_along_109 c_sipush_178 rfl ?_
        refine gm_iald_n (a := 42) (n := 184) (t := 113) l6_42 l9_42 s_42 dX7_along_112 (by omega) (by decide) rfl ?_
        rw [gup_o _ _ _ _ (by decide), show J 42 178 = A.1.2.1 1 by rw [b9]; exact jC.2.2 1 (by decide)]
        refine g_iadd (t := 114) dX7_along_113 rfl ?_
        refine g_iadd (t := 115) dX7_along_114 rfl ?_
        refine g_top (y := alN A (k + 1)) (by rw [alN, Int32.add_comm (nI 2 * _)]) ?_
        refine g_istore_n (i := 3) (t := 116) (L1 := [_, _, _, _, _, _, _]) dX7_along_115 rfl (by decide) rfl rfl rfl ?_
        refine g_iinc (i := 4) (t := 119) (L1 := [_, _, _, _, _, _, _]) dX7_along_116 rfl (gi_1 _) (by decide) rfl rfl rfl ?_
        refine g_goto (t := 10) dX7_along_119 (by decide) ?_
        exact ih (k + 1) _ _ _ (by omega) (hs.up rfl) (zs.next (by omega) hv)
      have elf : lfA A (A.2.1 + k) = if A.1.2.1 6 = nI 1 then A.1.2.2.1 - xA A k - szA A (A.2.1 + k) else xA A k := by rw [lfA, Nat.add_sub_cancel_left]
      refine g_iload (i := 4) (t := 12) dX7_along_10 rfl rfl ?_
      refine g_aload_n (i := 0) (r := 41) (t := 13) dX7_along_12 rfl rfl (Or.inl l9_41) rfl ?_
      refine gm_getR (o := 41) (ci := 7) (k := 12) (r := 49) (t := 16) l6_41 l9_41 s_41 gf_X7_31 rfl r_41_12 l9_49 dX7_along_13 rfl ?_
      refine g_iload_n (i := 1) (t := 17) dX7_along_16 rfl rfl rfl ?_
      refine gm_iald_n (a := 49) (n := 16) (t := 18) l6_49 l9_49 s_49 dX7_along_17 (by omega) (by decide) rfl ?_
      rw [show J 49 l = nI (A.2.1 + A.2.2) by rw [hs.at 49 rfl]; exact b5]
      refine g_icmp_ge_n (t1 := 122) (t2 := 21) dX7_along_18 (by decide) rfl (by omega) (by omega) (fun h18 => ?_) (fun h18 => ?_)
      · exfalso; omega
      · refine g_aload_n (i := 0) (r := 41) (t := 22) dX7_along_21 rfl rfl (Or.inl l9_41) rfl ?_
        refine g_aload_n (i := 0) (r := 41) (t := 23) dX7_along_22 rfl rfl (Or.inl l9_41) rfl ?_
        refine gm_getR (o := 41) (ci := 7) (k := 8) (r := 46) (t := 26) l6_41 l9_41 s_41 gf_X7_22 rfl r_41_8 l9_46 dX7_along_23 rfl ?_
        refine g_iload (i := 4) (t := 28) dX7_along_26 rfl rfl ?_
        refine gm_iald_n (a := 46) (n := 16) (t := 29) l6_46 l9_46 s_46 dX7_along_28 (by omega) (by decide) rfl ?_
        rw [show J 46 (A.2.1 + k) = nI (A.1.2.2.2 (A.2.1 + k)) by rw [hs.at 46 rfl]; exact x1]
        refine g_iconst (t := 30) dX7_along_29 c_iconst_5 rfl ?_
        refine g_cVp (o := 41) (t := 33) mX7_of k_X7_157 imX7_of seX7_of l6_41 l9_41 s_41 rfl dX7_along_30 (x7_of (by omega) (by omega)) rfl rfl (by decide) (by decide) (Nat.le_of_ble_eq_true rfl) rfl ?_
        rw [emg]
        refine g_istore (i := 5) (t := 35) (L1 := [_, _, _, _, _, _, _]) dX7_along_33 (by decide) rfl rfl rfl ?_
        refine g_iload_n (i := 3) (t := 36) dX7_along_35 rfl rfl rfl ?_
        refine g_iload (i := 5) (t := 38) dX7_along_36 rfl rfl ?_
        refine g_iadd (t := 39) dX7_along_38 rfl ?_
        refine g_aload_n (i := 0) (r := 41) (t := 40) dX7_along_39 rfl rfl (Or.inl l9_41) rfl ?_
        refine g_iload_n (i := 1) (t := 41) dX7_along_40 rfl rfl rfl ?_
        refine g_iload (i := 4) (t := 43) dX7_along_41 rfl rfl ?_
        refine g_aload_n (i := 0) (r := 41) (t := 44) dX7_along_43 rfl rfl (Or.inl l9_41) rfl ?_
        refine gm_getR (o := 41) (ci := 7) (k := 11) (r := 48) (t := 47) l6_41 l9_41 s_41 gf_X7_28 rfl r_41_11 l9_48 dX7_along_44 rfl ?_
        refine g_iload_n (i := 1) (t := 48) dX7_along_47 rfl rfl rfl ?_
        refine gm_iald_n (a := 48) (n := 16) (t := 49) l6_48 l9_48 s_48 dX7_along_48 (by omega) (by decide) rfl ?_
        rw [show J 48 l = nI A.2.1 by rw [hs.at 48 rfl]; exact b4]
        refine g_isub (t := 50) dX7_along_49 rfl ?_
        refine g_top (y := nI k) (by rw [pk_sub (by omega), Nat.add_sub_cancel_left]) ?_
        refine g_cVp (o := 41) (t := 53) mX7_shift k_X7_204 imX7_shift seX7_shift l6_41 l9_41 s_41 rfl dX7_along_50 (x7_shift hBJ hV h55J (by omega)) rfl rfl (by decide) (by decide) (Nat.le_of_ble_eq_true rfl) rfl ?_
        refine g_iadd (t := 54) dX7_along_53 rfl ?_
        refine g_top (y := xA A k) rfl ?_
        refine g_istore (i := 6) (t := 56) (L1 := [_, _, _, _, _, _, _]) dX7_along_54 (by decide) rfl rfl rfl ?_
        refine g_aload_n (i := 0) (r := 41) (t := 57) dX7_along_56 rfl rfl (Or.inl l9_41) rfl ?_
        refine gm_getR (o := 41) (ci := 7) (k := 22) (r := 58) (t := 60) l6_41 l9_41 s_41 gf_X7_59 rfl r_41_22 l9_58 dX7_along_57 rfl ?_
        refine g_iload (i := 4) (t := 62) dX7_along_60 rfl rfl ?_
        refine g_aload_n (i := 0) (r := 41) (t := 63) dX7_along_62 rfl rfl (Or.inl l9_41) rfl ?_
        refine gm_getR (o := 41) (ci := 7) (k := 0) (r := 42) (t := 66) l6_41 l9_41 s_41 gf_X7_7 rfl r_41_0 l9_42 dX7_along_63 rfl ?_
        refine g_sipush (t := 69) dX7_along_66 c_sipush_183 rfl ?_
        refine gm_iald_n (a := 42) (n := 184) (t := 70) l6_42 l9_42 s_42 dX7_along_69 (by omega) (by decide) rfl ?_
        rw [show J 42 183 = A.1.2.1 6 by rw [b9]; exact jC.2.2 6 (by decide)]
        refine g_iconst (t := 71) dX7_along_70 c_iconst_1 rfl ?_
        refine g_icmp_ne (t1 := 89) (t2 := 74) dX7_along_71 (by decide) rfl (fun h71 => ?_) (fun h71 => ?_)
        · refine g_iload (i := 6) (t := 91) dX7_along_89 rfl rfl ?_
          refine T91 _ ?_
          rw [elf]
          first
          | rw [if_pos h71]
          | rw [if_neg h71]
        · refine g_iload_n (i := 2) (t := 75) dX7_along_74 rfl rfl rfl ?_
          refine g_iload (i := 6) (t := 77) dX7_along_75 rfl rfl ?_
          refine g_isub (t := 78) dX7_along_77 rfl ?_
          refine g_aload_n (i := 0) (r := 41) (t := 79) dX7_along_78 rfl rfl (Or.inl l9_41) rfl ?_
          refine gm_getR (o := 41) (ci := 7) (k := 14) (r := 50) (t := 82) l6_41 l9_41 s_41 gf_X7_34 rfl r_41_14 l9_50 dX7_along_79 rfl ?_
          refine g_iload (i := 4) (t := 84) dX7_along_82 rfl rfl ?_
          refine gm_iald_n (a := 50) (n := 16) (t := 85) l6_50 l9_50 s_50 dX7_along_84 (by omega) (by decide) rfl ?_
          rw [j50]
          refine g_isub (t := 86) dX7_along_85 rfl ?_
          refine g_goto (t := 91) dX7_along_86 (by decide) ?_
          refine T91 _ ?_
          rw [elf]
          first
          | rw [if_pos h71]
          | rw [if_neg h71]
  refine g_iconst (t := 1) dX7_along_0 c_iconst_0 rfl ?_
  refine g_istore_n (i := 3) (t := 2) (L1 := [_, _, _, _, _, _, _]) dX7_along_1 rfl (by decide) rfl rfl rfl ?_
  refine g_aload_n (i := 0) (r := 41) (t := 3) dX7_along_2 rfl rfl (Or.inl l9_41) rfl ?_
  refine gm_getR (o := 41) (ci := 7) (k := 11) (r := 48) (t := 6) l6_41 l9_41 s_41 gf_X7_28 rfl r_41_11 l9_48 dX7_along_3 rfl ?_
  refine g_iload_n (i := 1) (t := 7) dX7_along_6 rfl rfl rfl ?_
  refine gm_iald_n (a := 48) (n := 16) (t := 8) l6_48 l9_48 s_48 dX7_along_7 (by omega) (by decide) rfl ?_
  rw [b4]
  refine g_istore (i := 4) (t := 10) (L1 := [_, _, _, _, _, _, _]) dX7_along_8 (by decide) rfl rfl rfl ?_
  exact L A.2.2 0 I _ _ (Nat.zero_add _) gSame.rf strN.rf
end X7N

