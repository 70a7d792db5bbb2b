/-! the law's own cells; changes, hides, sets -/
def aX (I : Nat → Nat → Int32) (S : sT) : Prop := S.1.1 ≤ 5 ∧ I 41 60 = nI S.1.1 ∧ (∀ i w, i < S.1.1 → w < 11 → I 41 (12 * i + w) = S.1.2.1 i w) ∧ ∀ w, w < 7 → I 42 w = S.1.2.2 w
theorem aX.keep {I J : Nat → Nat → Int32} {S S' : sT} {cs : List Nat} (h : aX I S) (hs : gSame cs I J) (h41 : cs.contains 41 = false) (h42 : cs.contains 42 = false) (he : S'.1 = S.1) : aX J S' := by
  unfold aX
  rw [hs.at 41 h41, hs.at 42 h42, he]
  exact h
theorem rX.upLs {I J : Nat → Nat → Int32} {S : sT} {cs : List Nat} (h : rX I S) (hs : gSame cs I J) (hcs : ∀ c, c < 41 → cs.contains c = false) : rX J S := h.keep hs (by
  refine List.all_eq_true.mpr fun c hc => ?_
  have h41 : c < 41 := (show ∀ c ∈ [0, 1, 2, 4, 5, 6, 7, 8, 9, 10, 11, 12, 13, 14, 15, 16, 17, 18, 19, 20, 21, 22, 23, 24, 25, 27, 28, 29, 30, 31], c < 41 by decide) c hc
  rw [hcs c h41]
  rfl)
theorem rX.up41 {I : Nat → Nat → Int32} {S : sT} {k : Nat} {v : Int32} (h : rX I S) : rX (gup I 41 k v) S := h.keep (cs := [41]) (gSame.rf.up rfl) rfl
theorem rX.up42 {I : Nat → Nat → Int32} {S : sT} {k : Nat} {v : Int32} (h : rX I S) : rX (gup I 42 k v) S := h.keep (cs := [42]) (gSame.rf.up rfl) rfl
/-- what holds behind a step of the law -/
def lawP (I : Nat → Nat → Int32) : Prop := ∃ S, rX I S ∧ aX I S ∧ vT S
theorem oCh_no {S S' : sT} {it k : Nat} {z v : Int32} (hit : it < S.1.1) (hn : S.1.1 ≤ 5) (hk : k < 10) (hz : z < lwt k ∨ hwt k < z) (h : oChange S (nI it) (nI k) z v S') : v = -1002 ∧ S' = S := by
  rcases h with ⟨-, h1, h2⟩ | ⟨i2, k2, -, -, h3, h4, h5, h6, -⟩
  · exact ⟨h1, h2⟩
  · have : k = k2 := (nI_eq (by omega) (by omega)).mp h4
    subst this
    exact absurd hz (fun z => z.elim h5 h6)
theorem oCh_10 {S S' : sT} {it : Nat} {z v : Int32} (h : oChange S (nI it) (nI 10) z v S') : v = -1002 ∧ S' = S := by
  rcases h with ⟨-, h1, h2⟩ | ⟨i2, k2, -, -, h3, h4, -⟩
  · exact ⟨h1, h2⟩
  · have : 10 = k2 := (nI_eq (by omega) (by omega)).mp h4
    omega
theorem oCh_y {S S' : sT} {it k : Nat} {z v : Int32} (hit : it < S.1.1) (hn : S.1.1 ≤ 5) (hk : k < 10) (h1 : ¬ z < lwt k) (h2 : ¬ hwt k < z) (h : oChange S (nI it) (nI k) z v S') : v = S.1.2.1 it k ∧ S'.1.1 = S.1.1 ∧ S'.1.2.2 = S.1.2.2 ∧ ∀ i w, i < 16 → w < 11 → S'.1.2.1 i w = if i = it ∧ w = k then z else S.1.2.1 i w := by
  rcases h with ⟨b | b | ⟨k2, kb, b, c⟩, -, -⟩ | ⟨i2, k2, ib, b1, kb, b2, -, -, b3, b4, b5, -, b6⟩
  · exact absurd b (bd_nI (by omega) hit)
  · exact absurd b (bd_nI (by omega) hk)
  · have : k = k2 := (nI_eq (by omega) (by omega)).mp b
    subst this
    exact absurd c (fun z => z.elim h1 h2)
  · have e1 : it = i2 := (nI_eq (by omega) (by omega)).mp b1
    have e2 : k = k2 := (nI_eq (by omega) (by omega)).mp b2
    subst e1
    subst e2
    exact ⟨b3, b4, b5, b6⟩
theorem in_of_b {z : Int32} {k : Nat} (hk : k < 10) (h : bnd z (lov k) (hiv k)) : ¬ z < lwt k ∧ ¬ hwt k < z := by
  obtain ⟨a, b, -⟩ := lw_b k hk
  rw [t_lt, t_lt]
  unfold bnd at h
  omega
theorem out_l : ∀ k, k < 10 → lstV k - nI 1 < lwt k ∧ hwt k < mstV k + nI 1 := by decide +kernel
section CHG
variable {E : gE} {I : Nat → Nat → Int32} {h : gX} {S : sT}
theorem l_changes {it : Nat} {x : Int32} (hX : rX I S) (hA : aX I S) (hV : vT S) (hit : it < S.1.1) : gQI E fL_changes [.ref 0, .ref 41, .int (nI it), .int x] I h (fun v I' => v = nI 1 ∧ lawP I') := by
  refine gEv.of rfl (Nat.le_refl _) (Nat.le_of_ble_eq_true rfl) (L := [.ref 0, .ref 41, .int (nI it), .int x, .null, .null]) rfl ?_
  obtain ⟨a1, a2, a3, a4⟩ := id hA
  obtain ⟨w, hw, ew⟩ := lowI_lt x (n := 10) (by decide) (by decide)
  obtain ⟨ol, oh⟩ := out_l w hw
  refine g_iload_n (i := 3) (t := 1) dL_changes_0 rfl rfl rfl ?_
  refine g_bipush (t := 3) dL_changes_1 c_bipush_10 rfl ?_
  refine g_cSp (t := 6) mL_low k_L_35 smL_low dL_changes_3 (l_low (by decide)) rfl rfl (by decide) (by decide) (Nat.le_of_ble_eq_true rfl) rfl (Nat.le_refl _) ?_
  refine g_top ew ?_
  refine g_istore (i := 4) (t := 8) (L1 := [_, _, _, _, _, _]) dL_changes_6 (by decide) rfl rfl rfl ?_
  refine g_aload_n (i := 1) (r := 41) (t := 9) dL_changes_8 rfl rfl (Or.inl l9_41) rfl ?_
  refine g_bipush (t := 11) dL_changes_9 c_bipush_12 rfl ?_
  refine g_iload_n (i := 2) (t := 12) dL_changes_11 rfl rfl rfl ?_
  refine g_imul (t := 13) dL_changes_12 rfl ?_
  refine g_iload (i := 4) (t := 15) dL_changes_13 rfl rfl ?_
  refine g_iadd (t := 16) dL_changes_15 rfl ?_
  refine gm_iald_x (a := 41) (n := 64) (t := 17) l6_41 l9_41 s_41 dL_changes_16 (ix_ma _ _ _) (by omega) (by decide) rfl ?_
  rw [a3 it w hit (by omega)]
  refine g_istore (i := 5) (t := 19) (L1 := [_, _, _, _, _, _]) dL_changes_17 (by decide) rfl rfl rfl ?_
  refine g_aload_n (i := 1) (r := 41) (t := 20) dL_changes_19 rfl rfl (Or.inl l9_41) rfl ?_
  refine g_bipush (t := 22) dL_changes_20 c_bipush_12 rfl ?_
  refine g_iload_n (i := 2) (t := 23) dL_changes_22 rfl rfl rfl ?_
  refine g_imul (t := 24) dL_changes_23 rfl ?_
  refine g_iload (i := 4) (t := 26) dL_changes_24 rfl rfl ?_
  refine g_iadd (t := 27) dL_changes_26 rfl ?_
  refine g_iload (i := 4) (t := 29) dL_changes_27 rfl rfl ?_
  refine g_iload_n (i := 3) (t := 30) dL_changes_29 rfl rfl rfl ?_
  refine g_iconst (t := 31) dL_changes_30 c_iconst_4 rfl ?_
  refine g_ishr (t := 32) dL_changes_31 rfl ?_
  refine g_cSi (t := 35) mL_value k_L_50 smL_value dL_changes_32 (l_value hw) rfl rfl (by decide) (by decide) (Nat.le_of_ble_eq_true rfl) rfl (Nat.le_refl _) (fun v32 J32 q32 => ?_)
  obtain ⟨rfl, hb⟩ := q32
  obtain ⟨b1, b2⟩ := in_of_b hw hb
  refine gm_iast_x (a := 41) (n := 64) (t := 36) l6_41 l9_41 s_41 dL_changes_35 (ix_ma _ _ _) (by omega) (by decide) rfl ?_
  refine g_aload_n (i := 0) (r := 0) (t := 37) dL_changes_36 rfl rfl (Or.inl l9_0) rfl ?_
  refine g_iload_n (i := 2) (t := 38) dL_changes_37 rfl rfl rfl ?_
  refine g_iload (i := 4) (t := 40) dL_changes_38 rfl rfl ?_
  refine g_aload_n (i := 1) (r := 41) (t := 41) dL_changes_40 rfl rfl (Or.inl l9_41) rfl ?_
  refine g_bipush (t := 43) dL_changes_41 c_bipush_12 rfl ?_
  refine g_iload_n (i := 2) (t := 44) dL_changes_43 rfl rfl rfl ?_
  refine g_imul (t := 45) dL_changes_44 rfl ?_
  refine g_iload (i := 4) (t := 47) dL_changes_45 rfl rfl ?_
  refine g_iadd (t := 48) dL_changes_47 rfl ?_
  refine gm_iald_x (a := 41) (n := 64) (t := 49) l6_41 l9_41 s_41 dL_changes_48 (ix_ma _ _ _) (by omega) (by decide) rfl ?_
  rw [gup_self]
  refine g_cVi (o := 0) (t := 52) mX6_change k_L_69 imX6_change seX6_change l6_0 l9_0 s_0 rfl dL_changes_49 (x6_change hX.up41) rfl rfl (by decide) (by decide) (Nat.le_of_ble_eq_true rfl) rfl (Nat.le_refl _) (fun v49 J49 q49 => ?_)
  obtain ⟨q1, S1, q2, q3⟩ := q49
  obtain ⟨p1, p2, p3, p4⟩ := oCh_y hit a1 hw b1 b2 q2
  have hA1 : aX J49 S1 := by
    unfold aX
    rw [q1.at 41 rfl, q1.at 42 rfl, p2, p3]
    refine ⟨a1, by rw [gup_k _ _ _ (by omega)]; exact a2, fun i k hi hk => ?_, a4⟩
    rw [p4 i k (by omega) hk, gup_at]
    by_cases y : i = it ∧ k = w
    · rw [if_pos y, if_pos (by rw [y.1, y.2])]
    · rw [if_neg y, if_neg (by omega), a3 i k hi hk]
  have hV1 := v_change hV q2
  have hit1 : it < S1.1.1 := by rw [p2]; exact hit
  have hn1 : S1.1.1 ≤ 5 := by rw [p2]; exact a1
  refine g_iload (i := 5) (t := 54) dL_changes_52 rfl rfl ?_
  refine g_icmp_ne (t1 := 115) (t2 := 57) dL_changes_54 (by decide) rfl (fun h54 => ?_) (fun h54 => ?_)
  · exact absurd p1 h54
  · refine g_aload_n (i := 0) (r := 0) (t := 58) dL_changes_57 rfl rfl (Or.inl l9_0) rfl ?_
    refine g_iload_n (i := 2) (t := 59) dL_changes_58 rfl rfl rfl ?_
    refine g_iload (i := 4) (t := 61) dL_changes_59 rfl rfl ?_
    refine g_iload (i := 4) (t := 63) dL_changes_61 rfl rfl ?_
    refine g_cSp (t := 66) mL_most k_L_44 smL_most dL_changes_63 (l_most (by omega)) rfl rfl (by decide) (by decide) (Nat.le_of_ble_eq_true rfl) rfl (Nat.le_refl _) ?_
    refine g_iconst (t := 67) dL_changes_66 c_iconst_1 rfl ?_
    refine g_iadd (t := 68) dL_changes_67 rfl ?_
    refine g_cVi (o := 0) (t := 71) mX6_change k_L_69 imX6_change seX6_change l6_0 l9_0 s_0 rfl dL_changes_68 (x6_change q3) rfl rfl (by decide) (by decide) (Nat.le_of_ble_eq_true rfl) rfl (Nat.le_refl _) (fun v68 J68 q68 => ?_)
    obtain ⟨q4, S2, q5, q6⟩ := q68
    obtain ⟨p5, rfl⟩ := oCh_no hit1 hn1 hw (Or.inr oh) q5
    refine g_sipush (t := 74) dL_changes_71 c_sipush_m1002 rfl ?_
    refine g_icmp_ne (t1 := 115) (t2 := 77) dL_changes_74 (by decide) rfl (fun h74 => ?_) (fun h74 => ?_)
    · exact absurd p5 h74
    · refine g_aload_n (i := 0) (r := 0) (t := 78) dL_changes_77 rfl rfl (Or.inl l9_0) rfl ?_
      refine g_iload_n (i := 2) (t := 79) dL_changes_78 rfl rfl rfl ?_
      refine g_iload (i := 4) (t := 81) dL_changes_79 rfl rfl ?_
      refine g_iload (i := 4) (t := 83) dL_changes_81 rfl rfl ?_
      refine g_cSp (t := 86) mL_least k_L_41 smL_least dL_changes_83 (l_least (by omega)) rfl rfl (by decide) (by decide) (Nat.le_of_ble_eq_true rfl) rfl (Nat.le_refl _) ?_
      refine g_iconst (t := 87) dL_changes_86 c_iconst_1 rfl ?_
      refine g_isub (t := 88) dL_changes_87 rfl ?_
      refine g_cVi (o := 0) (t := 91) mX6_change k_L_69 imX6_change seX6_change l6_0 l9_0 s_0 rfl dL_changes_88 (x6_change q6) rfl rfl (by decide) (by decide) (Nat.le_of_ble_eq_true rfl) rfl (Nat.le_refl _) (fun v88 J88 q88 => ?_)
      obtain ⟨q7, S3, q8, q9⟩ := q88
      obtain ⟨p6, rfl⟩ := oCh_no hit1 hn1 hw (Or.inl ol) q8
      refine g_sipush (t := 94) dL_changes_91 c_sipush_m1002 rfl ?_
      refine g_icmp_ne (t1 := 115) (t2 := 97) dL_changes_94 (by decide) rfl (fun h94 => ?_) (fun h94 => ?_)
      · exact absurd p6 h94
      · refine g_aload_n (i := 0) (r := 0) (t := 98) dL_changes_97 rfl rfl (Or.inl l9_0) rfl ?_
        refine g_iload_n (i := 2) (t := 99) dL_changes_98 rfl rfl rfl ?_
        refine g_bipush (t := 101) dL_changes_99 c_bipush_10 rfl ?_
        refine g_iconst (t := 102) dL_changes_101 c_iconst_0 rfl ?_
        refine g_cVi (o := 0) (t := 105) mX6_change k_L_69 imX6_change seX6_change l6_0 l9_0 s_0 rfl dL_changes_102 (x6_change q9) rfl rfl (by decide) (by decide) (Nat.le_of_ble_eq_true rfl) rfl (Nat.le_refl _) (fun v102 J102 q102 => ?_)
        obtain ⟨q10, S4, q11, q12⟩ := q102
        obtain ⟨p7, rfl⟩ := oCh_10 q11
        refine g_sipush (t := 108) dL_changes_105 c_sipush_m1002 rfl ?_
        refine g_icmp_ne (t1 := 115) (t2 := 111) dL_changes_108 (by decide) rfl (fun h108 => ?_) (fun h108 => ?_)
        · exact absurd p7 h108
        · refine g_iconst (t := 112) dL_changes_111 c_iconst_1 rfl ?_
          refine g_goto (t := 116) dL_changes_112 (by decide) ?_
          exact g_retI dL_changes_116 rfl (by decide +kernel) (⟨rfl, _, q12, hA1.keep ((q4.trans q7).trans q10) rfl rfl rfl, hV1⟩)
theorem l_hides {it : Nat} (hX : rX I S) (hA : aX I S) (hV : vT S) (hit : it < S.1.1) : gQI E fL_hides [.ref 0, .ref 41, .int (nI it)] I h (fun v I' => v = nI 1 ∧ lawP I') := by
  refine gEv.of rfl (Nat.le_refl _) (Nat.le_of_ble_eq_true rfl) (L := [.ref 0, .ref 41, .int (nI it)]) rfl ?_
  obtain ⟨a1, a2, a3, a4⟩ := id hA
  refine g_aload_n (i := 1) (r := 41) (t := 1) dL_hides_0 rfl rfl (Or.inl l9_41) rfl ?_
  refine g_bipush (t := 3) dL_hides_1 c_bipush_12 rfl ?_
  refine g_iload_n (i := 2) (t := 4) dL_hides_3 rfl rfl rfl ?_
  refine g_imul (t := 5) dL_hides_4 rfl ?_
  refine g_bipush (t := 7) dL_hides_5 c_bipush_10 rfl ?_
  refine g_iadd (t := 8) dL_hides_7 rfl ?_
  refine g_iconst (t := 9) dL_hides_8 c_iconst_1 rfl ?_
  refine g_aload_n (i := 1) (r := 41) (t := 10) dL_hides_9 rfl rfl (Or.inl l9_41) rfl ?_
  refine g_bipush (t := 12) dL_hides_10 c_bipush_12 rfl ?_
  refine g_iload_n (i := 2) (t := 13) dL_hides_12 rfl rfl rfl ?_
  refine g_imul (t := 14) dL_hides_13 rfl ?_
  refine g_bipush (t := 16) dL_hides_14 c_bipush_10 rfl ?_
  refine g_iadd (t := 17) dL_hides_16 rfl ?_
  refine gm_iald_x (a := 41) (n := 64) (t := 18) l6_41 l9_41 s_41 dL_hides_17 (ix_ma _ _ _) (by omega) (by decide) rfl ?_
  refine g_isub (t := 19) dL_hides_18 rfl ?_
  refine gm_iast_x (a := 41) (n := 64) (t := 20) l6_41 l9_41 s_41 dL_hides_19 (ix_ma _ _ _) (by omega) (by decide) rfl ?_
  refine g_aload_n (i := 0) (r := 0) (t := 21) dL_hides_20 rfl rfl (Or.inl l9_0) rfl ?_
  refine g_iload_n (i := 2) (t := 22) dL_hides_21 rfl rfl rfl ?_
  refine g_cVi (o := 0) (t := 25) mX6_hide k_L_73 imX6_hide seX6_hide l6_0 l9_0 s_0 rfl dL_hides_22 (x6_hide hX.up41) rfl rfl (by decide) (by decide) (Nat.le_of_ble_eq_true rfl) rfl (Nat.le_refl _) (fun v22 J22 q22 => ?_)
  obtain ⟨q1, S1, q2, q3⟩ := q22
  have key : v22 = nI 1 - S.1.2.1 it 10 ∧ S1.1.1 = S.1.1 ∧ S1.1.2.2 = S.1.2.2 ∧ ∀ i w, i < 16 → w < 11 → S1.1.2.1 i w = if i = it ∧ w = 10 then nI 1 - S.1.2.1 it 10 else S.1.2.1 i w := by
    rcases q2 with ⟨b, -, -⟩ | ⟨i2, ib, b1, b2, b3, b4, -, b5⟩
    · exact absurd b (bd_nI (by omega) hit)
    · have e1 : it = i2 := (nI_eq (by omega) (by omega)).mp b1
      subst e1
      exact ⟨b2, b3, b4, b5⟩
  obtain ⟨p1, p2, p3, p4⟩ := key
  have hA1 : aX J22 S1 := by
    unfold aX
    rw [q1.at 41 rfl, q1.at 42 rfl, p2, p3]
    refine ⟨a1, by rw [gup_k _ _ _ (by omega)]; exact a2, fun i k hi hk => ?_, a4⟩
    rw [p4 i k (by omega) hk, gup_at]
    by_cases y : i = it ∧ k = 10
    · rw [if_pos y, if_pos (by rw [y.1, y.2]), a3 it 10 hit (by decide)]
    · rw [if_neg y, if_neg (by omega), a3 i k hi hk]
  refine g_aload_n (i := 1) (r := 41) (t := 26) dL_hides_25 rfl rfl (Or.inl l9_41) rfl ?_
  refine g_bipush (t := 28) dL_hides_26 c_bipush_12 rfl ?_
  refine g_iload_n (i := 2) (t := 29) dL_hides_28 rfl rfl rfl ?_
  refine g_imul (t := 30) dL_hides_29 rfl ?_
  refine g_bipush (t := 32) dL_hides_30 c_bipush_10 rfl ?_
  refine g_iadd (t := 33) dL_hides_32 rfl ?_
  refine gm_iald_x (a := 41) (n := 64) (t := 34) l6_41 l9_41 s_41 dL_hides_33 (ix_ma _ _ _) (by omega) (by decide) rfl ?_
  rw [q1.at 41 rfl, gup_self, a3 it 10 hit (by decide), p1]
  refine g_icmp_ne (t1 := 41) (t2 := 37) dL_hides_34 (by decide) rfl (fun h34 => ?_) (fun h34 => ?_)
  · exact absurd rfl h34
  · refine g_iconst (t := 38) dL_hides_37 c_iconst_1 rfl ?_
    refine g_goto (t := 42) dL_hides_38 (by decide) ?_
    exact g_retI dL_hides_42 rfl (by decide +kernel) (⟨rfl, _, q3, hA1, v_hide hV q2⟩)
theorem hbt_k : ∀ w, w < 7 → (w = 0 → nI 999 = hbt w) ∧ (w = 1 ∨ w = 2 → nI 40 = hbt w) ∧ (w = 4 → nI 5 = hbt w) ∧ (w = 5 → nI 3 = hbt w) ∧ (¬ (w = 0 ∨ w = 1 ∨ w = 2 ∨ w = 4 ∨ w = 5) → nI 1 = hbt w) := by decide +kernel
theorem hbt_n : ∀ w, w < 7 → (w ≠ 0 → 0 < (hbt w + nI 1).toNatClampNeg ∧ (hbt w + nI 1).toNatClampNeg < 1000 ∧ hbt w + nI 1 = nI (hbt w + nI 1).toNatClampNeg ∧ ((hbt w + nI 1).toNatClampNeg : Int) = hib w + 1 ∧ lob w = 0) ∧ hbt w < hbt w + nI 1 ∧ (w = 0 → nI 19 < lbt w) ∧ (w ≠ 0 → -1 < lbt w) ∧ ¬ hbt w + nI 1 = 0 := by decide +kernel
theorem oSe_no {S S' : sT} {k : Nat} {z v : Int32} (hk : k < 7) (hz : z < lbt k ∨ hbt k < z) (h : oSet S (nI k) z v S') : v = -1002 ∧ S' = S := by
  rcases h with ⟨-, h1, h2⟩ | ⟨k2, h3, h4, h5, h6, -⟩
  · exact ⟨h1, h2⟩
  · have : k = k2 := (nI_eq (by omega) (by omega)).mp h4
    subst this
    exact absurd hz (fun z => z.elim h5 h6)
theorem oSe_7 {S S' : sT} {z v : Int32} (h : oSet S (nI 7) z v S') : v = -1002 ∧ S' = S := by
  rcases h with ⟨-, h1, h2⟩ | ⟨k2, h3, h4, -⟩
  · exact ⟨h1, h2⟩
  · have : 7 = k2 := (nI_eq (by omega) (by omega)).mp h4
    omega
theorem oSe_y {S S' : sT} {k : Nat} {z v : Int32} (hk : k < 7) (h1 : ¬ z < lbt k) (h2 : ¬ hbt k < z) (h : oSet S (nI k) z v S') : v = S.1.2.2 k ∧ S'.1.1 = S.1.1 ∧ S'.1.2.1 = S.1.2.1 ∧ ∀ w, w < 7 → S'.1.2.2 w = if w = k then z else S.1.2.2 w := by
  rcases h with ⟨b | ⟨k2, kb, b, c⟩, -, -⟩ | ⟨k2, kb, b2, -, -, b3, b4, b5, -, b6⟩
  · exact absurd b (bd_nI (by omega) hk)
  · have : k = k2 := (nI_eq (by omega) (by omega)).mp b
    subst this
    exact absurd c (fun z => z.elim h1 h2)
  · have e2 : k = k2 := (nI_eq (by omega) (by omega)).mp b2
    subst e2
    exact ⟨b3, b4, b5, b6⟩
theorem l_sets {x : Int32} (hX : rX I S) (hA : aX I S) (hV : vT S) : gQI E fL_sets [.ref 0, .ref 42, .int x] I h (fun v I' => v = nI 1 ∧ lawP I') := by
  refine gEv.of rfl (Nat.le_refl _) (Nat.le_of_ble_eq_true rfl) (L := [.ref 0, .ref 42, .int x, .null, .null, .null]) rfl ?_
  obtain ⟨a1, a2, a3, a4⟩ := id hA
  obtain ⟨w, hw, ew⟩ := lowI_lt x (n := 7) (by decide) (by decide)
  have hz : nI w = 0 ↔ w = 0 := (show ∀ k, k < 7 → (nI k = 0 ↔ k = 0) by decide +kernel) w hw
  obtain ⟨m0, m1, m2, m3, m4⟩ := hbt_k w hw
  obtain ⟨n0, n1, n2, n3, n4⟩ := hbt_n w hw
  obtain ⟨lb, hb⟩ := lb_b w hw
  have T106 : ∀ z : Int32, bnd z (lob w) (hib w) → Wp E fL_sets (gn h) 106 [.ref 0, .ref 42, .int x, .int (nI w), .int (hbt w), .int (S.1.2.2 w)] [.int z, .int (nI w), .ref 42] (gM I h) (gRet fL_sets (gn h) (fun r σ' => ∃ (v : Int32) (I' : Nat → Nat → Int32), r = some (.int v) ∧ σ' = gM I' h ∧ v = nI 1 ∧ lawP I')) := by
    intro z hbz
    have b1 : ¬ z < lbt w := by rw [t_lt]; unfold bnd at hbz; omega
    have b2 : ¬ hbt w < z := by rw [t_lt]; unfold bnd at hbz; omega
    have T147 : ∀ (J : Nat → Nat → Int32) (S1 : sT) (z : Int32), rX J S1 → aX J S1 → vT S1 → z < lbt w → Wp E fL_sets (gn h) 147 [.ref 0, .ref 42, .int x, .int (nI w), .int (hbt w), .int (S.1.2.2 w)] [.int z, .int (nI w), .ref 0] (gM J h) (gRet fL_sets (gn h) (fun r σ' => ∃ (v : Int32) (I' : Nat → Nat → Int32), r = some (.int v) ∧ σ' = gM I' h ∧ v = nI 1 ∧ lawP I')) := by
      intro J S1 z hXJ hAJ hVJ hlt
      refine g_cVi (o := 0) (t := 150) mX6_set k_L_76 imX6_set seX6_set l6_0 l9_0 s_0 rfl dL_sets_147 (x6_set hXJ) rfl rfl (by decide) (by decide) (Nat.le_of_ble_eq_true rfl) rfl (Nat.le_refl _) (fun v147 J147 q147 => ?_)
      obtain ⟨q7, S3, q8, q9⟩ := q147
      obtain ⟨p6, rfl⟩ := oSe_no hw (Or.inl hlt) q8
      refine g_sipush (t := 153) dL_sets_150 c_sipush_m1002 rfl ?_
      refine g_icmp_ne (t1 := 173) (t2 := 156) dL_sets_153 (by decide) rfl (fun h153 => ?_) (fun h153 => ?_)
      · exact absurd p6 h153
      · refine g_aload_n (i := 0) (r := 0) (t := 157) dL_sets_156 rfl rfl (Or.inl l9_0) rfl ?_
        refine g_bipush (t := 159) dL_sets_157 c_bipush_7 rfl ?_
        refine g_iconst (t := 160) dL_sets_159 c_iconst_0 rfl ?_
        refine g_cVi (o := 0) (t := 163) mX6_set k_L_76 imX6_set seX6_set l6_0 l9_0 s_0 rfl dL_sets_160 (x6_set q9) rfl rfl (by decide) (by decide) (Nat.le_of_ble_eq_true rfl) rfl (Nat.le_refl _) (fun v160 J160 q160 => ?_)
        obtain ⟨q10, S4, q11, q12⟩ := q160
        obtain ⟨p7, rfl⟩ := oSe_7 q11
        refine g_sipush (t := 166) dL_sets_163 c_sipush_m1002 rfl ?_
        refine g_icmp_ne (t1 := 173) (t2 := 169) dL_sets_166 (by decide) rfl (fun h166 => ?_) (fun h166 => ?_)
        · exact absurd p7 h166
        · refine g_iconst (t := 170) dL_sets_169 c_iconst_1 rfl ?_
          refine g_goto (t := 174) dL_sets_170 (by decide) ?_
          exact g_retI dL_sets_174 rfl (by decide +kernel) (⟨rfl, _, q12, hAJ.keep (q7.trans q10) rfl rfl rfl, hVJ⟩)
    refine gm_iast_x (a := 42) (n := 8) (t := 107) l6_42 l9_42 s_42 dL_sets_106 rfl (by omega) (by decide) rfl ?_
    refine g_aload_n (i := 0) (r := 0) (t := 108) dL_sets_107 rfl rfl (Or.inl l9_0) rfl ?_
    refine g_iload_n (i := 3) (t := 109) dL_sets_108 rfl rfl rfl ?_
    refine g_aload_n (i := 1) (r := 42) (t := 110) dL_sets_109 rfl rfl (Or.inl l9_42) rfl ?_
    refine g_iload_n (i := 3) (t := 111) dL_sets_110 rfl rfl rfl ?_
    refine gm_iald_x (a := 42) (n := 8) (t := 112) l6_42 l9_42 s_42 dL_sets_111 rfl (by omega) (by decide) rfl ?_
    rw [gup_self]
    refine g_cVi (o := 0) (t := 115) mX6_set k_L_76 imX6_set seX6_set l6_0 l9_0 s_0 rfl dL_sets_112 (x6_set hX.up42) rfl rfl (by decide) (by decide) (Nat.le_of_ble_eq_true rfl) rfl (Nat.le_refl _) (fun v112 J112 q112 => ?_)
    obtain ⟨q1, S1, q2, q3⟩ := q112
    obtain ⟨p1, p2, p3, p4⟩ := oSe_y hw b1 b2 q2
    have hA1 : aX J112 S1 := by
      unfold aX
      rw [q1.at 41 rfl, q1.at 42 rfl, p2, p3]
      refine ⟨a1, a2, a3, fun k hk => ?_⟩
      rw [p4 k hk, gup_at]
      by_cases y : k = w
      · rw [if_pos y, if_pos y]
      · rw [if_neg y, if_neg y, a4 k hk]
    have hV1 := v_set hV q2
    refine g_iload (i := 5) (t := 117) dL_sets_115 rfl rfl ?_
    refine g_icmp_ne (t1 := 173) (t2 := 120) dL_sets_117 (by decide) rfl (fun h117 => ?_) (fun h117 => ?_)
    · exact absurd p1 h117
    · refine g_aload_n (i := 0) (r := 0) (t := 121) dL_sets_120 rfl rfl (Or.inl l9_0) rfl ?_
      refine g_iload_n (i := 3) (t := 122) dL_sets_121 rfl rfl rfl ?_
      refine g_iload (i := 4) (t := 124) dL_sets_122 rfl rfl ?_
      refine g_iconst (t := 125) dL_sets_124 c_iconst_1 rfl ?_
      refine g_iadd (t := 126) dL_sets_125 rfl ?_
      refine g_cVi (o := 0) (t := 129) mX6_set k_L_76 imX6_set seX6_set l6_0 l9_0 s_0 rfl dL_sets_126 (x6_set q3) rfl rfl (by decide) (by decide) (Nat.le_of_ble_eq_true rfl) rfl (Nat.le_refl _) (fun v126 J126 q126 => ?_)
      obtain ⟨q4, S2, q5, q6⟩ := q126
      obtain ⟨p5, rfl⟩ := oSe_no hw (Or.inr n1) q5
      refine g_sipush (t := 132) dL_sets_129 c_sipush_m1002 rfl ?_
      refine g_icmp_ne (t1 := 173) (t2 := 135) dL_sets_132 (by decide) rfl (fun h132 => ?_) (fun h132 => ?_)
      · exact absurd p5 h132
      · refine g_aload_n (i := 0) (r := 0) (t := 136) dL_sets_135 rfl rfl (Or.inl l9_0) rfl ?_
        refine g_iload_n (i := 3) (t := 137) dL_sets_136 rfl rfl rfl ?_
        refine g_iload_n (i := 3) (t := 138) dL_sets_137 rfl rfl rfl ?_
        refine g_if_ne (t1 := 146) (t2 := 141) dL_sets_138 (by decide) rfl (fun h138 => ?_) (fun h138 => ?_)
        · refine g_iconst (t := 147) dL_sets_146 c_iconst_m1 rfl ?_
          exact T147 J126 _ _ q6 (hA1.keep q4 rfl rfl rfl) hV1 (by first | exact n2 (hz.mp h138) | exact n3 (fun z => h138 (hz.mpr z)))
        · refine g_bipush (t := 143) dL_sets_141 c_bipush_19 rfl ?_
          refine g_goto (t := 147) dL_sets_143 (by decide) ?_
          exact T147 J126 _ _ q6 (hA1.keep q4 rfl rfl rfl) hV1 (by first | exact n2 (hz.mp h138) | exact n3 (fun z => h138 (hz.mpr z)))
  have T51 : Wp E fL_sets (gn h) 51 [.ref 0, .ref 42, .int x, .int (nI w), .null, .null] [.int (hbt w)] (gM I h) (gRet fL_sets (gn h) (fun r σ' => ∃ (v : Int32) (I' : Nat → Nat → Int32), r = some (.int v) ∧ σ' = gM I' h ∧ v = nI 1 ∧ lawP I')) := by
    refine g_istore (i := 4) (t := 53) (L1 := [_, _, _, _, _, _]) dL_sets_51 (by decide) rfl rfl rfl ?_
    refine g_aload_n (i := 1) (r := 42) (t := 54) dL_sets_53 rfl rfl (Or.inl l9_42) rfl ?_
    refine g_iload_n (i := 3) (t := 55) dL_sets_54 rfl rfl rfl ?_
    refine gm_iald_x (a := 42) (n := 8) (t := 56) l6_42 l9_42 s_42 dL_sets_55 rfl (by omega) (by decide) rfl ?_
    rw [a4 w hw]
    refine g_istore (i := 5) (t := 58) (L1 := [_, _, _, _, _, _]) dL_sets_56 (by decide) rfl rfl rfl ?_
    refine g_aload_n (i := 1) (r := 42) (t := 59) dL_sets_58 rfl rfl (Or.inl l9_42) rfl ?_
    refine g_iload_n (i := 3) (t := 60) dL_sets_59 rfl rfl rfl ?_
    refine g_iload_n (i := 3) (t := 61) dL_sets_60 rfl rfl rfl ?_
    refine g_if_ne (t1 := 96) (t2 := 64) dL_sets_61 (by decide) rfl (fun h61 => ?_) (fun h61 => ?_)
    · refine g_iload_n (i := 2) (t := 97) dL_sets_96 rfl rfl rfl ?_
      refine g_iconst (t := 98) dL_sets_97 c_iconst_3 rfl ?_
      refine g_ishr (t := 99) dL_sets_98 rfl ?_
      refine g_iload (i := 4) (t := 101) dL_sets_99 rfl rfl ?_
      refine g_iconst (t := 102) dL_sets_101 c_iconst_1 rfl ?_
      refine g_iadd (t := 103) dL_sets_102 rfl ?_
      refine g_cSp (t := 106) mL_low k_L_35 smL_low dL_sets_103 (l_low n4) rfl rfl (by decide) (by decide) (Nat.le_of_ble_eq_true rfl) rfl (Nat.le_refl _) ?_
      first
      | (have e0 := hz.mp h61
         subst e0
         first
         | (obtain ⟨k, hk, e⟩ := lowI_lt (x >>> (nI 3 &&& 31)) (n := 980) (by decide) (by decide)
            refine g_top (y := nI (20 + k)) (by rw [e, nI_add]) (T106 _ (b_nI (by omega) (by show (20 : Int) ≤ _; omega) (by show _ ≤ (999 : Int); omega))))
         | (obtain ⟨k, hk, e⟩ := lowI_lt (x >>> (nI 3 &&& 31)) (n := 300) (by decide) (by decide)
            refine g_top (y := nI (20 + k)) (by rw [e, nI_add]) (T106 _ (b_nI (by omega) (by show (20 : Int) ≤ _; omega) (by show _ ≤ (999 : Int); omega)))))
         | done
      | (have e0 : w ≠ 0 := fun z => h61 (hz.mpr z)
         obtain ⟨r1, r2, r3, r4, r5⟩ := n0 e0
         obtain ⟨k, hk, e⟩ := lowI_lt (x >>> (nI 3 &&& 31)) (n := (hbt w + nI 1).toNatClampNeg) r1 (by omega)
         refine g_top (y := nI k) (by rw [r3]; exact e) (T106 _ (b_nI (by omega) (by omega) (by omega))))
      | done
    · refine g_bipush (t := 66) dL_sets_64 c_bipush_20 rfl ?_
      refine g_iload_n (i := 2) (t := 67) dL_sets_66 rfl rfl rfl ?_
      refine g_iconst (t := 68) dL_sets_67 c_iconst_3 rfl ?_
      refine g_ishr (t := 69) dL_sets_68 rfl ?_
      refine g_iload_n (i := 2) (t := 70) dL_sets_69 rfl rfl rfl ?_
      refine g_bipush (t := 72) dL_sets_70 c_bipush_13 rfl ?_
      refine g_ishr (t := 73) dL_sets_72 rfl ?_
      refine g_iconst (t := 74) dL_sets_73 c_iconst_3 rfl ?_
      refine g_cSp (t := 77) mL_low k_L_35 smL_low dL_sets_74 (l_low (by decide)) rfl rfl (by decide) (by decide) (Nat.le_of_ble_eq_true rfl) rfl (Nat.le_refl _) ?_
      refine g_if_ne (t1 := 86) (t2 := 80) dL_sets_77 (by decide) rfl (fun h77 => ?_) (fun h77 => ?_)
      · refine g_sipush (t := 89) dL_sets_86 c_sipush_300 rfl ?_
        refine g_cSp (t := 92) mL_low k_L_35 smL_low dL_sets_89 (l_low (by decide)) rfl rfl (by decide) (by decide) (Nat.le_of_ble_eq_true rfl) rfl (Nat.le_refl _) ?_
        refine g_iadd (t := 93) dL_sets_92 rfl ?_
        refine g_goto (t := 106) dL_sets_93 (by decide) ?_
        first
        | (have e0 := hz.mp h61
           subst e0
           first
           | (obtain ⟨k, hk, e⟩ := lowI_lt (x >>> (nI 3 &&& 31)) (n := 980) (by decide) (by decide)
              refine g_top (y := nI (20 + k)) (by rw [e, nI_add]) (T106 _ (b_nI (by omega) (by show (20 : Int) ≤ _; omega) (by show _ ≤ (999 : Int); omega))))
           | (obtain ⟨k, hk, e⟩ := lowI_lt (x >>> (nI 3 &&& 31)) (n := 300) (by decide) (by decide)
              refine g_top (y := nI (20 + k)) (by rw [e, nI_add]) (T106 _ (b_nI (by omega) (by show (20 : Int) ≤ _; omega) (by show _ ≤ (999 : Int); omega)))))
           | done
        | (have e0 : w ≠ 0 := fun z => h61 (hz.mpr z)
           obtain ⟨r1, r2, r3, r4, r5⟩ := n0 e0
           obtain ⟨k, hk, e⟩ := lowI_lt (x >>> (nI 3 &&& 31)) (n := (hbt w + nI 1).toNatClampNeg) r1 (by omega)
           refine g_top (y := nI k) (by rw [r3]; exact e) (T106 _ (b_nI (by omega) (by omega) (by omega))))
        | done
      · refine g_sipush (t := 83) dL_sets_80 c_sipush_980 rfl ?_
        refine g_goto (t := 89) dL_sets_83 (by decide) ?_
        refine g_cSp (t := 92) mL_low k_L_35 smL_low dL_sets_89 (l_low (by decide)) rfl rfl (by decide) (by decide) (Nat.le_of_ble_eq_true rfl) rfl (Nat.le_refl _) ?_
        refine g_iadd (t := 93) dL_sets_92 rfl ?_
        refine g_goto (t := 106) dL_sets_93 (by decide) ?_
        first
        | (have e0 := hz.mp h61
           subst e0
           first
           | (obtain ⟨k, hk, e⟩ := lowI_lt (x >>> (nI 3 &&& 31)) (n := 980) (by decide) (by decide)
              refine g_top (y := nI (20 + k)) (by rw [e, nI_add]) (T106 _ (b_nI (by omega) (by show (20 : Int) ≤ _; omega) (by show _ ≤ (999 : Int); omega))))
           | (obtain ⟨k, hk, e⟩ := lowI_lt (x >>> (nI 3 &&& 31)) (n := 300) (by decide) (by decide)
              refine g_top (y := nI (20 + k)) (by rw [e, nI_add]) (T106 _ (b_nI (by omega) (by show (20 : Int) ≤ _; omega) (by show _ ≤ (999 : Int); omega)))))
           | done
        | (have e0 : w ≠ 0 := fun z => h61 (hz.mpr z)
           obtain ⟨r1, r2, r3, r4, r5⟩ := n0 e0
           obtain ⟨k, hk, e⟩ := lowI_lt (x >>> (nI 3 &&& 31)) (n := (hbt w + nI 1).toNatClampNeg) r1 (by omega)
           refine g_top (y := nI k) (by rw [r3]; exact e) (T106 _ (b_nI (by omega) (by omega) (by omega))))
        | done
  refine g_iload_n (i := 2) (t := 1) dL_sets_0 rfl rfl rfl ?_
  refine g_bipush (t := 3) dL_sets_1 c_bipush_7 rfl ?_
  refine g_cSp (t := 6) mL_low k_L_35 smL_low dL_sets_3 (l_low (by decide)) rfl rfl (by decide) (by decide) (Nat.le_of_ble_eq_true rfl) rfl (Nat.le_refl _) ?_
  refine g_top ew ?_
  refine g_istore_n (i := 3) (t := 7) (L1 := [_, _, _, _, _, _]) dL_sets_6 rfl (by decide) rfl rfl rfl ?_
  refine g_iload_n (i := 3) (t := 8) dL_sets_7 rfl rfl rfl ?_
  refine g_if_ne (t1 := 17) (t2 := 11) dL_sets_8 (by decide) rfl (fun h8 => ?_) (fun h8 => ?_)
  · refine g_iload_n (i := 3) (t := 18) dL_sets_17 rfl rfl rfl ?_
    refine g_iconst (t := 19) dL_sets_18 c_iconst_1 rfl ?_
    refine g_icmp_eq_n (t1 := 27) (t2 := 22) dL_sets_19 (by decide) rfl (by omega) (by omega) (fun h19 => ?_) (fun h19 => ?_)
    · refine g_bipush (t := 29) dL_sets_27 c_bipush_40 rfl ?_
      refine g_goto (t := 51) dL_sets_29 (by decide) ?_
      first
      | exact g_top (m0 (hz.mp h8)) T51
      | (have e0 : w ≠ 0 := fun z => h8 (hz.mpr z)
         first
         | exact g_top (m1 (Or.inl h19)) T51
         | exact g_top (m1 (Or.inr h24)) T51
         | exact g_top (m2 h34) T51
         | exact g_top (m3 h43) T51
         | exact g_top (m4 (by omega)) T51)
         | done
      | done
    · refine g_iload_n (i := 3) (t := 23) dL_sets_22 rfl rfl rfl ?_
      refine g_iconst (t := 24) dL_sets_23 c_iconst_2 rfl ?_
      refine g_icmp_ne_n (t1 := 32) (t2 := 27) dL_sets_24 (by decide) rfl (by omega) (by omega) (fun h24 => ?_) (fun h24 => ?_)
      · refine g_iload_n (i := 3) (t := 33) dL_sets_32 rfl rfl rfl ?_
        refine g_iconst (t := 34) dL_sets_33 c_iconst_4 rfl ?_
        refine g_icmp_ne_n (t1 := 41) (t2 := 37) dL_sets_34 (by decide) rfl (by omega) (by omega) (fun h34 => ?_) (fun h34 => ?_)
        · refine g_iload_n (i := 3) (t := 42) dL_sets_41 rfl rfl rfl ?_
          refine g_iconst (t := 43) dL_sets_42 c_iconst_5 rfl ?_
          refine g_icmp_ne_n (t1 := 50) (t2 := 46) dL_sets_43 (by decide) rfl (by omega) (by omega) (fun h43 => ?_) (fun h43 => ?_)
          · refine g_iconst (t := 51) dL_sets_50 c_iconst_1 rfl ?_
            first
            | exact g_top (m0 (hz.mp h8)) T51
            | (have e0 : w ≠ 0 := fun z => h8 (hz.mpr z)
               first
               | exact g_top (m1 (Or.inl h19)) T51
               | exact g_top (m1 (Or.inr h24)) T51
               | exact g_top (m2 h34) T51
               | exact g_top (m3 h43) T51
               | exact g_top (m4 (by omega)) T51)
               | done
            | done
          · refine g_iconst (t := 47) dL_sets_46 c_iconst_3 rfl ?_
            refine g_goto (t := 51) dL_sets_47 (by decide) ?_
            first
            | exact g_top (m0 (hz.mp h8)) T51
            | (have e0 : w ≠ 0 := fun z => h8 (hz.mpr z)
               first
               | exact g_top (m1 (Or.inl h19)) T51
               | exact g_top (m1 (Or.inr h24)) T51
               | exact g_top (m2 h34) T51
               | exact g_top (m3 h43) T51
               | exact g_top (m4 (by omega)) T51)
               | done
            | done
        · refine g_iconst (t := 38) dL_sets_37 c_iconst_5 rfl ?_
          refine g_goto (t := 51) dL_sets_38 (by decide) ?_
          first
          | exact g_top (m0 (hz.mp h8)) T51
          | (have e0 : w ≠ 0 := fun z => h8 (hz.mpr z)
             first
             | exact g_top (m1 (Or.inl h19)) T51
             | exact g_top (m1 (Or.inr h24)) T51
             | exact g_top (m2 h34) T51
             | exact g_top (m3 h43) T51
             | exact g_top (m4 (by omega)) T51)
             | done
          | done
      · refine g_bipush (t := 29) dL_sets_27 c_bipush_40 rfl ?_
        refine g_goto (t := 51) dL_sets_29 (by decide) ?_
        first
        | exact g_top (m0 (hz.mp h8)) T51
        | (have e0 : w ≠ 0 := fun z => h8 (hz.mpr z)
           first
           | exact g_top (m1 (Or.inl h19)) T51
           | exact g_top (m1 (Or.inr h24)) T51
           | exact g_top (m2 h34) T51
           | exact g_top (m3 h43) T51
           | exact g_top (m4 (by omega)) T51)
           | done
        | done
  · refine g_sipush (t := 14) dL_sets_11 c_sipush_999 rfl ?_
    refine g_goto (t := 51) dL_sets_14 (by decide) ?_
    first
    | exact g_top (m0 (hz.mp h8)) T51
    | (have e0 : w ≠ 0 := fun z => h8 (hz.mpr z)
       first
       | exact g_top (m1 (Or.inl h19)) T51
       | exact g_top (m1 (Or.inr h24)) T51
       | exact g_top (m2 h34) T51
       | exact g_top (m3 h43) T51
       | exact g_top (m4 (by omega)) T51)
       | done
    | done
end CHG

