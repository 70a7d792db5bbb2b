/-! FlexRows: what is told of the lines -/
section X6E
variable {E : gE} {I : Nat → Nat → Int32} {h : gX} {S : sT}
theorem x6_lies {x y : Int32} (hX : rX I S) : gQI E fX6_lies [.ref 0, .int x, .int y] I h (fun v I' => gSame CL I I' ∧ rX I' S ∧ vLies S x y v) := by
  refine gEv.of rfl (Nat.le_refl _) (Nat.le_of_ble_eq_true rfl) (L := [.ref 0, .int x, .int y]) rfl ?_
  have ⟨hn, h4, hP, hB, hH, hT, hl⟩ := hX
  by_cases hx : bdI S.1.1 x
  · refine g_aload_n (i := 0) (r := 0) (t := 1) dX6_lies_0 rfl rfl (Or.inl l9_0) rfl ?_
    refine gm_getR (o := 0) (ci := 6) (k := 1) (r := 4) (t := 4) l6_0 l9_0 s_0 gf_X6_19 rfl r_0_1 l9_4 dX6_lies_1 rfl ?_
    refine g_iload_n (i := 1) (t := 5) dX6_lies_4 rfl rfl rfl ?_
    refine g_cVp (o := 4) (t := 8) mX4_has k_X6_93 imX4_has seX4_has l6_4 l9_4 s_4 rfl dX6_lies_5 (x4_has_f h4 hx) rfl rfl (by decide) (by decide) (Nat.le_of_ble_eq_true rfl) rfl (Nat.le_refl _) ?_
    refine g_if_eq (t1 := 21) (t2 := 11) dX6_lies_8 (by decide) rfl (fun h8 => ?_) (fun h8 => ?_)
    · refine g_sipush (t := 24) dX6_lies_21 c_sipush_m1002 rfl ?_
      exact g_retI dX6_lies_24 rfl rfl (⟨gSame.rf, hX, Or.inl ⟨Or.inl hx, rfl⟩⟩)
    · exact absurd rfl h8
  · obtain ⟨it, hit, rfl⟩ := bd_no (by omega) hx
    refine g_aload_n (i := 0) (r := 0) (t := 1) dX6_lies_0 rfl rfl (Or.inl l9_0) rfl ?_
    refine gm_getR (o := 0) (ci := 6) (k := 1) (r := 4) (t := 4) l6_0 l9_0 s_0 gf_X6_19 rfl r_0_1 l9_4 dX6_lies_1 rfl ?_
    refine g_iload_n (i := 1) (t := 5) dX6_lies_4 rfl rfl rfl ?_
    refine g_cVp (o := 4) (t := 8) mX4_has k_X6_93 imX4_has seX4_has l6_4 l9_4 s_4 rfl dX6_lies_5 (x4_has_t h4 hit (by omega)) rfl rfl (by decide) (by decide) (Nat.le_of_ble_eq_true rfl) rfl (Nat.le_refl _) ?_
    refine g_if_eq (t1 := 21) (t2 := 11) dX6_lies_8 (by decide) rfl (fun h8 => ?_) (fun h8 => ?_)
    · exact absurd h8 (by decide)
    · refine g_iload_n (i := 2) (t := 12) dX6_lies_11 rfl rfl rfl ?_
      refine g_if_lt (t1 := 21) (t2 := 15) dX6_lies_12 (by decide) rfl (fun h12 => ?_) (fun h12 => ?_)
      · refine g_sipush (t := 24) dX6_lies_21 c_sipush_m1002 rfl ?_
        exact g_retI dX6_lies_24 rfl rfl (⟨gSame.rf, hX, Or.inl ⟨Or.inr (by first | exact bd_0 h12 | exact bd_gt (k := 7) (by decide) h18), rfl⟩⟩)
      · refine g_iload_n (i := 2) (t := 16) dX6_lies_15 rfl rfl rfl ?_
        refine g_bipush (t := 18) dX6_lies_16 c_bipush_7 rfl ?_
        refine g_icmp_le (t1 := 25) (t2 := 21) dX6_lies_18 (by decide) rfl (fun h18 => ?_) (fun h18 => ?_)
        · obtain ⟨k, hk, rfl⟩ := bd_no (by decide) (bd_le (k := 7) (by decide) h12 h18)
          refine g_aload_n (i := 0) (r := 0) (t := 26) dX6_lies_25 rfl rfl (Or.inl l9_0) rfl ?_
          refine gm_getR (o := 0) (ci := 6) (k := 1) (r := 4) (t := 29) l6_0 l9_0 s_0 gf_X6_19 rfl r_0_1 l9_4 dX6_lies_26 rfl ?_
          refine g_iload_n (i := 1) (t := 30) dX6_lies_29 rfl rfl rfl ?_
          refine g_bipush (t := 32) dX6_lies_30 c_bipush_10 rfl ?_
          refine g_cVp (o := 4) (t := 35) mX4_property k_X6_109 imX4_property seX4_property l6_4 l9_4 s_4 rfl dX6_lies_32 (x4_property (by omega) (by omega)) rfl rfl (by decide) (by decide) (Nat.le_of_ble_eq_true rfl) rfl (Nat.le_refl _) ?_
          rw [show I 6 (11 * it + 10) = S.1.2.1 it 10 by rw [← hP]]
          refine g_if_eq (t1 := 42) (t2 := 38) dX6_lies_35 (by decide) rfl (fun h35 => ?_) (fun h35 => ?_)
          · obtain ⟨p, hp, hpi⟩ : ∃ p, p < sC S.1 ∧ (sQ S.1).2.2.2 p = it := ordS_all S.1.2.1 S.1.1 it hit h35
            refine g_aload_n (i := 0) (r := 0) (t := 43) dX6_lies_42 rfl rfl (Or.inl l9_0) rfl ?_
            refine g_cVv (o := 0) (t := 46) mX6_layOut k_X6_96 imX6_layOut seX6_layOut l6_0 l9_0 s_0 rfl dX6_lies_43 (x6_layOut hX) rfl rfl (by decide) (by decide) (Nat.le_of_ble_eq_true rfl) rfl (Nat.le_refl _) (fun J q => ?_)
            refine g_aload_n (i := 0) (r := 0) (t := 47) dX6_lies_46 rfl rfl (Or.inl l9_0) rfl ?_
            refine g_aload_n (i := 0) (r := 0) (t := 48) dX6_lies_47 rfl rfl (Or.inl l9_0) rfl ?_
            refine gm_getR (o := 0) (ci := 6) (k := 3) (r := 11) (t := 51) l6_0 l9_0 s_0 gf_X6_35 rfl r_0_3 l9_11 dX6_lies_48 rfl ?_
            refine g_iload_n (i := 1) (t := 52) dX6_lies_51 rfl rfl rfl ?_
            refine g_cVp (o := 11) (t := 55) mX2_placeOf k_X6_99 imX2_placeOf seX2_placeOf l6_11 l9_11 s_11 rfl dX6_lies_52 (x2_placeOf q.2.2.1 (by omega)) rfl rfl (by decide) (by decide) (Nat.le_of_ble_eq_true rfl) rfl (Nat.le_refl _) ?_
            rw [← hpi, plc_of hp]
            refine g_iload_n (i := 2) (t := 56) dX6_lies_55 rfl rfl rfl ?_
            refine g_cVp (o := 0) (t := 59) mX6_lieAt k_X6_138 imX6_lieAt seX6_lieAt l6_0 l9_0 s_0 rfl dX6_lies_56 (x6_lieAt q.2.1 q.2.2 hp hk) rfl rfl (by decide) (by decide) (Nat.le_of_ble_eq_true rfl) rfl (Nat.le_refl _) ?_
            rw [← hpi] at h35
            exact g_retI dX6_lies_59 rfl rfl (⟨q.1.wk rfl, q.2.1, Or.inr ⟨_, k, hpi ▸ hit, by rw [hpi], hk, rfl, Or.inr ⟨h35, p, hp, rfl, rfl⟩⟩⟩)
          · refine g_sipush (t := 41) dX6_lies_38 c_sipush_m1003 rfl ?_
            exact g_retI dX6_lies_41 rfl rfl (⟨gSame.rf, hX, Or.inr ⟨it, k, hit, rfl, hk, rfl, Or.inl ⟨h35, rfl⟩⟩⟩)
        · refine g_sipush (t := 24) dX6_lies_21 c_sipush_m1002 rfl ?_
          exact g_retI dX6_lies_24 rfl rfl (⟨gSame.rf, hX, Or.inl ⟨Or.inr (by first | exact bd_0 h12 | exact bd_gt (k := 7) (by decide) h18), rfl⟩⟩)
theorem x6_ordered {x : Int32} (hX : rX I S) : gQI E fX6_ordered [.ref 0, .int x] I h (fun v I' => gSame CL I I' ∧ rX I' S ∧ vOrdered S x v) := by
  refine gEv.of rfl (Nat.le_refl _) (Nat.le_of_ble_eq_true rfl) (L := [.ref 0, .int x]) rfl ?_
  have ⟨hn, h4, hP, hB, hH, hT, hl⟩ := hX
  have hc := sC_le hn
  refine g_iload_n (i := 1) (t := 1) dX6_ordered_0 rfl rfl rfl ?_
  refine g_if_ge (t1 := 8) (t2 := 4) dX6_ordered_1 (by decide) rfl (fun h1 => ?_) (fun h1 => ?_)
  · refine g_aload_n (i := 0) (r := 0) (t := 9) dX6_ordered_8 rfl rfl (Or.inl l9_0) rfl ?_
    refine g_cVv (o := 0) (t := 12) mX6_layOut k_X6_96 imX6_layOut seX6_layOut l6_0 l9_0 s_0 rfl dX6_ordered_9 (x6_layOut hX) rfl rfl (by decide) (by decide) (Nat.le_of_ble_eq_true rfl) rfl (Nat.le_refl _) (fun J q => ?_)
    refine g_iload_n (i := 1) (t := 13) dX6_ordered_12 rfl rfl rfl ?_
    refine g_aload_n (i := 0) (r := 0) (t := 14) dX6_ordered_13 rfl rfl (Or.inl l9_0) rfl ?_
    refine gm_getR (o := 0) (ci := 6) (k := 3) (r := 11) (t := 17) l6_0 l9_0 s_0 gf_X6_35 rfl r_0_3 l9_11 dX6_ordered_14 rfl ?_
    refine gm_getI (o := 11) (ci := 2) (k := 0) (t := 20) l6_11 l9_11 s_11 gf_X6_141 rfl dX6_ordered_17 rfl ?_
    rw [q.2.2.1.2.1]
    refine g_icmp_ge (t1 := 34) (t2 := 23) dX6_ordered_20 (by decide) rfl (fun h20 => ?_) (fun h20 => ?_)
    · refine g_sipush (t := 37) dX6_ordered_34 c_sipush_m1001 rfl ?_
      exact g_retI dX6_ordered_37 rfl rfl (by
    first
    | exact ⟨q.1.wk rfl, q.2.1, Or.inr (Or.inr ⟨p, hp, rfl, rfl⟩)⟩
    | exact ⟨q.1.wk rfl, q.2.1, Or.inr (Or.inl ⟨Int32.not_lt.mpr h1, Or.inr h20, rfl⟩)⟩)
    · obtain ⟨p, hp, rfl⟩ := bd_no (n := sC S.1) (by omega) (bd_lt (Int32.not_lt.mpr h1) (Int32.not_le.mp h20))
      refine g_aload_n (i := 0) (r := 0) (t := 24) dX6_ordered_23 rfl rfl (Or.inl l9_0) rfl ?_
      refine gm_getR (o := 0) (ci := 6) (k := 3) (r := 11) (t := 27) l6_0 l9_0 s_0 gf_X6_35 rfl r_0_3 l9_11 dX6_ordered_24 rfl ?_
      refine g_iload_n (i := 1) (t := 28) dX6_ordered_27 rfl rfl rfl ?_
      refine g_cVp (o := 11) (t := 31) mX2_itemAt k_X6_144 imX2_itemAt seX2_itemAt l6_11 l9_11 s_11 rfl dX6_ordered_28 (x2_itemAt q.2.2.1 hp) rfl rfl (by decide) (by decide) (Nat.le_of_ble_eq_true rfl) rfl (Nat.le_refl _) ?_
      refine g_goto (t := 37) dX6_ordered_31 (by decide) ?_
      exact g_retI dX6_ordered_37 rfl rfl (by
    first
    | exact ⟨q.1.wk rfl, q.2.1, Or.inr (Or.inr ⟨p, hp, rfl, rfl⟩)⟩
    | exact ⟨q.1.wk rfl, q.2.1, Or.inr (Or.inl ⟨Int32.not_lt.mpr h1, Or.inr h20, rfl⟩)⟩)
  · refine g_sipush (t := 7) dX6_ordered_4 c_sipush_m1002 rfl ?_
    exact g_retI dX6_ordered_7 rfl rfl (⟨gSame.rf, hX, Or.inl ⟨Int32.not_le.mp h1, rfl⟩⟩)
theorem x6_line {x y : Int32} (hX : rX I S) : gQI E fX6_line [.ref 0, .int x, .int y] I h (fun v I' => gSame CL I I' ∧ rX I' S ∧ vLine S x y v) := by
  refine gEv.of rfl (Nat.le_refl _) (Nat.le_of_ble_eq_true rfl) (L := [.ref 0, .int x, .int y]) rfl ?_
  have ⟨hn, h4, hP, hB, hH, hT, hl⟩ := hX
  have hc := sC_le hn
  have hnl := nln_le (sQ S.1) (sC S.1)
  refine g_iload_n (i := 1) (t := 1) dX6_line_0 rfl rfl rfl ?_
  refine g_if_lt (t1 := 14) (t2 := 4) dX6_line_1 (by decide) rfl (fun h1 => ?_) (fun h1 => ?_)
  · refine g_sipush (t := 17) dX6_line_14 c_sipush_m1002 rfl ?_
    exact g_retI dX6_line_17 rfl rfl (⟨gSame.rf, hX, Or.inl ⟨by first | exact Or.inl h1 | exact Or.inr (bd_0 h5) | exact Or.inr (bd_gt (k := 7) (by decide) h11), rfl⟩⟩)
  · refine g_iload_n (i := 2) (t := 5) dX6_line_4 rfl rfl rfl ?_
    refine g_if_lt (t1 := 14) (t2 := 8) dX6_line_5 (by decide) rfl (fun h5 => ?_) (fun h5 => ?_)
    · refine g_sipush (t := 17) dX6_line_14 c_sipush_m1002 rfl ?_
      exact g_retI dX6_line_17 rfl rfl (⟨gSame.rf, hX, Or.inl ⟨by first | exact Or.inl h1 | exact Or.inr (bd_0 h5) | exact Or.inr (bd_gt (k := 7) (by decide) h11), rfl⟩⟩)
    · refine g_iload_n (i := 2) (t := 9) dX6_line_8 rfl rfl rfl ?_
      refine g_bipush (t := 11) dX6_line_9 c_bipush_7 rfl ?_
      refine g_icmp_le (t1 := 18) (t2 := 14) dX6_line_11 (by decide) rfl (fun h11 => ?_) (fun h11 => ?_)
      · have hy := bd_le (k := 7) (by decide) h5 h11
        refine g_aload_n (i := 0) (r := 0) (t := 19) dX6_line_18 rfl rfl (Or.inl l9_0) rfl ?_
        refine g_cVv (o := 0) (t := 22) mX6_layOut k_X6_96 imX6_layOut seX6_layOut l6_0 l9_0 s_0 rfl dX6_line_19 (x6_layOut hX) rfl rfl (by decide) (by decide) (Nat.le_of_ble_eq_true rfl) rfl (Nat.le_refl _) (fun J q => ?_)
        refine g_iload_n (i := 1) (t := 23) dX6_line_22 rfl rfl rfl ?_
        refine g_aload_n (i := 0) (r := 0) (t := 24) dX6_line_23 rfl rfl (Or.inl l9_0) rfl ?_
        refine gm_getR (o := 0) (ci := 6) (k := 4) (r := 18) (t := 27) l6_0 l9_0 s_0 gf_X6_44 rfl r_0_4 l9_18 dX6_line_24 rfl ?_
        refine gm_getI (o := 18) (ci := 1) (k := 0) (t := 30) l6_18 l9_18 s_18 gf_X6_147 rfl dX6_line_27 rfl ?_
        rw [q.2.2.2.1.1]
        refine g_icmp_ge (t1 := 42) (t2 := 33) dX6_line_30 (by decide) rfl (fun h30 => ?_) (fun h30 => ?_)
        · refine g_sipush (t := 45) dX6_line_42 c_sipush_m1001 rfl ?_
          exact g_retI dX6_line_45 rfl rfl (by
    first
    | exact ⟨q.1.wk rfl, q.2.1, Or.inr (Or.inr ⟨l, k, hl, rfl, hk, rfl, rfl⟩)⟩
    | exact ⟨q.1.wk rfl, q.2.1, Or.inr (Or.inl ⟨h1, hy, Or.inr h30, rfl⟩)⟩)
        · obtain ⟨l, hl, rfl⟩ := bd_no (n := nln (sQ S.1) (sC S.1)) (by omega) (bd_lt h1 (Int32.not_le.mp h30))
          obtain ⟨k, hk, rfl⟩ := bd_no (by decide) hy
          refine g_aload_n (i := 0) (r := 0) (t := 34) dX6_line_33 rfl rfl (Or.inl l9_0) rfl ?_
          refine g_iload_n (i := 1) (t := 35) dX6_line_34 rfl rfl rfl ?_
          refine g_iload_n (i := 2) (t := 36) dX6_line_35 rfl rfl rfl ?_
          refine g_cVp (o := 0) (t := 39) mX6_lineTells k_X6_149 imX6_lineTells seX6_lineTells l6_0 l9_0 s_0 rfl dX6_line_36 (x6_lineTells q.2.1 q.2.2 hl hk) rfl rfl (by decide) (by decide) (Nat.le_of_ble_eq_true rfl) rfl (Nat.le_refl _) ?_
          refine g_goto (t := 45) dX6_line_39 (by decide) ?_
          exact g_retI dX6_line_45 rfl rfl (by
    first
    | exact ⟨q.1.wk rfl, q.2.1, Or.inr (Or.inr ⟨l, k, hl, rfl, hk, rfl, rfl⟩)⟩
    | exact ⟨q.1.wk rfl, q.2.1, Or.inr (Or.inl ⟨h1, hy, Or.inr h30, rfl⟩)⟩)
      · refine g_sipush (t := 17) dX6_line_14 c_sipush_m1002 rfl ?_
        exact g_retI dX6_line_17 rfl rfl (⟨gSame.rf, hX, Or.inl ⟨by first | exact Or.inl h1 | exact Or.inr (bd_0 h5) | exact Or.inr (bd_gt (k := 7) (by decide) h11), rfl⟩⟩)
theorem x6_count {x : Int32} (hX : rX I S) : gQI E fX6_count [.ref 0, .int x] I h (fun v I' => gSame CL I I' ∧ rX I' S ∧ vCount S x v) := by
  refine gEv.of rfl (Nat.le_refl _) (Nat.le_of_ble_eq_true rfl) (L := [.ref 0, .int x]) rfl ?_
  refine g_iload_n (i := 1) (t := 1) dX6_count_0 rfl rfl rfl ?_
  refine g_if_lt (t1 := 10) (t2 := 4) dX6_count_1 (by decide) rfl (fun h1 => ?_) (fun h1 => ?_)
  · refine g_sipush (t := 13) dX6_count_10 c_sipush_m1002 rfl ?_
    exact g_retI dX6_count_13 rfl rfl (⟨gSame.rf, hX, Or.inl ⟨by first | exact bd_0 h1 | exact bd_gt (k := 13) (by decide) h7, rfl⟩⟩)
  · refine g_iload_n (i := 1) (t := 5) dX6_count_4 rfl rfl rfl ?_
    refine g_bipush (t := 7) dX6_count_5 c_bipush_13 rfl ?_
    refine g_icmp_le (t1 := 14) (t2 := 10) dX6_count_7 (by decide) rfl (fun h7 => ?_) (fun h7 => ?_)
    · obtain ⟨k, hk, rfl⟩ := bd_no (by decide) (bd_le (k := 13) (by decide) h1 h7)
      refine g_aload_n (i := 0) (r := 0) (t := 15) dX6_count_14 rfl rfl (Or.inl l9_0) rfl ?_
      refine g_cVv (o := 0) (t := 18) mX6_layOut k_X6_96 imX6_layOut seX6_layOut l6_0 l9_0 s_0 rfl dX6_count_15 (x6_layOut hX) rfl rfl (by decide) (by decide) (Nat.le_of_ble_eq_true rfl) rfl (Nat.le_refl _) (fun J q => ?_)
      refine g_aload_n (i := 0) (r := 0) (t := 19) dX6_count_18 rfl rfl (Or.inl l9_0) rfl ?_
      refine g_iload_n (i := 1) (t := 20) dX6_count_19 rfl rfl rfl ?_
      refine g_cVp (o := 0) (t := 23) mX6_counted k_X6_167 imX6_counted seX6_counted l6_0 l9_0 s_0 rfl dX6_count_20 (x6_counted q.2.1 q.2.2 hk) rfl rfl (by decide) (by decide) (Nat.le_of_ble_eq_true rfl) rfl (Nat.le_refl _) ?_
      exact g_retI dX6_count_23 rfl rfl (⟨q.1.wk rfl, q.2.1, Or.inr ⟨k, hk, rfl, rfl⟩⟩)
    · refine g_sipush (t := 13) dX6_count_10 c_sipush_m1002 rfl ?_
      exact g_retI dX6_count_13 rfl rfl (⟨gSame.rf, hX, Or.inl ⟨by first | exact bd_0 h1 | exact bd_gt (k := 13) (by decide) h7, rfl⟩⟩)
end X6E

