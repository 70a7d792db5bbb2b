/-! FlexRowsModel: what is told, two -/
theorem vS.b0 {s : sS} (h : vS s) : bnd (s.2.2 0) 20 999 := h.2.2 0 (by decide)
theorem vS.p10 {s : sS} (h : vS s) {i : Nat} (hi : i < s.1) : s.2.1 i 10 = 0 ∨ s.2.1 i 10 = nI 1 := by
  obtain ⟨a, ha, he⟩ := of_b5 (h.2.1 i 10 hi (by decide)) (by decide)
  have ha : (a : Int) ≤ 1 := ha
  rcases (show a = 0 ∨ a = 1 by omega) with q | q
  · exact Or.inl (by rw [he, q]; rfl)
  · exact Or.inr (by rw [he, q])
section X7R
variable {E : gE} {I : Nat → Nat → Int32} {h : Int64} {S : sT} {s : sS}
theorem x7_lies {x y v : Int32} (hR : rM I S) (hV : vT S) (ho : vLies S x y v) : gQI E fX7_lies [.ref 41, .int x, .int y] I h (fun v' I' => gSame ML I I' ∧ v' = v ∧ rM I' S) := by
  refine gEv.of rfl (Nat.le_refl _) (Nat.le_of_ble_eq_true rfl) (L := [.ref 41, .int x, .int y]) rfl ?_
  have ⟨hn, hC, hH, hT⟩ := hR
  rcases ho with ⟨hb, rfl⟩ | ⟨it, k, hit, rfl, hk, rfl, ho⟩
  · by_cases hx : bdI S.1.1 x
    · refine g_aload_n (i := 0) (r := 41) (t := 1) dX7_lies_0 rfl rfl (Or.inl l9_41) rfl ?_
      refine g_iload_n (i := 1) (t := 2) dX7_lies_1 rfl rfl rfl ?_
      refine g_cVp (o := 41) (t := 5) mX7_isItem k_X7_153 imX7_isItem seX7_isItem l6_41 l9_41 s_41 rfl dX7_lies_2 (x7_isItem_f hC hn hx) rfl rfl (by decide) (by decide) (Nat.le_of_ble_eq_true rfl) rfl ?_
      refine g_if_eq (t1 := 18) (t2 := 8) dX7_lies_5 (by decide) rfl (fun h5 => ?_) (fun h5 => ?_)
      · refine g_sipush (t := 21) dX7_lies_18 c_sipush_m1002 rfl ?_
        exact g_retI dX7_lies_21 rfl rfl (⟨gSame.rf, rfl, hR⟩)
      · exact absurd rfl h5
    · obtain ⟨it, hit, rfl⟩ := bd_no (by omega) hx
      have hy : bdI 8 y := hb.elim (fun u => absurd u hx) id
      refine g_aload_n (i := 0) (r := 41) (t := 1) dX7_lies_0 rfl rfl (Or.inl l9_41) rfl ?_
      refine g_iload_n (i := 1) (t := 2) dX7_lies_1 rfl rfl rfl ?_
      refine g_cVp (o := 41) (t := 5) mX7_isItem k_X7_153 imX7_isItem seX7_isItem l6_41 l9_41 s_41 rfl dX7_lies_2 (x7_isItem_t hC hn hit) rfl rfl (by decide) (by decide) (Nat.le_of_ble_eq_true rfl) rfl ?_
      refine g_if_eq (t1 := 18) (t2 := 8) dX7_lies_5 (by decide) rfl (fun h5 => ?_) (fun h5 => ?_)
      · exact absurd h5 (by decide)
      · refine g_iload_n (i := 2) (t := 9) dX7_lies_8 rfl rfl rfl ?_
        refine g_iconst (t := 10) dX7_lies_9 c_iconst_0 rfl ?_
        refine g_bipush (t := 12) dX7_lies_10 c_bipush_7 rfl ?_
        refine g_cSp (t := 15) mX7_in k_X7_75 smX7_in dX7_lies_12 (x7_in) rfl rfl (by decide) (by decide) (Nat.le_of_ble_eq_true rfl) rfl ?_
        rw [in_f (K := 7) (by decide) hy]
        refine g_if_ne (t1 := 22) (t2 := 18) dX7_lies_15 (by decide) rfl (fun h15 => ?_) (fun h15 => ?_)
        · exact absurd rfl h15
        · refine g_sipush (t := 21) dX7_lies_18 c_sipush_m1002 rfl ?_
          exact g_retI dX7_lies_21 rfl rfl (⟨gSame.rf, rfl, hR⟩)
  · have e10 : I 42 (11 * it + 10) = S.1.2.1 it 10 := hC.2.1 it 10 hit (by decide)
    rcases ho with ⟨h10, rfl⟩ | ⟨h10, p, hp, hpi, rfl⟩
    · have e1 := (hV.1.p10 hit).resolve_left h10
      refine g_aload_n (i := 0) (r := 41) (t := 1) dX7_lies_0 rfl rfl (Or.inl l9_41) rfl ?_
      refine g_iload_n (i := 1) (t := 2) dX7_lies_1 rfl rfl rfl ?_
      refine g_cVp (o := 41) (t := 5) mX7_isItem k_X7_153 imX7_isItem seX7_isItem l6_41 l9_41 s_41 rfl dX7_lies_2 (x7_isItem_t hC hn hit) rfl rfl (by decide) (by decide) (Nat.le_of_ble_eq_true rfl) rfl ?_
      refine g_if_eq (t1 := 18) (t2 := 8) dX7_lies_5 (by decide) rfl (fun h5 => ?_) (fun h5 => ?_)
      · exact absurd h5 (by decide)
      · refine g_iload_n (i := 2) (t := 9) dX7_lies_8 rfl rfl rfl ?_
        refine g_iconst (t := 10) dX7_lies_9 c_iconst_0 rfl ?_
        refine g_bipush (t := 12) dX7_lies_10 c_bipush_7 rfl ?_
        refine g_cSp (t := 15) mX7_in k_X7_75 smX7_in dX7_lies_12 (x7_in) rfl rfl (by decide) (by decide) (Nat.le_of_ble_eq_true rfl) rfl ?_
        rw [in_t (K := 7) (by decide) (bd_nI (by decide) hk)]
        refine g_if_ne (t1 := 22) (t2 := 18) dX7_lies_15 (by decide) rfl (fun h15 => ?_) (fun h15 => ?_)
        · refine g_aload_n (i := 0) (r := 41) (t := 23) dX7_lies_22 rfl rfl (Or.inl l9_41) rfl ?_
          refine g_iload_n (i := 1) (t := 24) dX7_lies_23 rfl rfl rfl ?_
          refine g_bipush (t := 26) dX7_lies_24 c_bipush_10 rfl ?_
          refine g_cVp (o := 41) (t := 29) mX7_of k_X7_157 imX7_of seX7_of l6_41 l9_41 s_41 rfl dX7_lies_26 (x7_of (by omega) (by omega)) rfl rfl (by decide) (by decide) (Nat.le_of_ble_eq_true rfl) rfl ?_
          rw [e10, e1]
          refine g_iconst (t := 30) dX7_lies_29 c_iconst_1 rfl ?_
          refine g_icmp_ne (t1 := 37) (t2 := 33) dX7_lies_30 (by decide) rfl (fun h30 => ?_) (fun h30 => ?_)
          · exact absurd rfl h30
          · refine g_sipush (t := 36) dX7_lies_33 c_sipush_m1003 rfl ?_
            exact g_retI dX7_lies_36 rfl rfl (⟨gSame.rf, rfl, hR⟩)
        · exact absurd h15 (by decide)
    · have hc := sC_le hn
      have e177 : I 42 177 = S.1.2.2 0 := hC.2.2 0 (by decide)
      refine g_aload_n (i := 0) (r := 41) (t := 1) dX7_lies_0 rfl rfl (Or.inl l9_41) rfl ?_
      refine g_iload_n (i := 1) (t := 2) dX7_lies_1 rfl rfl rfl ?_
      refine g_cVp (o := 41) (t := 5) mX7_isItem k_X7_153 imX7_isItem seX7_isItem l6_41 l9_41 s_41 rfl dX7_lies_2 (x7_isItem_t hC hn hit) rfl rfl (by decide) (by decide) (Nat.le_of_ble_eq_true rfl) rfl ?_
      refine g_if_eq (t1 := 18) (t2 := 8) dX7_lies_5 (by decide) rfl (fun h5 => ?_) (fun h5 => ?_)
      · exact absurd h5 (by decide)
      · refine g_iload_n (i := 2) (t := 9) dX7_lies_8 rfl rfl rfl ?_
        refine g_iconst (t := 10) dX7_lies_9 c_iconst_0 rfl ?_
        refine g_bipush (t := 12) dX7_lies_10 c_bipush_7 rfl ?_
        refine g_cSp (t := 15) mX7_in k_X7_75 smX7_in dX7_lies_12 (x7_in) rfl rfl (by decide) (by decide) (Nat.le_of_ble_eq_true rfl) rfl ?_
        rw [in_t (K := 7) (by decide) (bd_nI (by decide) hk)]
        refine g_if_ne (t1 := 22) (t2 := 18) dX7_lies_15 (by decide) rfl (fun h15 => ?_) (fun h15 => ?_)
        · refine g_aload_n (i := 0) (r := 41) (t := 23) dX7_lies_22 rfl rfl (Or.inl l9_41) rfl ?_
          refine g_iload_n (i := 1) (t := 24) dX7_lies_23 rfl rfl rfl ?_
          refine g_bipush (t := 26) dX7_lies_24 c_bipush_10 rfl ?_
          refine g_cVp (o := 41) (t := 29) mX7_of k_X7_157 imX7_of seX7_of l6_41 l9_41 s_41 rfl dX7_lies_26 (x7_of (by omega) (by omega)) rfl rfl (by decide) (by decide) (Nat.le_of_ble_eq_true rfl) rfl ?_
          rw [e10, h10]
          refine g_iconst (t := 30) dX7_lies_29 c_iconst_1 rfl ?_
          refine g_icmp_ne (t1 := 37) (t2 := 33) dX7_lies_30 (by decide) rfl (fun h30 => ?_) (fun h30 => ?_)
          · refine g_aload_n (i := 0) (r := 41) (t := 38) dX7_lies_37 rfl rfl (Or.inl l9_41) rfl ?_
            refine g_aload_n (i := 0) (r := 41) (t := 39) dX7_lies_38 rfl rfl (Or.inl l9_41) rfl ?_
            refine gm_getR (o := 41) (ci := 7) (k := 0) (r := 42) (t := 42) l6_41 l9_41 s_41 gf_X7_7 rfl r_41_0 l9_42 dX7_lies_39 rfl ?_
            refine g_sipush (t := 45) dX7_lies_42 c_sipush_177 rfl ?_
            refine gm_iald_n (a := 42) (n := 184) (t := 46) l6_42 l9_42 s_42 dX7_lies_45 (by omega) (by decide) rfl ?_
            rw [e177]
            refine g_cVv (o := 41) (t := 49) mX7_draws k_X7_161 imX7_draws seX7_draws l6_41 l9_41 s_41 rfl dX7_lies_46 (x7_draws hV.1 hV.1.b0 hC) rfl rfl (by decide) (by decide) (Nat.le_of_ble_eq_true rfl) rfl (fun J q => ?_)
            refine g_aload_n (i := 0) (r := 41) (t := 50) dX7_lies_49 rfl rfl (Or.inl l9_41) rfl ?_
            refine g_aload_n (i := 0) (r := 41) (t := 51) dX7_lies_50 rfl rfl (Or.inl l9_41) rfl ?_
            refine g_iload_n (i := 1) (t := 52) dX7_lies_51 rfl rfl rfl ?_
            refine g_cVp (o := 41) (t := 55) mX7_placeOf k_X7_164 imX7_placeOf seX7_placeOf l6_41 l9_41 s_41 rfl dX7_lies_52 (x7_placeOf q.2.2.1 hc (fun a b => by have := sQ_le hn b; omega) (by omega)) rfl rfl (by decide) (by decide) (Nat.le_of_ble_eq_true rfl) rfl ?_
            rw [← hpi, plc_of hp]
            refine g_iload_n (i := 2) (t := 56) dX7_lies_55 rfl rfl rfl ?_
            refine g_cVp (o := 41) (t := 59) mX7_liesAt k_X7_228 imX7_liesAt seX7_liesAt l6_41 l9_41 s_41 rfl dX7_lies_56 (x7_liesAt (hC.keep (q.1.at 42 rfl)) hn q.2.2 hp hk) rfl rfl (by decide) (by decide) (Nat.le_of_ble_eq_true rfl) rfl ?_
            exact g_retI dX7_lies_59 rfl rfl (⟨q.1.wk rfl, rfl, hR.drawn q.1 q.2.1⟩)
          · exact absurd h30 (by decide)
        · exact absurd h15 (by decide)
theorem x7_ordered {x v : Int32} (hR : rM I S) (ho : vOrdered S x v) : gQI E fX7_ordered [.ref 41, .int x] I h (fun v' I' => gSame ML I I' ∧ v' = v ∧ rM I' S) := by
  refine gEv.of rfl (Nat.le_refl _) (Nat.le_of_ble_eq_true rfl) (L := [.ref 41, .int x]) rfl ?_
  have ⟨hn, hC, hH, hT⟩ := hR
  have hc := sC_le hn
  rcases ho with ⟨hb, rfl⟩ | ⟨hb, hb2, rfl⟩ | ⟨p, hp, rfl, rfl⟩
  · refine g_iload_n (i := 1) (t := 1) dX7_ordered_0 rfl rfl rfl ?_
    refine g_if_ge (t1 := 8) (t2 := 4) dX7_ordered_1 (by decide) rfl (fun h1 => ?_) (fun h1 => ?_)
    · exact absurd hb (Int32.not_lt.mpr h1)
    · refine g_sipush (t := 7) dX7_ordered_4 c_sipush_m1002 rfl ?_
      exact g_retI dX7_ordered_7 rfl rfl (⟨gSame.rf, rfl, hR⟩)
  · have hb3 := hb2.resolve_left hb
    refine g_iload_n (i := 1) (t := 1) dX7_ordered_0 rfl rfl rfl ?_
    refine g_if_ge (t1 := 8) (t2 := 4) dX7_ordered_1 (by decide) rfl (fun h1 => ?_) (fun h1 => ?_)
    · refine g_aload_n (i := 0) (r := 41) (t := 9) dX7_ordered_8 rfl rfl (Or.inl l9_41) rfl ?_
      refine g_cVv (o := 41) (t := 12) mX7_orders k_X7_213 imX7_orders seX7_orders l6_41 l9_41 s_41 rfl dX7_ordered_9 (x7_orders hC hn) rfl rfl (by decide) (by decide) (Nat.le_of_ble_eq_true rfl) rfl (fun J q => ?_)
      refine g_iload_n (i := 1) (t := 13) dX7_ordered_12 rfl rfl rfl ?_
      refine g_aload_n (i := 0) (r := 41) (t := 14) dX7_ordered_13 rfl rfl (Or.inl l9_41) rfl ?_
      refine gm_getI (o := 41) (ci := 7) (k := 9) (t := 17) l6_41 l9_41 s_41 gf_X7_176 rfl dX7_ordered_14 rfl ?_
      rw [q.2.2.1]
      refine g_icmp_ge (t1 := 29) (t2 := 20) dX7_ordered_17 (by decide) rfl (fun h17 => ?_) (fun h17 => ?_)
      · refine g_sipush (t := 32) dX7_ordered_29 c_sipush_m1001 rfl ?_
        exact g_retI dX7_ordered_32 rfl rfl (⟨q.1.wk rfl, rfl, hn, hC.keep (q.1.at 42 rfl), hH.keep (q.2.1 2 (by decide)) (q.1.at 43 rfl), hT.keep (q.2.1 4 (by decide)) (q.1.at 44 rfl)⟩)
      · exact absurd hb3 h17
    · exact absurd (Int32.not_lt.mp hb) h1
  · refine g_iload_n (i := 1) (t := 1) dX7_ordered_0 rfl rfl rfl ?_
    refine g_if_ge (t1 := 8) (t2 := 4) dX7_ordered_1 (by decide) rfl (fun h1 => ?_) (fun h1 => ?_)
    · refine g_aload_n (i := 0) (r := 41) (t := 9) dX7_ordered_8 rfl rfl (Or.inl l9_41) rfl ?_
      refine g_cVv (o := 41) (t := 12) mX7_orders k_X7_213 imX7_orders seX7_orders l6_41 l9_41 s_41 rfl dX7_ordered_9 (x7_orders hC hn) rfl rfl (by decide) (by decide) (Nat.le_of_ble_eq_true rfl) rfl (fun J q => ?_)
      refine g_iload_n (i := 1) (t := 13) dX7_ordered_12 rfl rfl rfl ?_
      refine g_aload_n (i := 0) (r := 41) (t := 14) dX7_ordered_13 rfl rfl (Or.inl l9_41) rfl ?_
      refine gm_getI (o := 41) (ci := 7) (k := 9) (t := 17) l6_41 l9_41 s_41 gf_X7_176 rfl dX7_ordered_14 rfl ?_
      rw [q.2.2.1]
      refine g_icmp_ge_n (t1 := 29) (t2 := 20) dX7_ordered_17 (by decide) rfl (by omega) (by omega) (fun h17 => ?_) (fun h17 => ?_)
      · exfalso; omega
      · refine g_aload_n (i := 0) (r := 41) (t := 21) dX7_ordered_20 rfl rfl (Or.inl l9_41) rfl ?_
        refine gm_getR (o := 41) (ci := 7) (k := 8) (r := 46) (t := 24) l6_41 l9_41 s_41 gf_X7_22 rfl r_41_8 l9_46 dX7_ordered_21 rfl ?_
        refine g_iload_n (i := 1) (t := 25) dX7_ordered_24 rfl rfl rfl ?_
        refine gm_iald_n (a := 46) (n := 16) (t := 26) l6_46 l9_46 s_46 dX7_ordered_25 (by omega) (by decide) rfl ?_
        rw [q.2.2.2 p hp]
        refine g_goto (t := 32) dX7_ordered_26 (by decide) ?_
        exact g_retI dX7_ordered_32 rfl rfl (⟨q.1.wk rfl, rfl, hn, hC.keep (q.1.at 42 rfl), hH.keep (q.2.1 2 (by decide)) (q.1.at 43 rfl), hT.keep (q.2.1 4 (by decide)) (q.1.at 44 rfl)⟩)
    · exact absurd (by first | decide | exact nI_pos' (by omega) | exact nI_ne0 (by omega) (by omega)) h1
theorem x7_line {x y v : Int32} (hR : rM I S) (hV : vT S) (ho : vLine S x y v) : gQI E fX7_line [.ref 41, .int x, .int y] I h (fun v' I' => gSame ML I I' ∧ v' = v ∧ rM I' S) := by
  refine gEv.of rfl (Nat.le_refl _) (Nat.le_of_ble_eq_true rfl) (L := [.ref 41, .int x, .int y]) rfl ?_
  have ⟨hn, hC, hH, hT⟩ := hR
  have hc := sC_le hn
  have hnl := nln_le (sQ S.1) (sC S.1)
  have e177 : I 42 177 = S.1.2.2 0 := hC.2.2 0 (by decide)
  rcases ho with ⟨hb, rfl⟩ | ⟨hb, hb2, hb3, rfl⟩ | ⟨l, k, hl, rfl, hk, rfl, rfl⟩
  · by_cases hx : x < 0
    · refine g_iload_n (i := 1) (t := 1) dX7_line_0 rfl rfl rfl ?_
      refine g_if_lt (t1 := 14) (t2 := 4) dX7_line_1 (by decide) rfl (fun h1 => ?_) (fun h1 => ?_)
      · refine g_sipush (t := 17) dX7_line_14 c_sipush_m1002 rfl ?_
        exact g_retI dX7_line_17 rfl rfl (⟨gSame.rf, rfl, hR⟩)
      · exact absurd hx h1
    · have hy := hb.resolve_left hx
      refine g_iload_n (i := 1) (t := 1) dX7_line_0 rfl rfl rfl ?_
      refine g_if_lt (t1 := 14) (t2 := 4) dX7_line_1 (by decide) rfl (fun h1 => ?_) (fun h1 => ?_)
      · exact absurd h1 hx
      · refine g_iload_n (i := 2) (t := 5) dX7_line_4 rfl rfl rfl ?_
        refine g_iconst (t := 6) dX7_line_5 c_iconst_0 rfl ?_
        refine g_bipush (t := 8) dX7_line_6 c_bipush_7 rfl ?_
        refine g_cSp (t := 11) mX7_in k_X7_75 smX7_in dX7_line_8 (x7_in) rfl rfl (by decide) (by decide) (Nat.le_of_ble_eq_true rfl) rfl ?_
        rw [in_f (K := 7) (by decide) hy]
        refine g_if_ne (t1 := 18) (t2 := 14) dX7_line_11 (by decide) rfl (fun h11 => ?_) (fun h11 => ?_)
        · exact absurd rfl h11
        · refine g_sipush (t := 17) dX7_line_14 c_sipush_m1002 rfl ?_
          exact g_retI dX7_line_17 rfl rfl (⟨gSame.rf, rfl, hR⟩)
  · have hb4 := hb3.resolve_left hb
    refine g_iload_n (i := 1) (t := 1) dX7_line_0 rfl rfl rfl ?_
    refine g_if_lt (t1 := 14) (t2 := 4) dX7_line_1 (by decide) rfl (fun h1 => ?_) (fun h1 => ?_)
    · exact absurd h1 hb
    · refine g_iload_n (i := 2) (t := 5) dX7_line_4 rfl rfl rfl ?_
      refine g_iconst (t := 6) dX7_line_5 c_iconst_0 rfl ?_
      refine g_bipush (t := 8) dX7_line_6 c_bipush_7 rfl ?_
      refine g_cSp (t := 11) mX7_in k_X7_75 smX7_in dX7_line_8 (x7_in) rfl rfl (by decide) (by decide) (Nat.le_of_ble_eq_true rfl) rfl ?_
      rw [in_t (K := 7) (by decide) hb2]
      refine g_if_ne (t1 := 18) (t2 := 14) dX7_line_11 (by decide) rfl (fun h11 => ?_) (fun h11 => ?_)
      · refine g_aload_n (i := 0) (r := 41) (t := 19) dX7_line_18 rfl rfl (Or.inl l9_41) rfl ?_
        refine g_aload_n (i := 0) (r := 41) (t := 20) dX7_line_19 rfl rfl (Or.inl l9_41) rfl ?_
        refine gm_getR (o := 41) (ci := 7) (k := 0) (r := 42) (t := 23) l6_41 l9_41 s_41 gf_X7_7 rfl r_41_0 l9_42 dX7_line_20 rfl ?_
        refine g_sipush (t := 26) dX7_line_23 c_sipush_177 rfl ?_
        refine gm_iald_n (a := 42) (n := 184) (t := 27) l6_42 l9_42 s_42 dX7_line_26 (by omega) (by decide) rfl ?_
        rw [e177]
        refine g_cVv (o := 41) (t := 30) mX7_draws k_X7_161 imX7_draws seX7_draws l6_41 l9_41 s_41 rfl dX7_line_27 (x7_draws hV.1 hV.1.b0 hC) rfl rfl (by decide) (by decide) (Nat.le_of_ble_eq_true rfl) rfl (fun J q => ?_)
        refine g_iload_n (i := 1) (t := 31) dX7_line_30 rfl rfl rfl ?_
        refine g_aload_n (i := 0) (r := 41) (t := 32) dX7_line_31 rfl rfl (Or.inl l9_41) rfl ?_
        refine gm_getI (o := 41) (ci := 7) (k := 13) (t := 35) l6_41 l9_41 s_41 gf_X7_182 rfl dX7_line_32 rfl ?_
        rw [show J 41 13 = nI (nln (sQ S.1) (sC S.1)) from q.2.2.2.1.1]
        refine g_icmp_ge (t1 := 47) (t2 := 38) dX7_line_35 (by decide) rfl (fun h35 => ?_) (fun h35 => ?_)
        · refine g_sipush (t := 50) dX7_line_47 c_sipush_m1001 rfl ?_
          exact g_retI dX7_line_50 rfl rfl (⟨q.1.wk rfl, rfl, hR.drawn q.1 q.2.1⟩)
        · exact absurd hb4 h35
      · exact absurd h11 (by decide)
  · refine g_iload_n (i := 1) (t := 1) dX7_line_0 rfl rfl rfl ?_
    refine g_if_lt (t1 := 14) (t2 := 4) dX7_line_1 (by decide) rfl (fun h1 => ?_) (fun h1 => ?_)
    · exact absurd h1 (by first | decide | exact nI_pos (by omega) | exact nI_ne0 (by omega) (by omega))
    · refine g_iload_n (i := 2) (t := 5) dX7_line_4 rfl rfl rfl ?_
      refine g_iconst (t := 6) dX7_line_5 c_iconst_0 rfl ?_
      refine g_bipush (t := 8) dX7_line_6 c_bipush_7 rfl ?_
      refine g_cSp (t := 11) mX7_in k_X7_75 smX7_in dX7_line_8 (x7_in) rfl rfl (by decide) (by decide) (Nat.le_of_ble_eq_true rfl) rfl ?_
      rw [in_t (K := 7) (by decide) (bd_nI (by decide) hk)]
      refine g_if_ne (t1 := 18) (t2 := 14) dX7_line_11 (by decide) rfl (fun h11 => ?_) (fun h11 => ?_)
      · refine g_aload_n (i := 0) (r := 41) (t := 19) dX7_line_18 rfl rfl (Or.inl l9_41) rfl ?_
        refine g_aload_n (i := 0) (r := 41) (t := 20) dX7_line_19 rfl rfl (Or.inl l9_41) rfl ?_
        refine gm_getR (o := 41) (ci := 7) (k := 0) (r := 42) (t := 23) l6_41 l9_41 s_41 gf_X7_7 rfl r_41_0 l9_42 dX7_line_20 rfl ?_
        refine g_sipush (t := 26) dX7_line_23 c_sipush_177 rfl ?_
        refine gm_iald_n (a := 42) (n := 184) (t := 27) l6_42 l9_42 s_42 dX7_line_26 (by omega) (by decide) rfl ?_
        rw [e177]
        refine g_cVv (o := 41) (t := 30) mX7_draws k_X7_161 imX7_draws seX7_draws l6_41 l9_41 s_41 rfl dX7_line_27 (x7_draws hV.1 hV.1.b0 hC) rfl rfl (by decide) (by decide) (Nat.le_of_ble_eq_true rfl) rfl (fun J q => ?_)
        refine g_iload_n (i := 1) (t := 31) dX7_line_30 rfl rfl rfl ?_
        refine g_aload_n (i := 0) (r := 41) (t := 32) dX7_line_31 rfl rfl (Or.inl l9_41) rfl ?_
        refine gm_getI (o := 41) (ci := 7) (k := 13) (t := 35) l6_41 l9_41 s_41 gf_X7_182 rfl dX7_line_32 rfl ?_
        rw [show J 41 13 = nI (nln (sQ S.1) (sC S.1)) from q.2.2.2.1.1]
        refine g_icmp_ge_n (t1 := 47) (t2 := 38) dX7_line_35 (by decide) rfl (by omega) (by omega) (fun h35 => ?_) (fun h35 => ?_)
        · exfalso; omega
        · refine g_aload_n (i := 0) (r := 41) (t := 39) dX7_line_38 rfl rfl (Or.inl l9_41) rfl ?_
          refine g_iload_n (i := 1) (t := 40) dX7_line_39 rfl rfl rfl ?_
          refine g_iload_n (i := 2) (t := 41) dX7_line_40 rfl rfl rfl ?_
          refine g_cVp (o := 41) (t := 44) mX7_linePart k_X7_234 imX7_linePart seX7_linePart l6_41 l9_41 s_41 rfl dX7_line_41 (x7_linePart (hC.keep (q.1.at 42 rfl)) hn q.2.2 hl hk) rfl rfl (by decide) (by decide) (Nat.le_of_ble_eq_true rfl) rfl ?_
          refine g_goto (t := 50) dX7_line_44 (by decide) ?_
          exact g_retI dX7_line_50 rfl rfl (⟨q.1.wk rfl, rfl, hR.drawn q.1 q.2.1⟩)
      · exact absurd h11 (by decide)
theorem x7_hi_loop (hV : vS s) (hC : mC I s) : ∀ (d k : Nat), k + d = s.1 → Wp E fX7_hidden 62 4 [.ref 41, .int (nI (k - (ordS s.2.1 k).1)), .int (nI k)] [] (gM I h) (gRet fX7_hidden 62 (fun r σ' => r = some (.int (nI (s.1 - sC s))) ∧ σ' = gM I h)) := by
  have hn := hV.1
  intro d
  induction d with
  | zero =>
    intro k hk
    have hk : k = s.1 := by omega
    subst hk
    refine g_iload_n (i := 2) (t := 5) dX7_hidden_4 rfl rfl rfl ?_
    refine g_aload_n (i := 0) (r := 41) (t := 6) dX7_hidden_5 rfl rfl (Or.inl l9_41) rfl ?_
    refine gm_getR (o := 41) (ci := 7) (k := 0) (r := 42) (t := 9) l6_41 l9_41 s_41 gf_X7_7 rfl r_41_0 l9_42 dX7_hidden_6 rfl ?_
    refine g_sipush (t := 12) dX7_hidden_9 c_sipush_176 rfl ?_
    refine gm_iald_n (a := 42) (n := 184) (t := 13) l6_42 l9_42 s_42 dX7_hidden_12 (by omega) (by decide) rfl ?_
    rw [hC.1]
    refine g_icmp_ge_n (t1 := 32) (t2 := 16) dX7_hidden_13 (by decide) rfl (by omega) (by omega) (fun h13 => ?_) (fun h13 => ?_)
    · refine g_iload_n (i := 1) (t := 33) dX7_hidden_32 rfl rfl rfl ?_
      exact g_retP dX7_hidden_33 rfl rfl (rfl)
    · exfalso; omega
  | succ d ih =>
    intro k hk
    have hle := ordS_le s.2.1 k
    refine g_iload_n (i := 2) (t := 5) dX7_hidden_4 rfl rfl rfl ?_
    refine g_aload_n (i := 0) (r := 41) (t := 6) dX7_hidden_5 rfl rfl (Or.inl l9_41) rfl ?_
    refine gm_getR (o := 41) (ci := 7) (k := 0) (r := 42) (t := 9) l6_41 l9_41 s_41 gf_X7_7 rfl r_41_0 l9_42 dX7_hidden_6 rfl ?_
    refine g_sipush (t := 12) dX7_hidden_9 c_sipush_176 rfl ?_
    refine gm_iald_n (a := 42) (n := 184) (t := 13) l6_42 l9_42 s_42 dX7_hidden_12 (by omega) (by decide) rfl ?_
    rw [hC.1]
    refine g_icmp_ge_n (t1 := 32) (t2 := 16) dX7_hidden_13 (by decide) rfl (by omega) (by omega) (fun h13 => ?_) (fun h13 => ?_)
    · exfalso; omega
    · refine g_iload_n (i := 1) (t := 17) dX7_hidden_16 rfl rfl rfl ?_
      refine g_aload_n (i := 0) (r := 41) (t := 18) dX7_hidden_17 rfl rfl (Or.inl l9_41) rfl ?_
      refine g_iload_n (i := 2) (t := 19) dX7_hidden_18 rfl rfl rfl ?_
      refine g_bipush (t := 21) dX7_hidden_19 c_bipush_10 rfl ?_
      refine g_cVp (o := 41) (t := 24) mX7_of k_X7_157 imX7_of seX7_of l6_41 l9_41 s_41 rfl dX7_hidden_21 (x7_of (by omega) (by omega)) rfl rfl (by decide) (by decide) (Nat.le_of_ble_eq_true rfl) rfl ?_
      rw [hC.2.1 k 10 (by omega) (by decide)]
      refine g_iadd (t := 25) dX7_hidden_24 rfl ?_
      refine g_top (y := nI (k + 1 - (ordS s.2.1 (k + 1)).1)) (by
          rcases hV.p10 (show k < s.1 by omega) with y | y
          · rw [ordS, if_pos y, y, ← nI_0, add_n0]
            show _ = nI (k + 1 - ((ordS s.2.1 k).1 + 1))
            rw [Nat.add_sub_add_right]
          · rw [ordS, if_neg (by rw [y]; decide), y, nI_add]
            exact congrArg nI (by omega)) ?_
      refine g_istore_n (i := 1) (t := 26) (L1 := [_, _, _]) dX7_hidden_25 rfl (by decide) rfl rfl rfl ?_
      refine g_iinc (i := 2) (t := 29) (L1 := [_, _, _]) dX7_hidden_26 rfl (gi_1 _) (by decide) rfl rfl rfl ?_
      refine g_goto (t := 4) dX7_hidden_29 (by decide) ?_
      exact ih (k + 1) (by omega)
theorem x7_hidden (hV : vS s) (hC : mC I s) : gPI E fX7_hidden [.ref 41] I h (nI (s.1 - sC s)) := by
  refine gEv.of rfl (Nat.le_refl _) (Nat.le_of_ble_eq_true rfl) (L := [.ref 41, .null, .null]) rfl ?_
  refine g_iconst (t := 1) dX7_hidden_0 c_iconst_0 rfl ?_
  refine g_istore_n (i := 1) (t := 2) (L1 := [_, _, _]) dX7_hidden_1 rfl (by decide) rfl rfl rfl ?_
  refine g_iconst (t := 3) dX7_hidden_2 c_iconst_0 rfl ?_
  refine g_istore_n (i := 2) (t := 4) (L1 := [_, _, _]) dX7_hidden_3 rfl (by decide) rfl rfl rfl ?_
  exact x7_hi_loop hV hC s.1 0 (Nat.zero_add _)
theorem x7_fa_loop (hn : s.1 ≤ 16) (hD : dM I s (s.2.2 0)) : ∀ (d k : Nat) (v3 : Value), k + d = sC s → Wp E fX7_farthest 62 6 [.ref 41, .int (geV s k), .int (nI k), v3] [] (gM I h) (gRet fX7_farthest 62 (fun r σ' => r = some (.int (geV s (sC s))) ∧ σ' = gM I h)) := by
  have hc := sC_le hn
  obtain ⟨hO, hL, hD⟩ := hD
  intro d
  induction d with
  | zero =>
    intro k v3 hk
    have hk : k = sC s := by omega
    subst hk
    refine g_iload_n (i := 2) (t := 7) dX7_farthest_6 rfl rfl rfl ?_
    refine g_aload_n (i := 0) (r := 41) (t := 8) dX7_farthest_7 rfl rfl (Or.inl l9_41) rfl ?_
    refine gm_getI (o := 41) (ci := 7) (k := 9) (t := 11) l6_41 l9_41 s_41 gf_X7_176 rfl dX7_farthest_8 rfl ?_
    rw [hO.1]
    refine g_icmp_ge_n (t1 := 49) (t2 := 14) dX7_farthest_11 (by decide) rfl (by omega) (by omega) (fun h11 => ?_) (fun h11 => ?_)
    · refine g_iload_n (i := 1) (t := 50) dX7_farthest_49 rfl rfl rfl ?_
      exact g_retP dX7_farthest_50 rfl rfl (rfl)
    · exfalso; omega
  | succ d ih =>
    intro k v3 hk
    have hlt := lin_lt (sW s (s.2.2 0)) (c := sC s) (p := k) (by omega)
    obtain ⟨d1, d2, d3, d4⟩ := hD.2 k (by omega) hlt
    have een : I 58 k + I 50 k = enV s k := by rw [d1, d3]; rfl
    have T42 : ∀ v w3, v = geV s (k + 1) → Wp E fX7_farthest 62 42 [.ref 41, .int (geV s k), .int (nI k), .int w3] [.int v] (gM I h) (gRet fX7_farthest 62 (fun r σ' => r = some (.int (geV s (sC s))) ∧ σ' = gM I h)) := by
      intro v w3 hv
      rw [hv]
      refine g_istore_n (i := 1) (t := 43) (L1 := [_, _, _, _]) dX7_farthest_42 rfl (by decide) rfl rfl rfl ?_
      refine g_iinc (i := 2) (t := 46) (L1 := [_, _, _, _]) dX7_farthest_43 rfl (gi_1 _) (by decide) rfl rfl rfl ?_
      refine g_goto (t := 6) dX7_farthest_46 (by decide) ?_
      exact ih (k + 1) _ (by omega)
    cases k with
    | zero =>
      refine g_iload_n (i := 2) (t := 7) dX7_farthest_6 rfl rfl rfl ?_
      refine g_aload_n (i := 0) (r := 41) (t := 8) dX7_farthest_7 rfl rfl (Or.inl l9_41) rfl ?_
      refine gm_getI (o := 41) (ci := 7) (k := 9) (t := 11) l6_41 l9_41 s_41 gf_X7_176 rfl dX7_farthest_8 rfl ?_
      rw [hO.1]
      refine g_icmp_ge_n (t1 := 49) (t2 := 14) dX7_farthest_11 (by decide) rfl (by omega) (by omega) (fun h11 => ?_) (fun h11 => ?_)
      · exfalso; omega
      · refine g_aload_n (i := 0) (r := 41) (t := 15) dX7_farthest_14 rfl rfl (Or.inl l9_41) rfl ?_
        refine gm_getR (o := 41) (ci := 7) (k := 22) (r := 58) (t := 18) l6_41 l9_41 s_41 gf_X7_59 rfl r_41_22 l9_58 dX7_farthest_15 rfl ?_
        refine g_iload_n (i := 2) (t := 19) dX7_farthest_18 rfl rfl rfl ?_
        refine gm_iald_n (a := 58) (n := 16) (t := 20) l6_58 l9_58 s_58 dX7_farthest_19 (by omega) (by decide) rfl ?_
        refine g_aload_n (i := 0) (r := 41) (t := 21) dX7_farthest_20 rfl rfl (Or.inl l9_41) rfl ?_
        refine gm_getR (o := 41) (ci := 7) (k := 14) (r := 50) (t := 24) l6_41 l9_41 s_41 gf_X7_34 rfl r_41_14 l9_50 dX7_farthest_21 rfl ?_
        refine g_iload_n (i := 2) (t := 25) dX7_farthest_24 rfl rfl rfl ?_
        refine gm_iald_n (a := 50) (n := 16) (t := 26) l6_50 l9_50 s_50 dX7_farthest_25 (by omega) (by decide) rfl ?_
        refine g_iadd (t := 27) dX7_farthest_26 rfl ?_
        rw [een]
        refine g_istore_n (i := 3) (t := 28) (L1 := [_, _, _, _]) dX7_farthest_27 rfl (by decide) rfl rfl rfl ?_
        refine g_iload_n (i := 2) (t := 29) dX7_farthest_28 rfl rfl rfl ?_
        refine g_if_eq (t1 := 37) (t2 := 32) dX7_farthest_29 (by decide) rfl (fun h29 => ?_) (fun h29 => ?_)
        · refine g_iload_n (i := 3) (t := 38) dX7_farthest_37 rfl rfl rfl ?_
          refine g_goto (t := 42) dX7_farthest_38 (by decide) ?_
          exact T42 _ _ rfl
        · exact absurd rfl h29
    | succ k =>
      have eg : geV s (k + 2) = mx (geV s (k + 1)) (enV s (k + 1)) := rfl
      refine g_iload_n (i := 2) (t := 7) dX7_farthest_6 rfl rfl rfl ?_
      refine g_aload_n (i := 0) (r := 41) (t := 8) dX7_farthest_7 rfl rfl (Or.inl l9_41) rfl ?_
      refine gm_getI (o := 41) (ci := 7) (k := 9) (t := 11) l6_41 l9_41 s_41 gf_X7_176 rfl dX7_farthest_8 rfl ?_
      rw [hO.1]
      refine g_icmp_ge_n (t1 := 49) (t2 := 14) dX7_farthest_11 (by decide) rfl (by omega) (by omega) (fun h11 => ?_) (fun h11 => ?_)
      · exfalso; omega
      · refine g_aload_n (i := 0) (r := 41) (t := 15) dX7_farthest_14 rfl rfl (Or.inl l9_41) rfl ?_
        refine gm_getR (o := 41) (ci := 7) (k := 22) (r := 58) (t := 18) l6_41 l9_41 s_41 gf_X7_59 rfl r_41_22 l9_58 dX7_farthest_15 rfl ?_
        refine g_iload_n (i := 2) (t := 19) dX7_farthest_18 rfl rfl rfl ?_
        refine gm_iald_n (a := 58) (n := 16) (t := 20) l6_58 l9_58 s_58 dX7_farthest_19 (by omega) (by decide) rfl ?_
        refine g_aload_n (i := 0) (r := 41) (t := 21) dX7_farthest_20 rfl rfl (Or.inl l9_41) rfl ?_
        refine gm_getR (o := 41) (ci := 7) (k := 14) (r := 50) (t := 24) l6_41 l9_41 s_41 gf_X7_34 rfl r_41_14 l9_50 dX7_farthest_21 rfl ?_
        refine g_iload_n (i := 2) (t := 25) dX7_farthest_24 rfl rfl rfl ?_
        refine gm_iald_n (a := 50) (n := 16) (t := 26) l6_50 l9_50 s_50 dX7_farthest_25 (by omega) (by decide) rfl ?_
        refine g_iadd (t := 27) dX7_farthest_26 rfl ?_
        rw [een]
        refine g_istore_n (i := 3) (t := 28) (L1 := [_, _, _, _]) dX7_farthest_27 rfl (by decide) rfl rfl rfl ?_
        refine g_iload_n (i := 2) (t := 29) dX7_farthest_28 rfl rfl rfl ?_
        refine g_if_eq (t1 := 37) (t2 := 32) dX7_farthest_29 (by decide) rfl (fun h29 => ?_) (fun h29 => ?_)
        · exact absurd h29 (nI_ne0 (by omega) (by omega))
        · refine g_iload_n (i := 3) (t := 33) dX7_farthest_32 rfl rfl rfl ?_
          refine g_iload_n (i := 1) (t := 34) dX7_farthest_33 rfl rfl rfl ?_
          refine g_icmp_le (t1 := 41) (t2 := 37) dX7_farthest_34 (by decide) rfl (fun h34 => ?_) (fun h34 => ?_)
          · refine g_iload_n (i := 1) (t := 42) dX7_farthest_41 rfl rfl rfl ?_
            refine T42 _ _ ?_
            rw [eg]
            unfold mx
            first
            | rw [if_neg (Int32.not_lt.mpr h34)]
            | rw [if_pos (i_gt h34)]
          · refine g_iload_n (i := 3) (t := 38) dX7_farthest_37 rfl rfl rfl ?_
            refine g_goto (t := 42) dX7_farthest_38 (by decide) ?_
            refine T42 _ _ ?_
            rw [eg]
            unfold mx
            first
            | rw [if_neg (Int32.not_lt.mpr h34)]
            | rw [if_pos (i_gt h34)]
theorem x7_farthest (hn : s.1 ≤ 16) (hD : dM I s (s.2.2 0)) : gPI E fX7_farthest [.ref 41] I h (geV s (sC s)) := by
  refine gEv.of rfl (Nat.le_refl _) (Nat.le_of_ble_eq_true rfl) (L := [.ref 41, .null, .null, .null]) rfl ?_
  refine g_sipush (t := 3) dX7_farthest_0 c_sipush_m1001 rfl ?_
  refine g_istore_n (i := 1) (t := 4) (L1 := [_, _, _, _]) dX7_farthest_3 rfl (by decide) rfl rfl rfl ?_
  refine g_iconst (t := 5) dX7_farthest_4 c_iconst_0 rfl ?_
  refine g_istore_n (i := 2) (t := 6) (L1 := [_, _, _, _]) dX7_farthest_5 rfl (by decide) rfl rfl rfl ?_
  exact x7_fa_loop hn hD (sC s) 0 _ (Nat.zero_add _)
theorem x7_number {k : Nat} (hR : rM I S) (hV : vT S) (hD : dM I S.1 (S.1.2.2 0)) (hk : k < 14) : gPI E fX7_number [.ref 41, .int (nI k)] I h (cnV S k) := by
  refine gEv.of rfl (Nat.le_refl _) (Nat.le_of_ble_eq_true rfl) (L := [.ref 41, .int (nI k)]) rfl ?_
  have ⟨hn, hC, hH, hT⟩ := hR
  have hc := sC_le hn
  have ⟨dO, dLn, dD⟩ := hD
  have hnl := nln_le (sQ S.1) (sC S.1)
  have l1 : I 41 13 = nI (nln (sQ S.1) (sC S.1)) := dLn.1
  refine g_iload_n (i := 1) (t := 1) dX7_number_0 rfl rfl rfl ?_
  refine g_sw7 (l := 0) (td := 113) (t0 := 44) (t1 := 53) (t2 := 58) (t3 := 63) (t4 := 98) (t5 := 103) (t6 := 108) (by decide) dX7_number_1 rfl rfl (by decide) (by decide) (by decide) (by decide) (by decide) (by decide) (by decide) (by decide) (fun h1_0 => ?_) (fun h1_1 => ?_) (fun h1_2 => ?_) (fun h1_3 => ?_) (fun h1_4 => ?_) (fun h1_5 => ?_) (fun h1_6 => ?_) (fun h1_d => ?_)
  · have e : k = 0 := by have := (nI_eq (by omega) (by omega)).mp h1_0; omega
    subst e
    refine g_aload_n (i := 0) (r := 41) (t := 45) dX7_number_44 rfl rfl (Or.inl l9_41) rfl ?_
    refine gm_getR (o := 41) (ci := 7) (k := 0) (r := 42) (t := 48) l6_41 l9_41 s_41 gf_X7_7 rfl r_41_0 l9_42 dX7_number_45 rfl ?_
    refine g_sipush (t := 51) dX7_number_48 c_sipush_176 rfl ?_
    refine gm_iald_n (a := 42) (n := 184) (t := 52) l6_42 l9_42 s_42 dX7_number_51 (by omega) (by decide) rfl ?_
    exact g_retP dX7_number_52 rfl rfl (hC.1)
  · have e : k = 1 := by have := (nI_eq (by omega) (by omega)).mp h1_1; omega
    subst e
    refine g_aload_n (i := 0) (r := 41) (t := 54) dX7_number_53 rfl rfl (Or.inl l9_41) rfl ?_
    refine g_cVp (o := 41) (t := 57) mX7_hidden k_X7_241 imX7_hidden seX7_hidden l6_41 l9_41 s_41 rfl dX7_number_54 (x7_hidden hV.1 hC) rfl rfl (by decide) (by decide) (Nat.le_of_ble_eq_true rfl) rfl ?_
    exact g_retP dX7_number_57 rfl rfl (rfl)
  · have e : k = 2 := by have := (nI_eq (by omega) (by omega)).mp h1_2; omega
    subst e
    refine g_aload_n (i := 0) (r := 41) (t := 59) dX7_number_58 rfl rfl (Or.inl l9_41) rfl ?_
    refine gm_getI (o := 41) (ci := 7) (k := 13) (t := 62) l6_41 l9_41 s_41 gf_X7_182 rfl dX7_number_59 rfl ?_
    exact g_retP dX7_number_62 rfl rfl (l1)
  · have e : k = 3 := by have := (nI_eq (by omega) (by omega)).mp h1_3; omega
    subst e
    refine g_aload_n (i := 0) (r := 41) (t := 64) dX7_number_63 rfl rfl (Or.inl l9_41) rfl ?_
    refine gm_getI (o := 41) (ci := 7) (k := 13) (t := 67) l6_41 l9_41 s_41 gf_X7_182 rfl dX7_number_64 rfl ?_
    rw [l1]
    refine g_if_ne (t1 := 74) (t2 := 70) dX7_number_67 (by decide) rfl (fun h67 => ?_) (fun h67 => ?_)
    · obtain ⟨m, hm⟩ : ∃ m, nln (sQ S.1) (sC S.1) = m + 1 := ⟨nln (sQ S.1) (sC S.1) - 1, by
        have : nln (sQ S.1) (sC S.1) ≠ 0 := fun u => h67 (by rw [u]; rfl)
        omega⟩
      have dm := dD.1 m (show m < nln (sQ S.1) (sC S.1) by omega)
      refine g_aload_n (i := 0) (r := 41) (t := 75) dX7_number_74 rfl rfl (Or.inl l9_41) rfl ?_
      refine gm_getR (o := 41) (ci := 7) (k := 24) (r := 60) (t := 78) l6_41 l9_41 s_41 gf_X7_65 rfl r_41_24 l9_60 dX7_number_75 rfl ?_
      refine g_aload_n (i := 0) (r := 41) (t := 79) dX7_number_78 rfl rfl (Or.inl l9_41) rfl ?_
      refine gm_getI (o := 41) (ci := 7) (k := 13) (t := 82) l6_41 l9_41 s_41 gf_X7_182 rfl dX7_number_79 rfl ?_
      rw [l1, hm]
      refine g_iconst (t := 83) dX7_number_82 c_iconst_1 rfl ?_
      refine g_isub (t := 84) dX7_number_83 rfl ?_
      refine g_top (gi_p _) ?_
      refine gm_iald_n (a := 60) (n := 16) (t := 85) l6_60 l9_60 s_60 dX7_number_84 (by omega) (by decide) rfl ?_
      refine g_aload_n (i := 0) (r := 41) (t := 86) dX7_number_85 rfl rfl (Or.inl l9_41) rfl ?_
      refine gm_getR (o := 41) (ci := 7) (k := 25) (r := 61) (t := 89) l6_41 l9_41 s_41 gf_X7_68 rfl r_41_25 l9_61 dX7_number_86 rfl ?_
      refine g_aload_n (i := 0) (r := 41) (t := 90) dX7_number_89 rfl rfl (Or.inl l9_41) rfl ?_
      refine gm_getI (o := 41) (ci := 7) (k := 13) (t := 93) l6_41 l9_41 s_41 gf_X7_182 rfl dX7_number_90 rfl ?_
      rw [l1, hm]
      refine g_iconst (t := 94) dX7_number_93 c_iconst_1 rfl ?_
      refine g_isub (t := 95) dX7_number_94 rfl ?_
      refine g_top (gi_p _) ?_
      refine gm_iald_n (a := 61) (n := 16) (t := 96) l6_61 l9_61 s_61 dX7_number_95 (by omega) (by decide) rfl ?_
      refine g_iadd (t := 97) dX7_number_96 rfl ?_
      exact g_retP dX7_number_97 rfl rfl (by
    first
    | (show nI 0 = htQ (sQ S.1) (sC S.1) (nln (sQ S.1) (sC S.1)); rw [e0]; rfl)
    | (show _ = htQ (sQ S.1) (sC S.1) (nln (sQ S.1) (sC S.1)); rw [hm, dm.2.2.2.1, dm.2.2.2.2]; rfl))
    · have e0 : nln (sQ S.1) (sC S.1) = 0 := Classical.byContradiction fun u => nI_ne0 (by omega) (by omega) h67
      refine g_iconst (t := 71) dX7_number_70 c_iconst_0 rfl ?_
      refine g_goto (t := 97) dX7_number_71 (by decide) ?_
      exact g_retP dX7_number_97 rfl rfl (by
    first
    | (show nI 0 = htQ (sQ S.1) (sC S.1) (nln (sQ S.1) (sC S.1)); rw [e0]; rfl)
    | (show _ = htQ (sQ S.1) (sC S.1) (nln (sQ S.1) (sC S.1)); rw [hm, dm.2.2.2.1, dm.2.2.2.2]; rfl))
  · have e : k = 4 := by have := (nI_eq (by omega) (by omega)).mp h1_4; omega
    subst e
    refine g_aload_n (i := 0) (r := 41) (t := 99) dX7_number_98 rfl rfl (Or.inl l9_41) rfl ?_
    refine g_cVp (o := 41) (t := 102) mX7_farthest k_X7_244 imX7_farthest seX7_farthest l6_41 l9_41 s_41 rfl dX7_number_99 (x7_farthest hn hD) rfl rfl (by decide) (by decide) (Nat.le_of_ble_eq_true rfl) rfl ?_
    exact g_retP dX7_number_102 rfl rfl (rfl)
  · have e : k = 5 := by have := (nI_eq (by omega) (by omega)).mp h1_5; omega
    subst e
    refine g_aload_n (i := 0) (r := 41) (t := 104) dX7_number_103 rfl rfl (Or.inl l9_41) rfl ?_
    refine gm_getI (o := 41) (ci := 7) (k := 2) (t := 107) l6_41 l9_41 s_41 gf_X7_71 rfl dX7_number_104 rfl ?_
    exact g_retP dX7_number_107 rfl rfl (hH.2.1)
  · have e : k = 6 := by have := (nI_eq (by omega) (by omega)).mp h1_6; omega
    subst e
    refine g_aload_n (i := 0) (r := 41) (t := 109) dX7_number_108 rfl rfl (Or.inl l9_41) rfl ?_
    refine gm_getI (o := 41) (ci := 7) (k := 4) (t := 112) l6_41 l9_41 s_41 gf_X7_79 rfl dX7_number_109 rfl ?_
    exact g_retP dX7_number_112 rfl rfl (hT.1)
  · obtain ⟨j, e⟩ : ∃ j, k = j + 7 := by
      refine ⟨k - 7, ?_⟩
      apply Classical.byContradiction
      intro q
      exact h1_d k (by omega) (congrArg nI (by omega))
    subst e
    refine g_aload_n (i := 0) (r := 41) (t := 114) dX7_number_113 rfl rfl (Or.inl l9_41) rfl ?_
    refine gm_getR (o := 41) (ci := 7) (k := 0) (r := 42) (t := 117) l6_41 l9_41 s_41 gf_X7_7 rfl r_41_0 l9_42 dX7_number_114 rfl ?_
    refine g_sipush (t := 120) dX7_number_117 c_sipush_177 rfl ?_
    refine g_iload_n (i := 1) (t := 121) dX7_number_120 rfl rfl rfl ?_
    refine g_iadd (t := 122) dX7_number_121 rfl ?_
    refine g_bipush (t := 124) dX7_number_122 c_bipush_7 rfl ?_
    refine g_isub (t := 125) dX7_number_124 rfl ?_
    refine g_top (y := nI (177 + j)) (by rw [nI_add, pk_sub (by omega)]; exact congrArg nI (by omega)) ?_
    refine gm_iald_n (a := 42) (n := 184) (t := 126) l6_42 l9_42 s_42 dX7_number_125 (by omega) (by decide) rfl ?_
    exact g_retP dX7_number_126 rfl rfl (hC.2.2 j (by omega))
theorem x7_count {x v : Int32} (hR : rM I S) (hV : vT S) (ho : vCount S x v) : gQI E fX7_count [.ref 41, .int x] I h (fun v' I' => gSame ML I I' ∧ v' = v ∧ rM I' S) := by
  refine gEv.of rfl (Nat.le_refl _) (Nat.le_of_ble_eq_true rfl) (L := [.ref 41, .int x]) rfl ?_
  have ⟨hn, hC, hH, hT⟩ := hR
  have e177 : I 42 177 = S.1.2.2 0 := hC.2.2 0 (by decide)
  rcases ho with ⟨hb, rfl⟩ | ⟨k, hk, rfl, rfl⟩
  · refine g_iload_n (i := 1) (t := 1) dX7_count_0 rfl rfl rfl ?_
    refine g_iconst (t := 2) dX7_count_1 c_iconst_0 rfl ?_
    refine g_bipush (t := 4) dX7_count_2 c_bipush_13 rfl ?_
    refine g_cSp (t := 7) mX7_in k_X7_75 smX7_in dX7_count_4 (x7_in) rfl rfl (by decide) (by decide) (Nat.le_of_ble_eq_true rfl) rfl ?_
    rw [in_f (K := 13) (by decide) hb]
    refine g_if_ne (t1 := 14) (t2 := 10) dX7_count_7 (by decide) rfl (fun h7 => ?_) (fun h7 => ?_)
    · exact absurd rfl h7
    · refine g_sipush (t := 13) dX7_count_10 c_sipush_m1002 rfl ?_
      exact g_retI dX7_count_13 rfl rfl (⟨gSame.rf, rfl, hR⟩)
  · refine g_iload_n (i := 1) (t := 1) dX7_count_0 rfl rfl rfl ?_
    refine g_iconst (t := 2) dX7_count_1 c_iconst_0 rfl ?_
    refine g_bipush (t := 4) dX7_count_2 c_bipush_13 rfl ?_
    refine g_cSp (t := 7) mX7_in k_X7_75 smX7_in dX7_count_4 (x7_in) rfl rfl (by decide) (by decide) (Nat.le_of_ble_eq_true rfl) rfl ?_
    rw [in_t (K := 13) (by decide) (bd_nI (by decide) hk)]
    refine g_if_ne (t1 := 14) (t2 := 10) dX7_count_7 (by decide) rfl (fun h7 => ?_) (fun h7 => ?_)
    · refine g_aload_n (i := 0) (r := 41) (t := 15) dX7_count_14 rfl rfl (Or.inl l9_41) rfl ?_
      refine g_aload_n (i := 0) (r := 41) (t := 16) dX7_count_15 rfl rfl (Or.inl l9_41) rfl ?_
      refine gm_getR (o := 41) (ci := 7) (k := 0) (r := 42) (t := 19) l6_41 l9_41 s_41 gf_X7_7 rfl r_41_0 l9_42 dX7_count_16 rfl ?_
      refine g_sipush (t := 22) dX7_count_19 c_sipush_177 rfl ?_
      refine gm_iald_n (a := 42) (n := 184) (t := 23) l6_42 l9_42 s_42 dX7_count_22 (by omega) (by decide) rfl ?_
      rw [e177]
      refine g_cVv (o := 41) (t := 26) mX7_draws k_X7_161 imX7_draws seX7_draws l6_41 l9_41 s_41 rfl dX7_count_23 (x7_draws hV.1 hV.1.b0 hC) rfl rfl (by decide) (by decide) (Nat.le_of_ble_eq_true rfl) rfl (fun J q => ?_)
      refine g_aload_n (i := 0) (r := 41) (t := 27) dX7_count_26 rfl rfl (Or.inl l9_41) rfl ?_
      refine g_iload_n (i := 1) (t := 28) dX7_count_27 rfl rfl rfl ?_
      refine g_cVp (o := 41) (t := 31) mX7_number k_X7_247 imX7_number seX7_number l6_41 l9_41 s_41 rfl dX7_count_28 (x7_number (hR.drawn q.1 q.2.1) hV q.2.2 hk) rfl rfl (by decide) (by decide) (Nat.le_of_ble_eq_true rfl) rfl ?_
      exact g_retI dX7_count_31 rfl rfl (⟨q.1.wk rfl, rfl, hR.drawn q.1 q.2.1⟩)
    · exact absurd h7 (by decide)
theorem x7_mv_read {a b : Nat} (ha : a < 16) {I0 : Nat → Nat → Int32} {K : gK} : ∀ (d k : Nat) (I : Nat → Nat → Int32), k + d = 11 → gSame [45] I0 I → (∀ q, q < k → I 45 q = I0 42 (11 * a + q)) →
    (∀ I v3, gSame [45] I0 I → (∀ q, q < 11 → I 45 q = I0 42 (11 * a + q)) → Wp E fX7_move 62 50 [.ref 41, .int (nI a), .int (nI b), v3] [] (gM I h) K) →
    Wp E fX7_move 62 26 [.ref 41, .int (nI a), .int (nI b), .int (nI k)] [] (gM I h) K := by
  intro d
  induction d with
  | zero =>
    intro k I hk hs hq kk
    have hk : k = 11 := by omega
    subst hk
    refine g_iload_n (i := 3) (t := 27) dX7_move_26 rfl rfl rfl ?_
    refine g_bipush (t := 29) dX7_move_27 c_bipush_11 rfl ?_
    refine g_icmp_ge_n (t1 := 50) (t2 := 32) dX7_move_29 (by decide) rfl (by omega) (by omega) (fun h29 => ?_) (fun h29 => ?_)
    · exact kk I _ hs hq
    · exfalso; omega
  | succ d ih =>
    intro k I hk hs hq kk
    refine g_iload_n (i := 3) (t := 27) dX7_move_26 rfl rfl rfl ?_
    refine g_bipush (t := 29) dX7_move_27 c_bipush_11 rfl ?_
    refine g_icmp_ge_n (t1 := 50) (t2 := 32) dX7_move_29 (by decide) rfl (by omega) (by omega) (fun h29 => ?_) (fun h29 => ?_)
    · exfalso; omega
    · refine g_aload_n (i := 0) (r := 41) (t := 33) dX7_move_32 rfl rfl (Or.inl l9_41) rfl ?_
      refine gm_getR (o := 41) (ci := 7) (k := 7) (r := 45) (t := 36) l6_41 l9_41 s_41 gf_X7_19 rfl r_41_7 l9_45 dX7_move_33 rfl ?_
      refine g_iload_n (i := 3) (t := 37) dX7_move_36 rfl rfl rfl ?_
      refine g_aload_n (i := 0) (r := 41) (t := 38) dX7_move_37 rfl rfl (Or.inl l9_41) rfl ?_
      refine g_iload_n (i := 1) (t := 39) dX7_move_38 rfl rfl rfl ?_
      refine g_iload_n (i := 3) (t := 40) dX7_move_39 rfl rfl rfl ?_
      refine g_cVp (o := 41) (t := 43) mX7_of k_X7_157 imX7_of seX7_of l6_41 l9_41 s_41 rfl dX7_move_40 (x7_of (by omega) (by omega)) rfl rfl (by decide) (by decide) (Nat.le_of_ble_eq_true rfl) rfl ?_
      refine gm_iast_n (a := 45) (n := 11) (t := 44) l6_45 l9_45 s_45 dX7_move_43 (by omega) (by decide) rfl ?_
      refine g_iinc (i := 3) (t := 47) (L1 := [_, _, _, _]) dX7_move_44 rfl (gi_1 _) (by decide) rfl rfl rfl ?_
      refine g_goto (t := 26) dX7_move_47 (by decide) ?_
      refine ih (k + 1) _ (by omega) (hs.up rfl) (fun q hq2 => ?_) kk
      rw [gup_at, hs.at 42 rfl]
      by_cases y : q = k
      · rw [if_pos y, y]
      · rw [if_neg y]; exact hq q (by omega)
theorem x7_mv_up {a b : Nat} (ha : a < 16) (hb : b < 16) {I0 : Nat → Nat → Int32} {K : gK} (kk : ∀ I v3, upR I I0 b a → Wp E fX7_move 62 71 [.ref 41, .int (nI a), .int (nI b), v3] [] (gM I h) K) : ∀ (d p : Nat) (I : Nat → Nat → Int32), p = b + d → p ≤ a → upR I I0 p a → Wp E fX7_move 62 52 [.ref 41, .int (nI a), .int (nI b), .int (nI p)] [] (gM I h) K := by
  intro d
  induction d with
  | zero =>
    intro p I hp hap hd
    have hp : p = b := by omega
    subst hp
    refine g_iload_n (i := 3) (t := 53) dX7_move_52 rfl rfl rfl ?_
    refine g_iload_n (i := 2) (t := 54) dX7_move_53 rfl rfl rfl ?_
    refine g_icmp_le_n (t1 := 71) (t2 := 57) dX7_move_54 (by decide) rfl (by omega) (by omega) (fun h54 => ?_) (fun h54 => ?_)
    · exact kk I _ hd
    · exfalso; omega
  | succ d ih =>
    intro p I hp hap hd
    obtain ⟨p, rfl⟩ : ∃ p', p = p' + 1 := ⟨p - 1, by omega⟩
    refine g_iload_n (i := 3) (t := 53) dX7_move_52 rfl rfl rfl ?_
    refine g_iload_n (i := 2) (t := 54) dX7_move_53 rfl rfl rfl ?_
    refine g_icmp_le_n (t1 := 71) (t2 := 57) dX7_move_54 (by decide) rfl (by omega) (by omega) (fun h54 => ?_) (fun h54 => ?_)
    · exfalso; omega
    · refine g_aload_n (i := 0) (r := 41) (t := 58) dX7_move_57 rfl rfl (Or.inl l9_41) rfl ?_
      refine g_iload_n (i := 3) (t := 59) dX7_move_58 rfl rfl rfl ?_
      refine g_iconst (t := 60) dX7_move_59 c_iconst_1 rfl ?_
      refine g_isub (t := 61) dX7_move_60 rfl ?_
      refine g_top (gi_p _) ?_
      refine g_iload_n (i := 3) (t := 62) dX7_move_61 rfl rfl rfl ?_
      refine g_cVv (o := 41) (t := 65) mX7_copies k_X7_146 imX7_copies seX7_copies l6_41 l9_41 s_41 rfl dX7_move_62 (x7_copies (by omega) (by omega) (by omega)) rfl rfl (by decide) (by decide) (Nat.le_of_ble_eq_true rfl) rfl (fun J q => ?_)
      refine g_iinc (i := 3) (t := 68) (L1 := [_, _, _, _]) dX7_move_65 rfl (gi_m1 _) (by decide) rfl rfl rfl ?_
      refine g_goto (t := 52) dX7_move_68 (by decide) ?_
      exact ih p J (by omega) (by omega) (hd.next hap ha q.1 q.2)
theorem x7_mv_dn {a b : Nat} (ha : a < 16) (hb : b < 16) {I0 : Nat → Nat → Int32} {K : gK} (kk : ∀ I v3, dnR I I0 a b → Wp E fX7_move 62 92 [.ref 41, .int (nI a), .int (nI b), v3] [] (gM I h) K) : ∀ (d p : Nat) (I : Nat → Nat → Int32), p + d = b → a ≤ p → dnR I I0 a p → Wp E fX7_move 62 73 [.ref 41, .int (nI a), .int (nI b), .int (nI p)] [] (gM I h) K := by
  intro d
  induction d with
  | zero =>
    intro p I hp hap hd
    have hp : p = b := by omega
    subst hp
    refine g_iload_n (i := 3) (t := 74) dX7_move_73 rfl rfl rfl ?_
    refine g_iload_n (i := 2) (t := 75) dX7_move_74 rfl rfl rfl ?_
    refine g_icmp_ge_n (t1 := 92) (t2 := 78) dX7_move_75 (by decide) rfl (by omega) (by omega) (fun h75 => ?_) (fun h75 => ?_)
    · exact kk I _ hd
    · exfalso; omega
  | succ d ih =>
    intro p I hp hap hd
    refine g_iload_n (i := 3) (t := 74) dX7_move_73 rfl rfl rfl ?_
    refine g_iload_n (i := 2) (t := 75) dX7_move_74 rfl rfl rfl ?_
    refine g_icmp_ge_n (t1 := 92) (t2 := 78) dX7_move_75 (by decide) rfl (by omega) (by omega) (fun h75 => ?_) (fun h75 => ?_)
    · exfalso; omega
    · refine g_aload_n (i := 0) (r := 41) (t := 79) dX7_move_78 rfl rfl (Or.inl l9_41) rfl ?_
      refine g_iload_n (i := 3) (t := 80) dX7_move_79 rfl rfl rfl ?_
      refine g_iconst (t := 81) dX7_move_80 c_iconst_1 rfl ?_
      refine g_iadd (t := 82) dX7_move_81 rfl ?_
      refine g_top (gi_s _) ?_
      refine g_iload_n (i := 3) (t := 83) dX7_move_82 rfl rfl rfl ?_
      refine g_cVv (o := 41) (t := 86) mX7_copies k_X7_146 imX7_copies seX7_copies l6_41 l9_41 s_41 rfl dX7_move_83 (x7_copies (by omega) (by omega) (by omega)) rfl rfl (by decide) (by decide) (Nat.le_of_ble_eq_true rfl) rfl (fun J q => ?_)
      refine g_iinc (i := 3) (t := 89) (L1 := [_, _, _, _]) dX7_move_86 rfl (gi_1 _) (by decide) rfl rfl rfl ?_
      refine g_goto (t := 73) dX7_move_89 (by decide) ?_
      exact ih (p + 1) J (by omega) (by omega) (hd.next hap (by omega) q.1 q.2)
end X7R

