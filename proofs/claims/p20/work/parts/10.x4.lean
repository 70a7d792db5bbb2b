/-! FlexRows$State -/
section X4
variable {E : gE} {I : Nat → Nat → Int32} {h : gX}
theorem x4_has_t {n k : Nat} (hn : I 4 0 = nI n) (hk : k < n) (hb : n < 1000) : gPI E fX4_has [.ref 4, .int (nI k)] I h (nI 1) := by
  refine gEv.of rfl (Nat.le_refl _) (Nat.le_of_ble_eq_true rfl) (L := [.ref 4, .int (nI k)]) rfl ?_
  refine g_iload_n (i := 1) (t := 1) dX4_has_0 rfl rfl rfl ?_
  refine g_if_lt (t1 := 16) (t2 := 4) dX4_has_1 (by decide) rfl (fun h1 => ?_) (fun h1 => ?_)
  · exact absurd h1 (by first | decide | exact nI_pos (by omega) | exact nI_ne0 (by omega) (by omega))
  · refine g_iload_n (i := 1) (t := 5) dX4_has_4 rfl rfl rfl ?_
    refine g_aload_n (i := 0) (r := 4) (t := 6) dX4_has_5 rfl rfl (Or.inl l9_4) rfl ?_
    refine gm_getI (o := 4) (ci := 4) (k := 0) (t := 9) l6_4 l9_4 s_4 gf_X4_27 rfl dX4_has_6 rfl ?_
    rw [hn]
    refine g_icmp_ge_n (t1 := 16) (t2 := 12) dX4_has_9 (by decide) rfl (by omega) (by omega) (fun h9 => ?_) (fun h9 => ?_)
    · exfalso; omega
    · refine g_iconst (t := 13) dX4_has_12 c_iconst_1 rfl ?_
      refine g_goto (t := 17) dX4_has_13 (by decide) ?_
      exact g_retP dX4_has_17 rfl (by decide +kernel) (rfl)
theorem x4_has_f {n : Nat} {x : Int32} (hn : I 4 0 = nI n) (hk : x < 0 ∨ nI n ≤ x) : gPI E fX4_has [.ref 4, .int x] I h (nI 0) := by
  refine gEv.of rfl (Nat.le_refl _) (Nat.le_of_ble_eq_true rfl) (L := [.ref 4, .int x]) rfl ?_
  refine g_iload_n (i := 1) (t := 1) dX4_has_0 rfl rfl rfl ?_
  refine g_if_lt (t1 := 16) (t2 := 4) dX4_has_1 (by decide) rfl (fun h1 => ?_) (fun h1 => ?_)
  · refine g_iconst (t := 17) dX4_has_16 c_iconst_0 rfl ?_
    exact g_retP dX4_has_17 rfl (by decide +kernel) (rfl)
  · refine g_iload_n (i := 1) (t := 5) dX4_has_4 rfl rfl rfl ?_
    refine g_aload_n (i := 0) (r := 4) (t := 6) dX4_has_5 rfl rfl (Or.inl l9_4) rfl ?_
    refine gm_getI (o := 4) (ci := 4) (k := 0) (t := 9) l6_4 l9_4 s_4 gf_X4_27 rfl dX4_has_6 rfl ?_
    rw [hn]
    refine g_icmp_ge (t1 := 16) (t2 := 12) dX4_has_9 (by decide) rfl (fun h9 => ?_) (fun h9 => ?_)
    · refine g_iconst (t := 17) dX4_has_16 c_iconst_0 rfl ?_
      exact g_retP dX4_has_17 rfl (by decide +kernel) (rfl)
    · exact absurd (hk.resolve_left h1) h9
theorem x4_number {k : Nat} (hk : k < 7) : gPI E fX4_number [.ref 4, .int (nI k)] I h (I 5 k) := by
  refine gEv.of rfl (Nat.le_refl _) (Nat.le_of_ble_eq_true rfl) (L := [.ref 4, .int (nI k)]) rfl ?_
  refine g_iload_n (i := 1) (t := 1) dX4_number_0 rfl rfl rfl ?_
  refine g_if_lt (t1 := 19) (t2 := 4) dX4_number_1 (by decide) rfl (fun h1 => ?_) (fun h1 => ?_)
  · exact absurd h1 (by first | decide | exact nI_pos (by omega) | exact nI_ne0 (by omega) (by omega))
  · refine g_iload_n (i := 1) (t := 5) dX4_number_4 rfl rfl rfl ?_
    refine g_bipush (t := 7) dX4_number_5 c_bipush_7 rfl ?_
    refine g_icmp_ge_n (t1 := 19) (t2 := 10) dX4_number_7 (by decide) rfl (by omega) (by omega) (fun h7 => ?_) (fun h7 => ?_)
    · exfalso; omega
    · refine g_aload_n (i := 0) (r := 4) (t := 11) dX4_number_10 rfl rfl (Or.inl l9_4) rfl ?_
      refine gm_getR (o := 4) (ci := 4) (k := 1) (r := 5) (t := 14) l6_4 l9_4 s_4 gf_X4_9 rfl r_4_1 l9_5 dX4_number_11 rfl ?_
      refine g_iload_n (i := 1) (t := 15) dX4_number_14 rfl rfl rfl ?_
      refine gm_iald_n (a := 5) (n := 7) (t := 16) l6_5 l9_5 s_5 dX4_number_15 (by omega) (by decide) rfl ?_
      refine g_goto (t := 20) dX4_number_16 (by decide) ?_
      exact g_retP dX4_number_20 rfl rfl (rfl)
theorem x4_setNumber {k : Nat} {v : Int32} (hk : k < 7) : gDV E fX4_setNumber [.ref 4, .int (nI k), .int v] I h (gup I 5 k v) := by
  refine gEv.of rfl (Nat.le_refl _) (Nat.le_of_ble_eq_true rfl) (L := [.ref 4, .int (nI k), .int v]) rfl ?_
  refine g_iload_n (i := 1) (t := 1) dX4_setNumber_0 rfl rfl rfl ?_
  refine g_if_lt (t1 := 17) (t2 := 4) dX4_setNumber_1 (by decide) rfl (fun h1 => ?_) (fun h1 => ?_)
  · exact absurd h1 (by first | decide | exact nI_pos (by omega) | exact nI_ne0 (by omega) (by omega))
  · refine g_iload_n (i := 1) (t := 5) dX4_setNumber_4 rfl rfl rfl ?_
    refine g_bipush (t := 7) dX4_setNumber_5 c_bipush_7 rfl ?_
    refine g_icmp_ge_n (t1 := 17) (t2 := 10) dX4_setNumber_7 (by decide) rfl (by omega) (by omega) (fun h7 => ?_) (fun h7 => ?_)
    · exfalso; omega
    · refine g_aload_n (i := 0) (r := 4) (t := 11) dX4_setNumber_10 rfl rfl (Or.inl l9_4) rfl ?_
      refine gm_getR (o := 4) (ci := 4) (k := 1) (r := 5) (t := 14) l6_4 l9_4 s_4 gf_X4_9 rfl r_4_1 l9_5 dX4_setNumber_11 rfl ?_
      refine g_iload_n (i := 1) (t := 15) dX4_setNumber_14 rfl rfl rfl ?_
      refine g_iload_n (i := 2) (t := 16) dX4_setNumber_15 rfl rfl rfl ?_
      refine gm_iast_n (a := 5) (n := 7) (t := 17) l6_5 l9_5 s_5 dX4_setNumber_16 (by omega) (by decide) rfl ?_
      exact g_retD dX4_setNumber_17 rfl (rfl)
theorem x4_property {a b : Nat} (ha : a < 16) (hb : b < 11) : gPI E fX4_property [.ref 4, .int (nI a), .int (nI b)] I h (I 6 (11 * a + b)) := by
  refine gEv.of rfl (Nat.le_refl _) (Nat.le_of_ble_eq_true rfl) (L := [.ref 4, .int (nI a), .int (nI b), .null]) rfl ?_
  refine g_iload_n (i := 1) (t := 1) dX4_property_0 rfl rfl rfl ?_
  refine g_if_lt (t1 := 24) (t2 := 4) dX4_property_1 (by decide) rfl (fun h1 => ?_) (fun h1 => ?_)
  · exact absurd h1 (by first | decide | exact nI_pos (by omega) | exact nI_ne0 (by omega) (by omega))
  · refine g_iload_n (i := 1) (t := 5) dX4_property_4 rfl rfl rfl ?_
    refine g_bipush (t := 7) dX4_property_5 c_bipush_16 rfl ?_
    refine g_icmp_ge_n (t1 := 24) (t2 := 10) dX4_property_7 (by decide) rfl (by omega) (by omega) (fun h7 => ?_) (fun h7 => ?_)
    · exfalso; omega
    · refine g_iload_n (i := 2) (t := 11) dX4_property_10 rfl rfl rfl ?_
      refine g_if_lt (t1 := 24) (t2 := 14) dX4_property_11 (by decide) rfl (fun h11 => ?_) (fun h11 => ?_)
      · exact absurd h11 (by first | decide | exact nI_pos (by omega) | exact nI_ne0 (by omega) (by omega))
      · refine g_iload_n (i := 2) (t := 15) dX4_property_14 rfl rfl rfl ?_
        refine g_bipush (t := 17) dX4_property_15 c_bipush_11 rfl ?_
        refine g_icmp_ge_n (t1 := 24) (t2 := 20) dX4_property_17 (by decide) rfl (by omega) (by omega) (fun h17 => ?_) (fun h17 => ?_)
        · exfalso; omega
        · refine g_iconst (t := 21) dX4_property_20 c_iconst_1 rfl ?_
          refine g_goto (t := 25) dX4_property_21 (by decide) ?_
          refine g_istore_n (i := 3) (t := 26) (L1 := [_, _, _, _]) dX4_property_25 rfl (by decide) rfl rfl rfl ?_
          refine g_iload_n (i := 3) (t := 27) dX4_property_26 rfl rfl rfl ?_
          refine g_if_eq (t1 := 44) (t2 := 30) dX4_property_27 (by decide) rfl (fun h27 => ?_) (fun h27 => ?_)
          · exact absurd h27 (by first | decide | exact nI_pos (by omega) | exact nI_ne0 (by omega) (by omega))
          · refine g_aload_n (i := 0) (r := 4) (t := 31) dX4_property_30 rfl rfl (Or.inl l9_4) rfl ?_
            refine gm_getR (o := 4) (ci := 4) (k := 2) (r := 6) (t := 34) l6_4 l9_4 s_4 gf_X4_15 rfl r_4_2 l9_6 dX4_property_31 rfl ?_
            refine g_iload_n (i := 1) (t := 35) dX4_property_34 rfl rfl rfl ?_
            refine g_bipush (t := 37) dX4_property_35 c_bipush_11 rfl ?_
            refine g_imul (t := 38) dX4_property_37 rfl ?_
            refine g_iload_n (i := 2) (t := 39) dX4_property_38 rfl rfl rfl ?_
            refine g_iadd (t := 40) dX4_property_39 rfl ?_
            refine g_top (y := nI (11 * a + b)) (by rw [pk_mul, nI_add, Nat.mul_comm]) ?_
            refine gm_iald_n (a := 6) (n := 176) (t := 41) l6_6 l9_6 s_6 dX4_property_40 (by omega) (by decide) rfl ?_
            refine g_goto (t := 45) dX4_property_41 (by decide) ?_
            exact g_retP dX4_property_45 rfl rfl (rfl)
theorem x4_put {a b : Nat} {v : Int32} (ha : a < 16) (hb : b < 11) : gDV E fX4_put [.ref 4, .int (nI a), .int (nI b), .int v] I h (gup I 6 (11 * a + b) v) := by
  refine gEv.of rfl (Nat.le_refl _) (Nat.le_of_ble_eq_true rfl) (L := [.ref 4, .int (nI a), .int (nI b), .int v]) rfl ?_
  refine g_iload_n (i := 1) (t := 1) dX4_put_0 rfl rfl rfl ?_
  refine g_if_lt (t1 := 32) (t2 := 4) dX4_put_1 (by decide) rfl (fun h1 => ?_) (fun h1 => ?_)
  · exact absurd h1 (by first | decide | exact nI_pos (by omega) | exact nI_ne0 (by omega) (by omega))
  · refine g_iload_n (i := 1) (t := 5) dX4_put_4 rfl rfl rfl ?_
    refine g_bipush (t := 7) dX4_put_5 c_bipush_16 rfl ?_
    refine g_icmp_ge_n (t1 := 32) (t2 := 10) dX4_put_7 (by decide) rfl (by omega) (by omega) (fun h7 => ?_) (fun h7 => ?_)
    · exfalso; omega
    · refine g_iload_n (i := 2) (t := 11) dX4_put_10 rfl rfl rfl ?_
      refine g_if_lt (t1 := 32) (t2 := 14) dX4_put_11 (by decide) rfl (fun h11 => ?_) (fun h11 => ?_)
      · exact absurd h11 (by first | decide | exact nI_pos (by omega) | exact nI_ne0 (by omega) (by omega))
      · refine g_iload_n (i := 2) (t := 15) dX4_put_14 rfl rfl rfl ?_
        refine g_bipush (t := 17) dX4_put_15 c_bipush_11 rfl ?_
        refine g_icmp_ge_n (t1 := 32) (t2 := 20) dX4_put_17 (by decide) rfl (by omega) (by omega) (fun h17 => ?_) (fun h17 => ?_)
        · exfalso; omega
        · refine g_aload_n (i := 0) (r := 4) (t := 21) dX4_put_20 rfl rfl (Or.inl l9_4) rfl ?_
          refine gm_getR (o := 4) (ci := 4) (k := 2) (r := 6) (t := 24) l6_4 l9_4 s_4 gf_X4_15 rfl r_4_2 l9_6 dX4_put_21 rfl ?_
          refine g_iload_n (i := 1) (t := 25) dX4_put_24 rfl rfl rfl ?_
          refine g_bipush (t := 27) dX4_put_25 c_bipush_11 rfl ?_
          refine g_imul (t := 28) dX4_put_27 rfl ?_
          refine g_iload_n (i := 2) (t := 29) dX4_put_28 rfl rfl rfl ?_
          refine g_iadd (t := 30) dX4_put_29 rfl ?_
          refine g_top (y := nI (11 * a + b)) (by rw [pk_mul, nI_add, Nat.mul_comm]) ?_
          refine g_iload_n (i := 3) (t := 31) dX4_put_30 rfl rfl rfl ?_
          refine gm_iast_n (a := 6) (n := 176) (t := 32) l6_6 l9_6 s_6 dX4_put_31 (by omega) (by decide) rfl ?_
          exact g_retD dX4_put_32 rfl (rfl)
theorem x4_greatest {a : Nat} (ha : a < 16) : gPI E fX4_greatest [.ref 4, .int (nI a)] I h (grt (fun i w => I 6 (11 * i + w)) a) := by
  refine gEv.of rfl (Nat.le_refl _) (Nat.le_of_ble_eq_true rfl) (L := [.ref 4, .int (nI a)]) rfl ?_
  refine g_aload_n (i := 0) (r := 4) (t := 1) dX4_greatest_0 rfl rfl (Or.inl l9_4) rfl ?_
  refine g_iload_n (i := 1) (t := 2) dX4_greatest_1 rfl rfl rfl ?_
  refine g_iconst (t := 3) dX4_greatest_2 c_iconst_3 rfl ?_
  refine g_cVp (o := 4) (t := 6) mX4_property k_X4_31 imX4_property seX4_property l6_4 l9_4 s_4 rfl dX4_greatest_3 (x4_property (by omega) (by omega)) rfl rfl (by decide) (by decide) (Nat.le_of_ble_eq_true rfl) rfl (Nat.le_refl _) ?_
  refine g_aload_n (i := 0) (r := 4) (t := 7) dX4_greatest_6 rfl rfl (Or.inl l9_4) rfl ?_
  refine g_iload_n (i := 1) (t := 8) dX4_greatest_7 rfl rfl rfl ?_
  refine g_iconst (t := 9) dX4_greatest_8 c_iconst_4 rfl ?_
  refine g_cVp (o := 4) (t := 12) mX4_property k_X4_31 imX4_property seX4_property l6_4 l9_4 s_4 rfl dX4_greatest_9 (x4_property (by omega) (by omega)) rfl rfl (by decide) (by decide) (Nat.le_of_ble_eq_true rfl) rfl (Nat.le_refl _) ?_
  refine g_max (t := 15) k_X4_35 k_max2 k_ma3 k_max4 (by decide) (by decide) (Nat.le_of_ble_eq_true rfl) dX4_greatest_12 rfl ?_
  exact g_retP dX4_greatest_15 rfl rfl (rfl)
theorem x4_wish {a : Nat} (ha : a < 16) : gPI E fX4_wish [.ref 4, .int (nI a)] I h (wsh (fun i w => I 6 (11 * i + w)) a) := by
  refine gEv.of rfl (Nat.le_refl _) (Nat.le_of_ble_eq_true rfl) (L := [.ref 4, .int (nI a)]) rfl ?_
  refine g_aload_n (i := 0) (r := 4) (t := 1) dX4_wish_0 rfl rfl (Or.inl l9_4) rfl ?_
  refine g_iload_n (i := 1) (t := 2) dX4_wish_1 rfl rfl rfl ?_
  refine g_iconst (t := 3) dX4_wish_2 c_iconst_0 rfl ?_
  refine g_cVp (o := 4) (t := 6) mX4_property k_X4_31 imX4_property seX4_property l6_4 l9_4 s_4 rfl dX4_wish_3 (x4_property (by omega) (by omega)) rfl rfl (by decide) (by decide) (Nat.le_of_ble_eq_true rfl) rfl (Nat.le_refl _) ?_
  refine g_aload_n (i := 0) (r := 4) (t := 7) dX4_wish_6 rfl rfl (Or.inl l9_4) rfl ?_
  refine g_iload_n (i := 1) (t := 8) dX4_wish_7 rfl rfl rfl ?_
  refine g_iconst (t := 9) dX4_wish_8 c_iconst_3 rfl ?_
  refine g_cVp (o := 4) (t := 12) mX4_property k_X4_31 imX4_property seX4_property l6_4 l9_4 s_4 rfl dX4_wish_9 (x4_property (by omega) (by omega)) rfl rfl (by decide) (by decide) (Nat.le_of_ble_eq_true rfl) rfl (Nat.le_refl _) ?_
  refine g_max (t := 15) k_X4_35 k_max2 k_ma3 k_max4 (by decide) (by decide) (Nat.le_of_ble_eq_true rfl) dX4_wish_12 rfl ?_
  refine g_aload_n (i := 0) (r := 4) (t := 16) dX4_wish_15 rfl rfl (Or.inl l9_4) rfl ?_
  refine g_iload_n (i := 1) (t := 17) dX4_wish_16 rfl rfl rfl ?_
  refine g_cVp (o := 4) (t := 20) mX4_greatest k_X4_40 imX4_greatest seX4_greatest l6_4 l9_4 s_4 rfl dX4_wish_17 (x4_greatest (by omega)) rfl rfl (by decide) (by decide) (Nat.le_of_ble_eq_true rfl) rfl (Nat.le_refl _) ?_
  refine g_min (t := 23) k_X4_44 k_min2 k_ma3 k_min4 (by decide) (by decide) (Nat.le_of_ble_eq_true rfl) dX4_wish_20 rfl ?_
  exact g_retP dX4_wish_23 rfl rfl (rfl)
theorem x4_above {a : Nat} (ha : a < 16) : gPI E fX4_above [.ref 4, .int (nI a)] I h (abv (fun i w => I 6 (11 * i + w)) a) := by
  refine gEv.of rfl (Nat.le_refl _) (Nat.le_of_ble_eq_true rfl) (L := [.ref 4, .int (nI a)]) rfl ?_
  refine g_aload_n (i := 0) (r := 4) (t := 1) dX4_above_0 rfl rfl (Or.inl l9_4) rfl ?_
  refine g_iload_n (i := 1) (t := 2) dX4_above_1 rfl rfl rfl ?_
  refine g_bipush (t := 4) dX4_above_2 c_bipush_7 rfl ?_
  refine g_cVp (o := 4) (t := 7) mX4_property k_X4_31 imX4_property seX4_property l6_4 l9_4 s_4 rfl dX4_above_4 (x4_property (by omega) (by omega)) rfl rfl (by decide) (by decide) (Nat.le_of_ble_eq_true rfl) rfl (Nat.le_refl _) ?_
  refine g_aload_n (i := 0) (r := 4) (t := 8) dX4_above_7 rfl rfl (Or.inl l9_4) rfl ?_
  refine g_iload_n (i := 1) (t := 9) dX4_above_8 rfl rfl rfl ?_
  refine g_bipush (t := 11) dX4_above_9 c_bipush_8 rfl ?_
  refine g_cVp (o := 4) (t := 14) mX4_property k_X4_31 imX4_property seX4_property l6_4 l9_4 s_4 rfl dX4_above_11 (x4_property (by omega) (by omega)) rfl rfl (by decide) (by decide) (Nat.le_of_ble_eq_true rfl) rfl (Nat.le_refl _) ?_
  refine g_isub (t := 15) dX4_above_14 rfl ?_
  exact g_retP dX4_above_15 rfl rfl (rfl)
theorem x4_wayAcross {a : Nat} (ha : a < 16) : gPI E fX4_wayAcross [.ref 4, .int (nI a)] I h (way (fun i w => I 6 (11 * i + w)) (I 5) a) := by
  refine gEv.of rfl (Nat.le_refl _) (Nat.le_of_ble_eq_true rfl) (L := [.ref 4, .int (nI a), .null]) rfl ?_
  refine g_aload_n (i := 0) (r := 4) (t := 1) dX4_wayAcross_0 rfl rfl (Or.inl l9_4) rfl ?_
  refine g_iload_n (i := 1) (t := 2) dX4_wayAcross_1 rfl rfl rfl ?_
  refine g_bipush (t := 4) dX4_wayAcross_2 c_bipush_9 rfl ?_
  refine g_cVp (o := 4) (t := 7) mX4_property k_X4_31 imX4_property seX4_property l6_4 l9_4 s_4 rfl dX4_wayAcross_4 (x4_property (by omega) (by omega)) rfl rfl (by decide) (by decide) (Nat.le_of_ble_eq_true rfl) rfl (Nat.le_refl _) ?_
  refine g_istore_n (i := 2) (t := 8) (L1 := [_, _, _]) dX4_wayAcross_7 rfl (by decide) rfl rfl rfl ?_
  refine g_iload_n (i := 2) (t := 9) dX4_wayAcross_8 rfl rfl rfl ?_
  refine g_iconst (t := 10) dX4_wayAcross_9 c_iconst_4 rfl ?_
  refine g_icmp_ne (t1 := 21) (t2 := 13) dX4_wayAcross_10 (by decide) rfl (fun h10 => ?_) (fun h10 => ?_)
  · refine g_iload_n (i := 2) (t := 22) dX4_wayAcross_21 rfl rfl rfl ?_
    exact g_retP dX4_wayAcross_22 rfl rfl (by simp only [way]; first | rw [if_pos h10] | rw [if_neg h10])
  · refine g_aload_n (i := 0) (r := 4) (t := 14) dX4_wayAcross_13 rfl rfl (Or.inl l9_4) rfl ?_
    refine g_iconst (t := 15) dX4_wayAcross_14 c_iconst_5 rfl ?_
    refine g_cVp (o := 4) (t := 18) mX4_number k_X4_47 imX4_number seX4_number l6_4 l9_4 s_4 rfl dX4_wayAcross_15 (x4_number (by omega)) rfl rfl (by decide) (by decide) (Nat.le_of_ble_eq_true rfl) rfl (Nat.le_refl _) ?_
    refine g_goto (t := 22) dX4_wayAcross_18 (by decide) ?_
    exact g_retP dX4_wayAcross_22 rfl rfl (by simp only [way]; first | rw [if_pos h10] | rw [if_neg h10])
/-- two items change places: the first m properties -/
def swpI (a b m i w : Nat) : Nat := if w < m then (if i = a then b else if i = b then a else i) else i
theorem x4_swap_loop {a b : Nat} (ha : a < 16) (hb : b < 16) (hab : a ≠ b) {K : gK} {I0 : Nat → Nat → Int32} : ∀ (d k : Nat) (I : Nat → Nat → Int32) (v5 : Value), k + d = 11 → gSame [6] I0 I → (∀ i w, i < 16 → w < 11 → I 6 (11 * i + w) = I0 6 (11 * swpI a b k i w + w)) →
    (∀ I' v5, gSame [6] I0 I' → (∀ i w, i < 16 → w < 11 → I' 6 (11 * i + w) = I0 6 (11 * swpI a b 11 i w + w)) → Wp E fX4_swap (gn h) 42 [.ref 4, .int (nI a), .int (nI b), .int (nI 11), v5] [] (gM I' h) K) →
    Wp E fX4_swap (gn h) 2 [.ref 4, .int (nI a), .int (nI b), .int (nI k), v5] [] (gM I h) K := by
  intro d
  induction d with
  | zero =>
    intro k I v5 hk hs hv kk
    have hk : k = 11 := by omega
    subst hk
    refine g_iload_n (i := 3) (t := 3) dX4_swap_2 rfl rfl rfl ?_
    refine g_bipush (t := 5) dX4_swap_3 c_bipush_11 rfl ?_
    refine g_icmp_ge_n (t1 := 42) (t2 := 8) dX4_swap_5 (by decide) rfl (by omega) (by omega) (fun h5 => ?_) (fun h5 => ?_)
    · exact kk I v5 hs hv
    · exfalso; omega
  | succ d ih =>
    intro k I v5 hk hs hv kk
    refine g_iload_n (i := 3) (t := 3) dX4_swap_2 rfl rfl rfl ?_
    refine g_bipush (t := 5) dX4_swap_3 c_bipush_11 rfl ?_
    refine g_icmp_ge_n (t1 := 42) (t2 := 8) dX4_swap_5 (by decide) rfl (by omega) (by omega) (fun h5 => ?_) (fun h5 => ?_)
    · exfalso; omega
    · refine g_aload_n (i := 0) (r := 4) (t := 9) dX4_swap_8 rfl rfl (Or.inl l9_4) rfl ?_
      refine g_iload_n (i := 1) (t := 10) dX4_swap_9 rfl rfl rfl ?_
      refine g_iload_n (i := 3) (t := 11) dX4_swap_10 rfl rfl rfl ?_
      refine g_cVp (o := 4) (t := 14) mX4_property k_X4_31 imX4_property seX4_property l6_4 l9_4 s_4 rfl dX4_swap_11 (x4_property (by omega) (by omega)) rfl rfl (by decide) (by decide) (Nat.le_of_ble_eq_true rfl) rfl (Nat.le_refl _) ?_
      refine g_istore (i := 4) (t := 16) (L1 := [_, _, _, _, _]) dX4_swap_14 (by decide) rfl rfl rfl ?_
      refine g_aload_n (i := 0) (r := 4) (t := 17) dX4_swap_16 rfl rfl (Or.inl l9_4) rfl ?_
      refine g_iload_n (i := 1) (t := 18) dX4_swap_17 rfl rfl rfl ?_
      refine g_iload_n (i := 3) (t := 19) dX4_swap_18 rfl rfl rfl ?_
      refine g_aload_n (i := 0) (r := 4) (t := 20) dX4_swap_19 rfl rfl (Or.inl l9_4) rfl ?_
      refine g_iload_n (i := 2) (t := 21) dX4_swap_20 rfl rfl rfl ?_
      refine g_iload_n (i := 3) (t := 22) dX4_swap_21 rfl rfl rfl ?_
      refine g_cVp (o := 4) (t := 25) mX4_property k_X4_31 imX4_property seX4_property l6_4 l9_4 s_4 rfl dX4_swap_22 (x4_property (by omega) (by omega)) rfl rfl (by decide) (by decide) (Nat.le_of_ble_eq_true rfl) rfl (Nat.le_refl _) ?_
      refine g_cVd (o := 4) (t := 28) mX4_put k_X4_50 imX4_put seX4_put l6_4 l9_4 s_4 rfl dX4_swap_25 (x4_put (by omega) (by omega)) rfl rfl (by decide) (by decide) (Nat.le_of_ble_eq_true rfl) rfl (Nat.le_refl _) ?_
      refine g_aload_n (i := 0) (r := 4) (t := 29) dX4_swap_28 rfl rfl (Or.inl l9_4) rfl ?_
      refine g_iload_n (i := 2) (t := 30) dX4_swap_29 rfl rfl rfl ?_
      refine g_iload_n (i := 3) (t := 31) dX4_swap_30 rfl rfl rfl ?_
      refine g_iload (i := 4) (t := 33) dX4_swap_31 rfl rfl ?_
      refine g_cVd (o := 4) (t := 36) mX4_put k_X4_50 imX4_put seX4_put l6_4 l9_4 s_4 rfl dX4_swap_33 (x4_put (by omega) (by omega)) rfl rfl (by decide) (by decide) (Nat.le_of_ble_eq_true rfl) rfl (Nat.le_refl _) ?_
      refine g_iinc (i := 3) (t := 39) (L1 := [_, _, _, _, _]) dX4_swap_36 rfl (gi_1 _) (by decide) rfl rfl rfl ?_
      refine g_goto (t := 2) dX4_swap_39 (by decide) ?_
      refine ih (k + 1) _ _ (by omega) ((hs.up rfl).up rfl) (fun i w hi hw => ?_) kk
      rw [gup_at, gup_at]
      have e1 : (11 * i + w = 11 * b + k) ↔ (i = b ∧ w = k) := g_eq11 hw (by omega)
      have e2 : (11 * i + w = 11 * a + k) ↔ (i = a ∧ w = k) := g_eq11 hw (by omega)
      simp only [e1, e2]
      have va := hv a k ha (by omega)
      have vb := hv b k hb (by omega)
      have hsa : swpI a b k a k = a := by simp [swpI]
      have hsb : swpI a b k b k = b := by simp [swpI]
      rw [hsa] at va
      rw [hsb] at vb
      by_cases q1 : i = b ∧ w = k
      · obtain ⟨rfl, rfl⟩ := q1
        rw [if_pos ⟨rfl, rfl⟩, va]
        simp [swpI, Ne.symm hab]
      · rw [if_neg q1]
        by_cases q2 : i = a ∧ w = k
        · obtain ⟨rfl, rfl⟩ := q2
          rw [if_pos ⟨rfl, rfl⟩, vb]
          simp [swpI]
        · rw [if_neg q2, hv i w hi hw]
          have : swpI a b (k + 1) i w = swpI a b k i w := by
            unfold swpI
            by_cases z : w = k
            · subst z
              have n1 : i ≠ b := fun y => q1 ⟨y, rfl⟩
              have n2 : i ≠ a := fun y => q2 ⟨y, rfl⟩
              simp [n1, n2]
            · have : (w < k + 1) ↔ (w < k) := by omega
              simp only [this]
          rw [this]
theorem x4_swap {a b : Nat} (ha : a < 16) (hb : b < 16) (hab : a ≠ b) : gQV E fX4_swap [.ref 4, .int (nI a), .int (nI b)] I h (fun I' => gSame [6] I I' ∧ ∀ i w, i < 16 → w < 11 → I' 6 (11 * i + w) = I 6 (11 * (if i = a then b else if i = b then a else i) + w)) := by
  refine gEv.of rfl (Nat.le_refl _) (Nat.le_of_ble_eq_true rfl) (L := [.ref 4, .int (nI a), .int (nI b), .null, .null]) rfl ?_
  refine g_iconst (t := 1) dX4_swap_0 c_iconst_0 rfl ?_
  refine g_istore_n (i := 3) (t := 2) (L1 := [_, _, _, _, _]) dX4_swap_1 rfl (by decide) rfl rfl rfl ?_
  refine x4_swap_loop ha hb hab 11 0 I _ rfl gSame.rf (fun i w _ _ => by simp [swpI]) (fun I' v5 hs hv => ?_)
  exact g_retV dX4_swap_42 rfl ⟨hs, fun i w hi hw => by rw [hv i w hi hw]; simp only [swpI, hw, if_true]⟩
theorem mvI_up {a k i : Nat} (h : a ≤ k) : mvI a k (if i = k then k + 1 else if i = k + 1 then k else i) = mvI a (k + 1) i := by
  by_cases z1 : i = k
  · rw [if_pos z1]
    unfold mvI
    repeat' split
    all_goals omega
  · rw [if_neg z1]
    by_cases z2 : i = k + 1
    · rw [if_pos z2]
      unfold mvI
      repeat' split
      all_goals omega
    · rw [if_neg z2]
      unfold mvI
      repeat' split
      all_goals omega
theorem mvI_down {a k i : Nat} (h : k < a) : mvI a (k + 1) (if i = k + 1 then k else if i = k then k + 1 else i) = mvI a k i := by
  by_cases z1 : i = k + 1
  · rw [if_pos z1]
    unfold mvI
    repeat' split
    all_goals omega
  · rw [if_neg z1]
    by_cases z2 : i = k
    · rw [if_pos z2]
      unfold mvI
      repeat' split
      all_goals omega
    · rw [if_neg z2]
      unfold mvI
      repeat' split
      all_goals omega
theorem x4_carry_up {a b : Nat} (ha : a < 16) (hb : b < 16) {K : gK} {I0 : Nat → Nat → Int32} : ∀ (d k : Nat) (I : Nat → Nat → Int32), k + d = b → a ≤ k → gSame [6] I0 I → (∀ i w, i < 16 → w < 11 → I 6 (11 * i + w) = I0 6 (11 * mvI a k i + w)) →
    (∀ I', gSame [6] I0 I' → (∀ i w, i < 16 → w < 11 → I' 6 (11 * i + w) = I0 6 (11 * mvI a b i + w)) → Wp E fX4_carry (gn h) 21 [.ref 4, .int (nI a), .int (nI b), .int (nI b)] [] (gM I' h) K) →
    Wp E fX4_carry (gn h) 2 [.ref 4, .int (nI a), .int (nI b), .int (nI k)] [] (gM I h) K := by
  intro d
  induction d with
  | zero =>
    intro k I hk hak hs hv kk
    have hk : k = b := by omega
    subst hk
    refine g_iload_n (i := 3) (t := 3) dX4_carry_2 rfl rfl rfl ?_
    refine g_iload_n (i := 2) (t := 4) dX4_carry_3 rfl rfl rfl ?_
    refine g_icmp_ge_n (t1 := 21) (t2 := 7) dX4_carry_4 (by decide) rfl (by omega) (by omega) (fun h4 => ?_) (fun h4 => ?_)
    · exact kk I hs hv
    · exfalso; omega
  | succ d ih =>
    intro k I hk hak hs hv kk
    refine g_iload_n (i := 3) (t := 3) dX4_carry_2 rfl rfl rfl ?_
    refine g_iload_n (i := 2) (t := 4) dX4_carry_3 rfl rfl rfl ?_
    refine g_icmp_ge_n (t1 := 21) (t2 := 7) dX4_carry_4 (by decide) rfl (by omega) (by omega) (fun h4 => ?_) (fun h4 => ?_)
    · exfalso; omega
    · refine g_aload_n (i := 0) (r := 4) (t := 8) dX4_carry_7 rfl rfl (Or.inl l9_4) rfl ?_
      refine g_iload_n (i := 3) (t := 9) dX4_carry_8 rfl rfl rfl ?_
      refine g_iload_n (i := 3) (t := 10) dX4_carry_9 rfl rfl rfl ?_
      refine g_iconst (t := 11) dX4_carry_10 c_iconst_1 rfl ?_
      refine g_iadd (t := 12) dX4_carry_11 rfl ?_
      refine g_top (y := nI (k + 1)) (nI_add _ _) ?_
      refine g_cVv (o := 4) (t := 15) mX4_swap k_X4_54 imX4_swap seX4_swap l6_4 l9_4 s_4 rfl dX4_carry_12 (x4_swap (by omega) (by omega) (by omega)) rfl rfl (by decide) (by decide) (Nat.le_of_ble_eq_true rfl) rfl (Nat.le_refl _) (fun I12 q12 => ?_)
      refine g_iinc (i := 3) (t := 18) (L1 := [_, _, _, _]) dX4_carry_15 rfl (gi_1 _) (by decide) rfl rfl rfl ?_
      obtain ⟨q1, q2⟩ := q12
      refine g_goto (t := 2) dX4_carry_18 (by decide) ?_
      refine ih (k + 1) _ (by omega) (by omega) (hs.trans q1) (fun i w hi hw => ?_) kk
      rw [q2 i w hi hw, hv _ w (by split <;> first | omega | (split <;> omega)) hw]
      rw [mvI_up hak]
theorem x4_carry_down {a b : Nat} (ha : a < 16) (hb : b < 16) {K : gK} {I0 : Nat → Nat → Int32} : ∀ (d k : Nat) (I : Nat → Nat → Int32), k = b + d → k ≤ a → gSame [6] I0 I → (∀ i w, i < 16 → w < 11 → I 6 (11 * i + w) = I0 6 (11 * mvI a k i + w)) →
    (∀ I', gSame [6] I0 I' → (∀ i w, i < 16 → w < 11 → I' 6 (11 * i + w) = I0 6 (11 * mvI a b i + w)) → Wp E fX4_carry (gn h) 42 [.ref 4, .int (nI a), .int (nI b), .int (nI b)] [] (gM I' h) K) →
    Wp E fX4_carry (gn h) 23 [.ref 4, .int (nI a), .int (nI b), .int (nI k)] [] (gM I h) K := by
  intro d
  induction d with
  | zero =>
    intro k I hk hak hs hv kk
    have hk : k = b := by omega
    subst hk
    refine g_iload_n (i := 3) (t := 24) dX4_carry_23 rfl rfl rfl ?_
    refine g_iload_n (i := 2) (t := 25) dX4_carry_24 rfl rfl rfl ?_
    refine g_icmp_le_n (t1 := 42) (t2 := 28) dX4_carry_25 (by decide) rfl (by omega) (by omega) (fun h25 => ?_) (fun h25 => ?_)
    · exact kk I hs hv
    · exfalso; omega
  | succ d ih =>
    intro k I hk hak hs hv kk
    obtain ⟨k, rfl⟩ : ∃ z, k = z + 1 := ⟨k - 1, by omega⟩
    refine g_iload_n (i := 3) (t := 24) dX4_carry_23 rfl rfl rfl ?_
    refine g_iload_n (i := 2) (t := 25) dX4_carry_24 rfl rfl rfl ?_
    refine g_icmp_le_n (t1 := 42) (t2 := 28) dX4_carry_25 (by decide) rfl (by omega) (by omega) (fun h25 => ?_) (fun h25 => ?_)
    · exfalso; omega
    · refine g_aload_n (i := 0) (r := 4) (t := 29) dX4_carry_28 rfl rfl (Or.inl l9_4) rfl ?_
      refine g_iload_n (i := 3) (t := 30) dX4_carry_29 rfl rfl rfl ?_
      refine g_iload_n (i := 3) (t := 31) dX4_carry_30 rfl rfl rfl ?_
      refine g_iconst (t := 32) dX4_carry_31 c_iconst_1 rfl ?_
      refine g_isub (t := 33) dX4_carry_32 rfl ?_
      refine g_top (y := nI k) (by rw [pk_sub (by omega)]; rfl) ?_
      refine g_cVv (o := 4) (t := 36) mX4_swap k_X4_54 imX4_swap seX4_swap l6_4 l9_4 s_4 rfl dX4_carry_33 (x4_swap (by omega) (by omega) (by omega)) rfl rfl (by decide) (by decide) (Nat.le_of_ble_eq_true rfl) rfl (Nat.le_refl _) (fun I33 q33 => ?_)
      refine g_iinc (i := 3) (t := 39) (L1 := [_, _, _, _]) dX4_carry_36 rfl (gi_m1 _) (by decide) rfl rfl rfl ?_
      obtain ⟨q1, q2⟩ := q33
      refine g_goto (t := 23) dX4_carry_39 (by decide) ?_
      refine ih k _ (by omega) (by omega) (hs.trans q1) (fun i w hi hw => ?_) kk
      rw [q2 i w hi hw, hv _ w (by split <;> first | omega | (split <;> omega)) hw]
      rw [mvI_down (by omega)]
theorem mvI_self (a i : Nat) : mvI a a i = i := by
  unfold mvI
  rw [if_pos (Nat.le_refl _)]
  repeat' split
  all_goals omega
theorem x4_carry {a b : Nat} (ha : a < 16) (hb : b < 16) : gQV E fX4_carry [.ref 4, .int (nI a), .int (nI b)] I h (fun I' => gSame [6] I I' ∧ ∀ i w, i < 16 → w < 11 → I' 6 (11 * i + w) = I 6 (11 * mvI a b i + w)) := by
  refine gEv.of rfl (Nat.le_refl _) (Nat.le_of_ble_eq_true rfl) (L := [.ref 4, .int (nI a), .int (nI b), .null]) rfl ?_
  rcases Nat.lt_or_ge a b with hab | hab
  · refine g_iload_n (i := 1) (t := 1) dX4_carry_0 rfl rfl rfl ?_
    refine g_istore_n (i := 3) (t := 2) (L1 := [_, _, _, _]) dX4_carry_1 rfl (by decide) rfl rfl rfl ?_
    refine x4_carry_up ha hb (b - a) a I (by omega) (Nat.le_refl _) gSame.rf (fun i w _ _ => by rw [mvI_self]) (fun I' hs hv => ?_)
    refine g_iload_n (i := 1) (t := 22) dX4_carry_21 rfl rfl rfl ?_
    refine g_istore_n (i := 3) (t := 23) (L1 := [_, _, _, _]) dX4_carry_22 rfl (by decide) rfl rfl rfl ?_
    refine g_iload_n (i := 3) (t := 24) dX4_carry_23 rfl rfl rfl ?_
    refine g_iload_n (i := 2) (t := 25) dX4_carry_24 rfl rfl rfl ?_
    refine g_icmp_le_n (t1 := 42) (t2 := 28) dX4_carry_25 (by decide) rfl (by omega) (by omega) (fun h25 => ?_) (fun h25 => ?_)
    · exact g_retV dX4_carry_42 rfl ⟨hs, hv⟩
    · exfalso; omega
  · refine g_iload_n (i := 1) (t := 1) dX4_carry_0 rfl rfl rfl ?_
    refine g_istore_n (i := 3) (t := 2) (L1 := [_, _, _, _]) dX4_carry_1 rfl (by decide) rfl rfl rfl ?_
    refine g_iload_n (i := 3) (t := 3) dX4_carry_2 rfl rfl rfl ?_
    refine g_iload_n (i := 2) (t := 4) dX4_carry_3 rfl rfl rfl ?_
    refine g_icmp_ge_n (t1 := 21) (t2 := 7) dX4_carry_4 (by decide) rfl (by omega) (by omega) (fun h4 => ?_) (fun h4 => ?_)
    · refine g_iload_n (i := 1) (t := 22) dX4_carry_21 rfl rfl rfl ?_
      refine g_istore_n (i := 3) (t := 23) (L1 := [_, _, _, _]) dX4_carry_22 rfl (by decide) rfl rfl rfl ?_
      refine x4_carry_down ha hb (a - b) a I (by omega) (Nat.le_refl _) gSame.rf (fun i w _ _ => by rw [mvI_self]) (fun I' hs hv => ?_)
      exact g_retV dX4_carry_42 rfl ⟨hs, hv⟩
    · exfalso; omega
theorem x4_append_loop {n : Nat} (hn : n < 16) {K : gK} {I0 : Nat → Nat → Int32} (h4 : I0 4 0 = nI n) : ∀ (d k : Nat) (I : Nat → Nat → Int32), k + d = 10 → gSame [6] I0 I → (∀ i w, i < 16 → w < 11 → I 6 (11 * i + w) = if i = n ∧ w < k then I0 3 w else I0 6 (11 * i + w)) →
    (∀ I', gSame [6] I0 I' → (∀ i w, i < 16 → w < 11 → I' 6 (11 * i + w) = if i = n ∧ w < 10 then I0 3 w else I0 6 (11 * i + w)) → Wp E fX4_append (gn h) 32 [.ref 4, .ref 3, .int (nI 10)] [] (gM I' h) K) →
    Wp E fX4_append (gn h) 2 [.ref 4, .ref 3, .int (nI k)] [] (gM I h) K := by
  intro d
  induction d with
  | zero =>
    intro k I hk hs hv kk
    have hk : k = 10 := by omega
    subst hk
    refine g_iload_n (i := 2) (t := 3) dX4_append_2 rfl rfl rfl ?_
    refine g_bipush (t := 5) dX4_append_3 c_bipush_10 rfl ?_
    refine g_icmp_ge_n (t1 := 32) (t2 := 8) dX4_append_5 (by decide) rfl (by omega) (by omega) (fun h5 => ?_) (fun h5 => ?_)
    · exact kk I hs hv
    · exfalso; omega
  | succ d ih =>
    intro k I hk hs hv kk
    refine g_iload_n (i := 2) (t := 3) dX4_append_2 rfl rfl rfl ?_
    refine g_bipush (t := 5) dX4_append_3 c_bipush_10 rfl ?_
    refine g_icmp_ge_n (t1 := 32) (t2 := 8) dX4_append_5 (by decide) rfl (by omega) (by omega) (fun h5 => ?_) (fun h5 => ?_)
    · exfalso; omega
    · refine g_iload_n (i := 2) (t := 9) dX4_append_8 rfl rfl rfl ?_
      refine g_aload_n (i := 1) (r := 3) (t := 10) dX4_append_9 rfl rfl (Or.inl l9_3) rfl ?_
      refine g_alen (a := 3) (n := 10) (kd := 0) (v := nI 10) (t := 11) l6_3 l9_3 (by decide) s_3 rfl dX4_append_10 rfl ?_
      refine g_icmp_ge_n (t1 := 32) (t2 := 14) dX4_append_11 (by decide) rfl (by omega) (by omega) (fun h11 => ?_) (fun h11 => ?_)
      · exfalso; omega
      · refine g_aload_n (i := 0) (r := 4) (t := 15) dX4_append_14 rfl rfl (Or.inl l9_4) rfl ?_
        refine g_aload_n (i := 0) (r := 4) (t := 16) dX4_append_15 rfl rfl (Or.inl l9_4) rfl ?_
        refine gm_getI (o := 4) (ci := 4) (k := 0) (t := 19) l6_4 l9_4 s_4 gf_X4_27 rfl dX4_append_16 rfl ?_
        rw [hs.at 4 rfl, h4]
        refine g_iload_n (i := 2) (t := 20) dX4_append_19 rfl rfl rfl ?_
        refine g_aload_n (i := 1) (r := 3) (t := 21) dX4_append_20 rfl rfl (Or.inl l9_3) rfl ?_
        refine g_iload_n (i := 2) (t := 22) dX4_append_21 rfl rfl rfl ?_
        refine gm_iald_n (a := 3) (n := 10) (t := 23) l6_3 l9_3 s_3 dX4_append_22 (by omega) (by decide) rfl ?_
        refine g_cVd (o := 4) (t := 26) mX4_put k_X4_50 imX4_put seX4_put l6_4 l9_4 s_4 rfl dX4_append_23 (x4_put (by omega) (by omega)) rfl rfl (by decide) (by decide) (Nat.le_of_ble_eq_true rfl) rfl (Nat.le_refl _) ?_
        refine g_iinc (i := 2) (t := 29) (L1 := [_, _, _]) dX4_append_26 rfl (gi_1 _) (by decide) rfl rfl rfl ?_
        refine g_goto (t := 2) dX4_append_29 (by decide) ?_
        refine ih (k + 1) _ (by omega) (hs.up rfl) (fun i w hi hw => ?_) kk
        rw [gup_at, hv i w hi hw, hs.at 3 rfl]
        have e1 : (11 * i + w = 11 * n + k) ↔ (i = n ∧ w = k) := g_eq11 hw (by omega)
        simp only [e1]
        by_cases q1 : i = n ∧ w = k
        · obtain ⟨rfl, rfl⟩ := q1
          simp
        · rw [if_neg q1]
          by_cases q2 : i = n
          · subst q2
            have : w ≠ k := fun y => q1 ⟨rfl, y⟩
            have : (w < k + 1) ↔ (w < k) := by omega
            simp only [this]
          · simp [q2]
theorem x4_append_end {n : Nat} (hn : n < 16) {I0 : Nat → Nat → Int32} (h4 : I 4 0 = nI n) (hs : gSame [6] I0 I) (hv : ∀ i w, i < 16 → w < 11 → I 6 (11 * i + w) = if i = n ∧ w < 10 then I0 3 w else I0 6 (11 * i + w)) : Wp E fX4_append (gn h) 32 [.ref 4, .ref 3, .int (nI 10)] [] (gM I h) (gRet fX4_append (gn h) (fun r σ' => ∃ I' : Nat → Nat → Int32, r = none ∧ σ' = gM I' h ∧ gSame [4, 6] I0 I' ∧ I' 4 0 = nI (n + 1) ∧ ∀ i w, i < 16 → w < 11 → I' 6 (11 * i + w) = if i = n then (if w < 10 then I0 3 w else 0) else I0 6 (11 * i + w))) := by
  refine g_aload_n (i := 0) (r := 4) (t := 33) dX4_append_32 rfl rfl (Or.inl l9_4) rfl ?_
  refine g_aload_n (i := 0) (r := 4) (t := 34) dX4_append_33 rfl rfl (Or.inl l9_4) rfl ?_
  refine gm_getI (o := 4) (ci := 4) (k := 0) (t := 37) l6_4 l9_4 s_4 gf_X4_27 rfl dX4_append_34 rfl ?_
  rw [h4]
  refine g_bipush (t := 39) dX4_append_37 c_bipush_10 rfl ?_
  refine g_iconst (t := 40) dX4_append_39 c_iconst_0 rfl ?_
  refine g_cVd (o := 4) (t := 43) mX4_put k_X4_50 imX4_put seX4_put l6_4 l9_4 s_4 rfl dX4_append_40 (x4_put (by omega) (by omega)) rfl rfl (by decide) (by decide) (Nat.le_of_ble_eq_true rfl) rfl (Nat.le_refl _) ?_
  refine g_aload_n (i := 0) (r := 4) (t := 44) dX4_append_43 rfl rfl (Or.inl l9_4) rfl ?_
  refine g_dup (t := 45) dX4_append_44 rfl rfl ?_
  refine gm_getI (o := 4) (ci := 4) (k := 0) (t := 48) l6_4 l9_4 s_4 gf_X4_27 rfl dX4_append_45 rfl ?_
  rw [gup_o _ _ _ _ (by decide), h4]
  refine g_iconst (t := 49) dX4_append_48 c_iconst_1 rfl ?_
  refine g_iadd (t := 50) dX4_append_49 rfl ?_
  refine g_top (y := nI (n + 1)) (nI_add _ _) ?_
  refine gm_putI (o := 4) (ci := 4) (k := 0) (t := 53) l6_4 l9_4 s_4 gp_X4_27 rfl rfl rfl dX4_append_50 rfl ?_
  exact g_retV dX4_append_53 rfl (by
    refine ⟨((hs.wk rfl).up rfl).up rfl, gup_self _ _ _ _, fun i w hi hw => ?_⟩
    rw [gup_o _ _ _ _ (by decide), gup_at]
    have e1 : (11 * i + w = 11 * n + 10) ↔ (i = n ∧ w = 10) := g_eq11 hw (by omega)
    simp only [e1]
    by_cases q1 : i = n ∧ w = 10
    · obtain ⟨rfl, rfl⟩ := q1
      simp [nI_0]
    · rw [if_neg q1, hv i w hi hw]
      by_cases q2 : i = n
      · subst q2
        have : w ≠ 10 := fun y => q1 ⟨rfl, y⟩
        have : w < 10 := by omega
        simp [this]
      · simp [q2])
theorem x4_append {n : Nat} (hn : n < 16) (h4 : I 4 0 = nI n) : gQV E fX4_append [.ref 4, .ref 3] I h (fun I' => gSame [4, 6] I I' ∧ I' 4 0 = nI (n + 1) ∧ ∀ i w, i < 16 → w < 11 → I' 6 (11 * i + w) = if i = n then (if w < 10 then I 3 w else 0) else I 6 (11 * i + w)) := by
  refine gEv.of rfl (Nat.le_refl _) (Nat.le_of_ble_eq_true rfl) (L := [.ref 4, .ref 3, .null]) rfl ?_
  refine g_iconst (t := 1) dX4_append_0 c_iconst_0 rfl ?_
  refine g_istore_n (i := 2) (t := 2) (L1 := [_, _, _]) dX4_append_1 rfl (by decide) rfl rfl rfl ?_
  refine x4_append_loop hn h4 10 0 I rfl gSame.rf (fun i w _ _ => by simp) (fun I' hs hv => ?_)
  exact x4_append_end hn (by rw [hs.at 4 rfl]; exact h4) hs hv
end X4

