/-! FlexRows$State -/
section X4
variable {E : gE} {I : Nat → Nat → Int32} {h : Int64}
theorem x4_has_t {n k : Nat} (hn : I 4 0 = nI n) (hk : k < n) (hb : n < 1000) : gPI E fX4_has [.ref 4, .int (nI k)] I h (nI 1) := by
  refine gEv.of rfl (Nat.le_refl _) (Nat.le_of_ble_eq_true rfl) (L := [.ref 4, .int (nI k)]) rfl ?_
  refine g_iload_n (i := 1) (t := 1) dX4_has_0 rfl rfl rfl ?_
  refine g_if_lt (t1 := 16) (t2 := 4) dX4_has_1 (by decide) rfl (fun h1 => ?_) (fun h1 => ?_)
  · exact absurd h1 (by first | decide | exact nI_pos (by omega) | exact nI_ne0 (by omega) (by omega))
  · refine g_iload_n (i := 1) (t := 5) dX4_has_4 rfl rfl rfl ?_
    refine g_aload_n (i := 0) (r := 4) (t := 6) dX4_has_5 rfl rfl (Or.inl l9_4) rfl ?_
    refine gm_getI (o := 4) (ci := 4) (k := 0) (t := 9) l6_4 l9_4 s_4 gf_X4_27 rfl dX4_has_6 rfl ?_
    rw [hn]
    refine g_icmp_ge_n (t1 := 16) (t2 := 12) dX4_has_9 (by decide) rfl (by omega) (by omega) (fun h9 => ?_) (fun h9 => ?_)
    · exfalso; omega
    · refine g_iconst (t := 13) dX4_has_12 c_iconst_1 rfl ?_
      refine g_goto (t := 17) dX4_has_13 (by decide) ?_
      exact g_retP dX4_has_17 rfl (by decide +kernel) (rfl)
theorem x4_has_f {n : Nat} {x : Int32} (hn : I 4 0 = nI n) (hk : x < 0 ∨ nI n ≤ x) : gPI E fX4_has [.ref 4, .int x] I h (nI 0) := by
  refine gEv.of rfl (Nat.le_refl _) (Nat.le_of_ble_eq_true rfl) (L := [.ref 4, .int x]) rfl ?_
  refine g_iload_n (i := 1) (t := 1) dX4_has_0 rfl rfl rfl ?_
  refine g_if_lt (t1 := 16) (t2 := 4) dX4_has_1 (by decide) rfl (fun h1 => ?_) (fun h1 => ?_)
  · refine g_iconst (t := 17) dX4_has_16 c_iconst_0 rfl ?_
    exact g_retP dX4_has_17 rfl (by decide +kernel) (rfl)
  · refine g_iload_n (i := 1) (t := 5) dX4_has_4 rfl rfl rfl ?_
    refine g_aload_n (i := 0) (r := 4) (t := 6) dX4_has_5 rfl rfl (Or.inl l9_4) rfl ?_
    refine gm_getI (o := 4) (ci := 4) (k := 0) (t := 9) l6_4 l9_4 s_4 gf_X4_27 rfl dX4_has_6 rfl ?_
    rw [hn]
    refine g_icmp_ge (t1 := 16) (t2 := 12) dX4_has_9 (by decide) rfl (fun h9 => ?_) (fun h9 => ?_)
    · refine g_iconst (t := 17) dX4_has_16 c_iconst_0 rfl ?_
      exact g_retP dX4_has_17 rfl (by decide +kernel) (rfl)
    · exact absurd (hk.resolve_left h1) h9
theorem x4_number {k : Nat} (hk : k < 7) : gPI E fX4_number [.ref 4, .int (nI k)] I h (I 5 k) := by
  refine gEv.of rfl (Nat.le_refl _) (Nat.le_of_ble_eq_true rfl) (L := [.ref 4, .int (nI k)]) rfl ?_
  refine g_iload_n (i := 1) (t := 1) dX4_number_0 rfl rfl rfl ?_
  refine g_if_lt (t1 := 19) (t2 := 4) dX4_number_1 (by decide) rfl (fun h1 => ?_) (fun h1 => ?_)
  · exact absurd h1 (by first | decide | exact nI_pos (by omega) | exact nI_ne0 (by omega) (by omega))
  · refine g_iload_n (i := 1) (t := 5) dX4_number_4 rfl rfl rfl ?_
    refine g_bipush (t := 7) dX4_number_5 c_bipush_7 rfl ?_
    refine g_icmp_ge_n (t1 := 19) (t2 := 10) dX4_number_7 (by decide) rfl (by omega) (by omega) (fun h7 => ?_) (fun h7 => ?_)
    · exfalso; omega
    · refine g_aload_n (i := 0) (r := 4) (t := 11) dX4_number_10 rfl rfl (Or.inl l9_4) rfl ?_
      refine gm_getR (o := 4) (ci := 4) (k := 1) (r := 5) (t := 14) l6_4 l9_4 s_4 gf_X4_9 rfl r_4_1 l9_5 dX4_number_11 rfl ?_
      refine g_iload_n (i := 1) (t := 15) dX4_number_14 rfl rfl rfl ?_
      refine gm_iald_n (a := 5) (n := 7) (t := 16) l6_5 l9_5 s_5 dX4_number_15 (by omega) (by decide) rfl ?_
      refine g_goto (t := 20) dX4_number_16 (by decide) ?_
      exact g_retP dX4_number_20 rfl rfl (rfl)
theorem x4_property {a b : Nat} (ha : a < 16) (hb : b < 11) : gPI E fX4_property [.ref 4, .int (nI a), .int (nI b)] I h (I 6 (11 * a + b)) := by
  refine gEv.of rfl (Nat.le_refl _) (Nat.le_of_ble_eq_true rfl) (L := [.ref 4, .int (nI a), .int (nI b), .null]) rfl ?_
  refine g_iload_n (i := 1) (t := 1) dX4_property_0 rfl rfl rfl ?_
  refine g_if_lt (t1 := 24) (t2 := 4) dX4_property_1 (by decide) rfl (fun h1 => ?_) (fun h1 => ?_)
  · exact absurd h1 (by first | decide | exact nI_pos (by omega) | exact nI_ne0 (by omega) (by omega))
  · refine g_iload_n (i := 1) (t := 5) dX4_property_4 rfl rfl rfl ?_
    refine g_bipush (t := 7) dX4_property_5 c_bipush_16 rfl ?_
    refine g_icmp_ge_n (t1 := 24) (t2 := 10) dX4_property_7 (by decide) rfl (by omega) (by omega) (fun h7 => ?_) (fun h7 => ?_)
    · exfalso; omega
    · refine g_iload_n (i := 2) (t := 11) dX4_property_10 rfl rfl rfl ?_
      refine g_if_lt (t1 := 24) (t2 := 14) dX4_property_11 (by decide) rfl (fun h11 => ?_) (fun h11 => ?_)
      · exact absurd h11 (by first | decide | exact nI_pos (by omega) | exact nI_ne0 (by omega) (by omega))
      · refine g_iload_n (i := 2) (t := 15) dX4_property_14 rfl rfl rfl ?_
        refine g_bipush (t := 17) dX4_property_15 c_bipush_11 rfl ?_
        refine g_icmp_ge_n (t1 := 24) (t2 := 20) dX4_property_17 (by decide) rfl (by omega) (by omega) (fun h17 => ?_) (fun h17 => ?_)
        · exfalso; omega
        · refine g_iconst (t := 21) dX4_property_20 c_iconst_1 rfl ?_
          refine g_goto (t := 25) dX4_property_21 (by decide) ?_
          refine g_istore_n (i := 3) (t := 26) (L1 := [_, _, _, _]) dX4_property_25 rfl (by decide) rfl rfl rfl ?_
          refine g_iload_n (i := 3) (t := 27) dX4_property_26 rfl rfl rfl ?_
          refine g_if_eq (t1 := 44) (t2 := 30) dX4_property_27 (by decide) rfl (fun h27 => ?_) (fun h27 => ?_)
          · exact absurd h27 (by first | decide | exact nI_pos (by omega) | exact nI_ne0 (by omega) (by omega))
          · refine g_aload_n (i := 0) (r := 4) (t := 31) dX4_property_30 rfl rfl (Or.inl l9_4) rfl ?_
            refine gm_getR (o := 4) (ci := 4) (k := 2) (r := 6) (t := 34) l6_4 l9_4 s_4 gf_X4_15 rfl r_4_2 l9_6 dX4_property_31 rfl ?_
            refine g_iload_n (i := 1) (t := 35) dX4_property_34 rfl rfl rfl ?_
            refine g_bipush (t := 37) dX4_property_35 c_bipush_11 rfl ?_
            refine g_imul (t := 38) dX4_property_37 rfl ?_
            refine g_iload_n (i := 2) (t := 39) dX4_property_38 rfl rfl rfl ?_
            refine g_iadd (t := 40) dX4_property_39 rfl ?_
            refine g_top (y := nI (11 * a + b)) (by rw [pk_mul, nI_add, Nat.mul_comm]) ?_
            refine gm_iald_n (a := 6) (n := 176) (t := 41) l6_6 l9_6 s_6 dX4_property_40 (by omega) (by decide) rfl ?_
            refine g_goto (t := 45) dX4_property_41 (by decide) ?_
            exact g_retP dX4_property_45 rfl rfl (rfl)
end X4

