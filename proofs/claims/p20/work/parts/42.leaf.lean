/-! the law's small methods -/
def lowI (x y : Int32) : Int32 := (x &&& 2147483647) - (x &&& 2147483647) / y * y
theorem and31 (x : Int32) : ∃ a : Nat, a < 2 ^ 31 ∧ x &&& 2147483647 = nI a := by
  refine ⟨(x &&& 2147483647).toBitVec.toNat, ?_, ?_⟩
  · show (x.toBitVec &&& (2147483647 : Int32).toBitVec).toNat < 2 ^ 31
    rw [BitVec.toNat_and]
    exact Nat.lt_of_le_of_lt Nat.and_le_right (by decide +kernel)
  · apply Int32.toBitVec_inj.mp
    show _ = BitVec.ofNat 32 _
    rw [BitVec.ofNat_toNat, BitVec.setWidth_eq]
theorem lowI_lt (x : Int32) {n : Nat} (h0 : 0 < n) (hn : n < 2 ^ 31) : ∃ k, k < n ∧ lowI x (nI n) = nI k := by
  obtain ⟨a, ha, e⟩ := and31 x
  refine ⟨a % n, Nat.mod_lt _ h0, ?_⟩
  unfold lowI
  rw [e, pk_div ha h0 hn, pk_mul, pk_sub (Nat.div_mul_le_self a n)]
  congr 1
  have := Nat.div_add_mod a n
  rw [Nat.mul_comm] at this
  omega
def aP (I : Nat → Nat → Int32) : dP := fun i w => I 41 (12 * i + w)
theorem wsh_cong {P P2 : dP} {i k : Nat} (h0 : P i 0 = P2 k 0) (h3 : P i 3 = P2 k 3) (h4 : P i 4 = P2 k 4) : wsh P i = wsh P2 k := by
  unfold wsh grt
  rw [h0, h3, h4]
def lstV (w : Nat) : Int32 := if w = 6 then -9 else if w = 7 then nI 1 else nI 0
def mstV (w : Nat) : Int32 := if w = 0 ∨ w = 3 ∨ w = 4 then nI 400 else if w = 5 then nI 20 else if w = 7 then nI 100 else if w = 8 then nI 50 else if w = 9 then nI 4 else nI 9
section LEAF
variable {E : gE} {I : Nat → Nat → Int32} {h : gX}
theorem l_low {x y : Int32} (hy : ¬ y = 0) : gPI E fL_low [.int x, .int y] I h (lowI x y) := by
  refine gEv.of rfl (Nat.le_refl _) (Nat.le_of_ble_eq_true rfl) (L := [.int x, .int y]) rfl ?_
  refine g_iload_n (i := 0) (t := 1) dL_low_0 rfl rfl rfl ?_
  refine g_ldcI (v := 2147483647) (t := 3) kci_L_8 dL_low_1 rfl ?_
  refine g_iand (t := 4) dL_low_3 rfl ?_
  refine g_iload_n (i := 1) (t := 5) dL_low_4 rfl rfl rfl ?_
  refine g_irem (t := 6) dL_low_5 hy rfl ?_
  exact g_retP dL_low_6 rfl rfl (rfl)
theorem l_cell {k : Nat} (hk : k < 1000) (hL : E.2.2.2.2.1 ≤ 260) : ∃ v, gPI E fL_cell [.ref 1000, .int (nI k)] I h v := by
  by_cases q : k < E.2.2.2.2.1
  · refine ⟨E.2.2.2.2.2 (nI k).toNatClampNeg, gEv.of rfl (Nat.le_refl _) (Nat.le_of_ble_eq_true rfl) (L := [.ref 1000, .int (nI k)]) rfl ?_⟩
    refine g_iload_n (i := 1) (t := 1) dL_cell_0 rfl rfl rfl ?_
    refine g_aload_n (i := 0) (r := 1000) (t := 2) dL_cell_1 rfl rfl (Or.inr rfl) rfl ?_
    refine g_slen (t := 3) dL_cell_2 rfl ?_
    refine g_icmp_ge_n (t1 := 12) (t2 := 6) dL_cell_3 (by decide) rfl (by omega) (by omega) (fun h3 => ?_) (fun h3 => ?_)
    · exfalso; omega
    · refine g_aload_n (i := 0) (r := 1000) (t := 7) dL_cell_6 rfl rfl (Or.inr rfl) rfl ?_
      refine g_iload_n (i := 1) (t := 8) dL_cell_7 rfl rfl rfl ?_
      refine g_sld (t := 9) (vp_in_nI q (by omega)) dL_cell_8 rfl ?_
      refine g_goto (t := 18) dL_cell_9 (by decide) ?_
      exact g_retP dL_cell_18 rfl rfl (rfl)
  · refine ⟨1013904223 * (nI k + nI 1), gEv.of rfl (Nat.le_refl _) (Nat.le_of_ble_eq_true rfl) (L := [.ref 1000, .int (nI k)]) rfl ?_⟩
    refine g_iload_n (i := 1) (t := 1) dL_cell_0 rfl rfl rfl ?_
    refine g_aload_n (i := 0) (r := 1000) (t := 2) dL_cell_1 rfl rfl (Or.inr rfl) rfl ?_
    refine g_slen (t := 3) dL_cell_2 rfl ?_
    refine g_icmp_ge_n (t1 := 12) (t2 := 6) dL_cell_3 (by decide) rfl (by omega) (by omega) (fun h3 => ?_) (fun h3 => ?_)
    · refine g_ldcI (v := 1013904223) (t := 14) kci_L_7 dL_cell_12 rfl ?_
      refine g_iload_n (i := 1) (t := 15) dL_cell_14 rfl rfl rfl ?_
      refine g_iconst (t := 16) dL_cell_15 c_iconst_1 rfl ?_
      refine g_iadd (t := 17) dL_cell_16 rfl ?_
      refine g_imul (t := 18) dL_cell_17 rfl ?_
      exact g_retP dL_cell_18 rfl rfl (rfl)
    · exfalso; omega
theorem l_least {w : Nat} (hw : w < 10) : gPI E fL_least [.int (nI w)] I h (lstV w) := by
  refine gEv.of rfl (Nat.le_refl _) (Nat.le_of_ble_eq_true rfl) (L := [.int (nI w)]) rfl ?_
  unfold lstV
  refine g_iload_n (i := 0) (t := 1) dL_least_0 rfl rfl rfl ?_
  refine g_bipush (t := 3) dL_least_1 c_bipush_6 rfl ?_
  refine g_icmp_ne_n (t1 := 11) (t2 := 6) dL_least_3 (by decide) rfl (by omega) (by omega) (fun h3 => ?_) (fun h3 => ?_)
  · refine g_iload_n (i := 0) (t := 12) dL_least_11 rfl rfl rfl ?_
    refine g_bipush (t := 14) dL_least_12 c_bipush_7 rfl ?_
    refine g_icmp_ne_n (t1 := 21) (t2 := 17) dL_least_14 (by decide) rfl (by omega) (by omega) (fun h14 => ?_) (fun h14 => ?_)
    · refine g_iconst (t := 22) dL_least_21 c_iconst_0 rfl ?_
      exact g_retP dL_least_22 rfl rfl (by first | (rw [if_pos h3]; done) | (rw [if_neg h3, if_pos h14]; done) | rw [if_neg h3, if_neg h14])
    · refine g_iconst (t := 18) dL_least_17 c_iconst_1 rfl ?_
      refine g_goto (t := 22) dL_least_18 (by decide) ?_
      exact g_retP dL_least_22 rfl rfl (by first | (rw [if_pos h3]; done) | (rw [if_neg h3, if_pos h14]; done) | rw [if_neg h3, if_neg h14])
  · refine g_bipush (t := 8) dL_least_6 c_bipush_m9 rfl ?_
    refine g_goto (t := 22) dL_least_8 (by decide) ?_
    exact g_retP dL_least_22 rfl rfl (by first | (rw [if_pos h3]; done) | (rw [if_neg h3, if_pos h14]; done) | rw [if_neg h3, if_neg h14])
theorem l_most {w : Nat} (hw : w < 10) : gPI E fL_most [.int (nI w)] I h (mstV w) := by
  refine gEv.of rfl (Nat.le_refl _) (Nat.le_of_ble_eq_true rfl) (L := [.int (nI w)]) rfl ?_
  have hz : ∀ k, k < 10 → (nI k = 0 ↔ k = 0) := by decide +kernel
  unfold mstV
  refine g_iload_n (i := 0) (t := 1) dL_most_0 rfl rfl rfl ?_
  refine g_if_eq (t1 := 14) (t2 := 4) dL_most_1 (by decide) rfl (fun h1 => ?_) (fun h1 => ?_)
  · refine g_sipush (t := 17) dL_most_14 c_sipush_400 rfl ?_
    refine g_goto (t := 64) dL_most_17 (by decide) ?_
    exact g_retP dL_most_64 rfl rfl (by
    first
    | (rw [if_pos (by first | exact Or.inl ((hz w hw).mp h1) | exact Or.inr (Or.inl h6) | exact Or.inr (Or.inr h11))]; done)
    | (have h1n : ¬ w = 0 := fun z => h1 ((hz w hw).mpr z)
       rw [if_neg (fun z => z.elim h1n (fun z => z.elim h6 h11))]
       first
       | (rw [if_pos h22]; done)
       | (rw [if_neg h22, if_pos h33]; done)
       | (rw [if_neg h22, if_neg h33, if_pos h44]; done)
       | (rw [if_neg h22, if_neg h33, if_neg h44, if_pos h55]; done)
       | rw [if_neg h22, if_neg h33, if_neg h44, if_neg h55]))
  · refine g_iload_n (i := 0) (t := 5) dL_most_4 rfl rfl rfl ?_
    refine g_iconst (t := 6) dL_most_5 c_iconst_3 rfl ?_
    refine g_icmp_eq_n (t1 := 14) (t2 := 9) dL_most_6 (by decide) rfl (by omega) (by omega) (fun h6 => ?_) (fun h6 => ?_)
    · refine g_sipush (t := 17) dL_most_14 c_sipush_400 rfl ?_
      refine g_goto (t := 64) dL_most_17 (by decide) ?_
      exact g_retP dL_most_64 rfl rfl (by
    first
    | (rw [if_pos (by first | exact Or.inl ((hz w hw).mp h1) | exact Or.inr (Or.inl h6) | exact Or.inr (Or.inr h11))]; done)
    | (have h1n : ¬ w = 0 := fun z => h1 ((hz w hw).mpr z)
       rw [if_neg (fun z => z.elim h1n (fun z => z.elim h6 h11))]
       first
       | (rw [if_pos h22]; done)
       | (rw [if_neg h22, if_pos h33]; done)
       | (rw [if_neg h22, if_neg h33, if_pos h44]; done)
       | (rw [if_neg h22, if_neg h33, if_neg h44, if_pos h55]; done)
       | rw [if_neg h22, if_neg h33, if_neg h44, if_neg h55]))
    · refine g_iload_n (i := 0) (t := 10) dL_most_9 rfl rfl rfl ?_
      refine g_iconst (t := 11) dL_most_10 c_iconst_4 rfl ?_
      refine g_icmp_ne_n (t1 := 20) (t2 := 14) dL_most_11 (by decide) rfl (by omega) (by omega) (fun h11 => ?_) (fun h11 => ?_)
      · refine g_iload_n (i := 0) (t := 21) dL_most_20 rfl rfl rfl ?_
        refine g_iconst (t := 22) dL_most_21 c_iconst_5 rfl ?_
        refine g_icmp_ne_n (t1 := 30) (t2 := 25) dL_most_22 (by decide) rfl (by omega) (by omega) (fun h22 => ?_) (fun h22 => ?_)
        · refine g_iload_n (i := 0) (t := 31) dL_most_30 rfl rfl rfl ?_
          refine g_bipush (t := 33) dL_most_31 c_bipush_7 rfl ?_
          refine g_icmp_ne_n (t1 := 41) (t2 := 36) dL_most_33 (by decide) rfl (by omega) (by omega) (fun h33 => ?_) (fun h33 => ?_)
          · refine g_iload_n (i := 0) (t := 42) dL_most_41 rfl rfl rfl ?_
            refine g_bipush (t := 44) dL_most_42 c_bipush_8 rfl ?_
            refine g_icmp_ne_n (t1 := 52) (t2 := 47) dL_most_44 (by decide) rfl (by omega) (by omega) (fun h44 => ?_) (fun h44 => ?_)
            · refine g_iload_n (i := 0) (t := 53) dL_most_52 rfl rfl rfl ?_
              refine g_bipush (t := 55) dL_most_53 c_bipush_9 rfl ?_
              refine g_icmp_ne_n (t1 := 62) (t2 := 58) dL_most_55 (by decide) rfl (by omega) (by omega) (fun h55 => ?_) (fun h55 => ?_)
              · refine g_bipush (t := 64) dL_most_62 c_bipush_9 rfl ?_
                exact g_retP dL_most_64 rfl rfl (by
    first
    | (rw [if_pos (by first | exact Or.inl ((hz w hw).mp h1) | exact Or.inr (Or.inl h6) | exact Or.inr (Or.inr h11))]; done)
    | (have h1n : ¬ w = 0 := fun z => h1 ((hz w hw).mpr z)
       rw [if_neg (fun z => z.elim h1n (fun z => z.elim h6 h11))]
       first
       | (rw [if_pos h22]; done)
       | (rw [if_neg h22, if_pos h33]; done)
       | (rw [if_neg h22, if_neg h33, if_pos h44]; done)
       | (rw [if_neg h22, if_neg h33, if_neg h44, if_pos h55]; done)
       | rw [if_neg h22, if_neg h33, if_neg h44, if_neg h55]))
              · refine g_iconst (t := 59) dL_most_58 c_iconst_4 rfl ?_
                refine g_goto (t := 64) dL_most_59 (by decide) ?_
                exact g_retP dL_most_64 rfl rfl (by
    first
    | (rw [if_pos (by first | exact Or.inl ((hz w hw).mp h1) | exact Or.inr (Or.inl h6) | exact Or.inr (Or.inr h11))]; done)
    | (have h1n : ¬ w = 0 := fun z => h1 ((hz w hw).mpr z)
       rw [if_neg (fun z => z.elim h1n (fun z => z.elim h6 h11))]
       first
       | (rw [if_pos h22]; done)
       | (rw [if_neg h22, if_pos h33]; done)
       | (rw [if_neg h22, if_neg h33, if_pos h44]; done)
       | (rw [if_neg h22, if_neg h33, if_neg h44, if_pos h55]; done)
       | rw [if_neg h22, if_neg h33, if_neg h44, if_neg h55]))
            · refine g_bipush (t := 49) dL_most_47 c_bipush_50 rfl ?_
              refine g_goto (t := 64) dL_most_49 (by decide) ?_
              exact g_retP dL_most_64 rfl rfl (by
    first
    | (rw [if_pos (by first | exact Or.inl ((hz w hw).mp h1) | exact Or.inr (Or.inl h6) | exact Or.inr (Or.inr h11))]; done)
    | (have h1n : ¬ w = 0 := fun z => h1 ((hz w hw).mpr z)
       rw [if_neg (fun z => z.elim h1n (fun z => z.elim h6 h11))]
       first
       | (rw [if_pos h22]; done)
       | (rw [if_neg h22, if_pos h33]; done)
       | (rw [if_neg h22, if_neg h33, if_pos h44]; done)
       | (rw [if_neg h22, if_neg h33, if_neg h44, if_pos h55]; done)
       | rw [if_neg h22, if_neg h33, if_neg h44, if_neg h55]))
          · refine g_bipush (t := 38) dL_most_36 c_bipush_100 rfl ?_
            refine g_goto (t := 64) dL_most_38 (by decide) ?_
            exact g_retP dL_most_64 rfl rfl (by
    first
    | (rw [if_pos (by first | exact Or.inl ((hz w hw).mp h1) | exact Or.inr (Or.inl h6) | exact Or.inr (Or.inr h11))]; done)
    | (have h1n : ¬ w = 0 := fun z => h1 ((hz w hw).mpr z)
       rw [if_neg (fun z => z.elim h1n (fun z => z.elim h6 h11))]
       first
       | (rw [if_pos h22]; done)
       | (rw [if_neg h22, if_pos h33]; done)
       | (rw [if_neg h22, if_neg h33, if_pos h44]; done)
       | (rw [if_neg h22, if_neg h33, if_neg h44, if_pos h55]; done)
       | rw [if_neg h22, if_neg h33, if_neg h44, if_neg h55]))
        · refine g_bipush (t := 27) dL_most_25 c_bipush_20 rfl ?_
          refine g_goto (t := 64) dL_most_27 (by decide) ?_
          exact g_retP dL_most_64 rfl rfl (by
    first
    | (rw [if_pos (by first | exact Or.inl ((hz w hw).mp h1) | exact Or.inr (Or.inl h6) | exact Or.inr (Or.inr h11))]; done)
    | (have h1n : ¬ w = 0 := fun z => h1 ((hz w hw).mpr z)
       rw [if_neg (fun z => z.elim h1n (fun z => z.elim h6 h11))]
       first
       | (rw [if_pos h22]; done)
       | (rw [if_neg h22, if_pos h33]; done)
       | (rw [if_neg h22, if_neg h33, if_pos h44]; done)
       | (rw [if_neg h22, if_neg h33, if_neg h44, if_pos h55]; done)
       | rw [if_neg h22, if_neg h33, if_neg h44, if_neg h55]))
      · refine g_sipush (t := 17) dL_most_14 c_sipush_400 rfl ?_
        refine g_goto (t := 64) dL_most_17 (by decide) ?_
        exact g_retP dL_most_64 rfl rfl (by
    first
    | (rw [if_pos (by first | exact Or.inl ((hz w hw).mp h1) | exact Or.inr (Or.inl h6) | exact Or.inr (Or.inr h11))]; done)
    | (have h1n : ¬ w = 0 := fun z => h1 ((hz w hw).mpr z)
       rw [if_neg (fun z => z.elim h1n (fun z => z.elim h6 h11))]
       first
       | (rw [if_pos h22]; done)
       | (rw [if_neg h22, if_pos h33]; done)
       | (rw [if_neg h22, if_neg h33, if_pos h44]; done)
       | (rw [if_neg h22, if_neg h33, if_neg h44, if_pos h55]; done)
       | rw [if_neg h22, if_neg h33, if_neg h44, if_neg h55]))
theorem l_wish {k : Nat} (hk : k < 5) : gPI E fL_wish [.ref 41, .int (nI k)] I h (wsh (aP I) k) := by
  refine gEv.of rfl (Nat.le_refl _) (Nat.le_of_ble_eq_true rfl) (L := [.ref 41, .int (nI k), .null]) rfl ?_
  have e : wsh (aP I) k = mn (mx (I 41 (12 * k)) (I 41 (12 * k + 3))) (mx (I 41 (12 * k + 3)) (I 41 (12 * k + 4))) := rfl
  refine g_aload_n (i := 0) (r := 41) (t := 1) dL_wish_0 rfl rfl (Or.inl l9_41) rfl ?_
  refine g_bipush (t := 3) dL_wish_1 c_bipush_12 rfl ?_
  refine g_iload_n (i := 1) (t := 4) dL_wish_3 rfl rfl rfl ?_
  refine g_imul (t := 5) dL_wish_4 rfl ?_
  refine g_iconst (t := 6) dL_wish_5 c_iconst_4 rfl ?_
  refine g_iadd (t := 7) dL_wish_6 rfl ?_
  refine gm_iald_x (a := 41) (n := 64) (t := 8) l6_41 l9_41 s_41 dL_wish_7 (ix_ma _ _ _) (by omega) (by decide) rfl ?_
  refine g_aload_n (i := 0) (r := 41) (t := 9) dL_wish_8 rfl rfl (Or.inl l9_41) rfl ?_
  refine g_bipush (t := 11) dL_wish_9 c_bipush_12 rfl ?_
  refine g_iload_n (i := 1) (t := 12) dL_wish_11 rfl rfl rfl ?_
  refine g_imul (t := 13) dL_wish_12 rfl ?_
  refine g_iconst (t := 14) dL_wish_13 c_iconst_3 rfl ?_
  refine g_iadd (t := 15) dL_wish_14 rfl ?_
  refine gm_iald_x (a := 41) (n := 64) (t := 16) l6_41 l9_41 s_41 dL_wish_15 (ix_ma _ _ _) (by omega) (by decide) rfl ?_
  refine g_icmp_ge (t1 := 30) (t2 := 19) dL_wish_16 (by decide) rfl (fun h16 => ?_) (fun h16 => ?_)
  · refine g_aload_n (i := 0) (r := 41) (t := 31) dL_wish_30 rfl rfl (Or.inl l9_41) rfl ?_
    refine g_bipush (t := 33) dL_wish_31 c_bipush_12 rfl ?_
    refine g_iload_n (i := 1) (t := 34) dL_wish_33 rfl rfl rfl ?_
    refine g_imul (t := 35) dL_wish_34 rfl ?_
    refine g_iconst (t := 36) dL_wish_35 c_iconst_4 rfl ?_
    refine g_iadd (t := 37) dL_wish_36 rfl ?_
    refine gm_iald_x (a := 41) (n := 64) (t := 38) l6_41 l9_41 s_41 dL_wish_37 (ix_ma _ _ _) (by omega) (by decide) rfl ?_
    refine g_istore_n (i := 2) (t := 39) (L1 := [_, _, _]) dL_wish_38 rfl (by decide) rfl rfl rfl ?_
    refine g_aload_n (i := 0) (r := 41) (t := 40) dL_wish_39 rfl rfl (Or.inl l9_41) rfl ?_
    refine g_bipush (t := 42) dL_wish_40 c_bipush_12 rfl ?_
    refine g_iload_n (i := 1) (t := 43) dL_wish_42 rfl rfl rfl ?_
    refine g_imul (t := 44) dL_wish_43 rfl ?_
    refine gm_iald_x (a := 41) (n := 64) (t := 45) l6_41 l9_41 s_41 dL_wish_44 (ix_m _ _) (by omega) (by decide) rfl ?_
    refine g_aload_n (i := 0) (r := 41) (t := 46) dL_wish_45 rfl rfl (Or.inl l9_41) rfl ?_
    refine g_bipush (t := 48) dL_wish_46 c_bipush_12 rfl ?_
    refine g_iload_n (i := 1) (t := 49) dL_wish_48 rfl rfl rfl ?_
    refine g_imul (t := 50) dL_wish_49 rfl ?_
    refine g_iconst (t := 51) dL_wish_50 c_iconst_3 rfl ?_
    refine g_iadd (t := 52) dL_wish_51 rfl ?_
    refine gm_iald_x (a := 41) (n := 64) (t := 53) l6_41 l9_41 s_41 dL_wish_52 (ix_ma _ _ _) (by omega) (by decide) rfl ?_
    refine g_icmp_ge (t1 := 67) (t2 := 56) dL_wish_53 (by decide) rfl (fun h53 => ?_) (fun h53 => ?_)
    · refine g_aload_n (i := 0) (r := 41) (t := 68) dL_wish_67 rfl rfl (Or.inl l9_41) rfl ?_
      refine g_bipush (t := 70) dL_wish_68 c_bipush_12 rfl ?_
      refine g_iload_n (i := 1) (t := 71) dL_wish_70 rfl rfl rfl ?_
      refine g_imul (t := 72) dL_wish_71 rfl ?_
      refine gm_iald_x (a := 41) (n := 64) (t := 73) l6_41 l9_41 s_41 dL_wish_72 (ix_m _ _) (by omega) (by decide) rfl ?_
      refine g_iload_n (i := 2) (t := 74) dL_wish_73 rfl rfl rfl ?_
      refine g_icmp_le (t1 := 81) (t2 := 77) dL_wish_74 (by decide) rfl (fun h74 => ?_) (fun h74 => ?_)
      · refine g_aload_n (i := 0) (r := 41) (t := 82) dL_wish_81 rfl rfl (Or.inl l9_41) rfl ?_
        refine g_bipush (t := 84) dL_wish_82 c_bipush_12 rfl ?_
        refine g_iload_n (i := 1) (t := 85) dL_wish_84 rfl rfl rfl ?_
        refine g_imul (t := 86) dL_wish_85 rfl ?_
        refine gm_iald_x (a := 41) (n := 64) (t := 87) l6_41 l9_41 s_41 dL_wish_86 (ix_m _ _) (by omega) (by decide) rfl ?_
        exact g_retP dL_wish_87 rfl rfl (by
    rw [e, t_eq, mn_toInt, mx_toInt, mx_toInt]
    (try rw [t_le] at h16)
    (try rw [t_le] at h53)
    (try rw [t_le] at h74)
    (try rw [t_lt] at h16)
    (try rw [t_lt] at h53)
    (try rw [t_lt] at h74)
    omega)
      · refine g_iload_n (i := 2) (t := 78) dL_wish_77 rfl rfl rfl ?_
        refine g_goto (t := 87) dL_wish_78 (by decide) ?_
        exact g_retP dL_wish_87 rfl rfl (by
    rw [e, t_eq, mn_toInt, mx_toInt, mx_toInt]
    (try rw [t_le] at h16)
    (try rw [t_le] at h53)
    (try rw [t_le] at h74)
    (try rw [t_lt] at h16)
    (try rw [t_lt] at h53)
    (try rw [t_lt] at h74)
    omega)
    · refine g_aload_n (i := 0) (r := 41) (t := 57) dL_wish_56 rfl rfl (Or.inl l9_41) rfl ?_
      refine g_bipush (t := 59) dL_wish_57 c_bipush_12 rfl ?_
      refine g_iload_n (i := 1) (t := 60) dL_wish_59 rfl rfl rfl ?_
      refine g_imul (t := 61) dL_wish_60 rfl ?_
      refine g_iconst (t := 62) dL_wish_61 c_iconst_3 rfl ?_
      refine g_iadd (t := 63) dL_wish_62 rfl ?_
      refine gm_iald_x (a := 41) (n := 64) (t := 64) l6_41 l9_41 s_41 dL_wish_63 (ix_ma _ _ _) (by omega) (by decide) rfl ?_
      refine g_goto (t := 87) dL_wish_64 (by decide) ?_
      exact g_retP dL_wish_87 rfl rfl (by
    rw [e, t_eq, mn_toInt, mx_toInt, mx_toInt]
    (try rw [t_le] at h16)
    (try rw [t_le] at h53)
    (try rw [t_le] at h74)
    (try rw [t_lt] at h16)
    (try rw [t_lt] at h53)
    (try rw [t_lt] at h74)
    omega)
  · refine g_aload_n (i := 0) (r := 41) (t := 20) dL_wish_19 rfl rfl (Or.inl l9_41) rfl ?_
    refine g_bipush (t := 22) dL_wish_20 c_bipush_12 rfl ?_
    refine g_iload_n (i := 1) (t := 23) dL_wish_22 rfl rfl rfl ?_
    refine g_imul (t := 24) dL_wish_23 rfl ?_
    refine g_iconst (t := 25) dL_wish_24 c_iconst_3 rfl ?_
    refine g_iadd (t := 26) dL_wish_25 rfl ?_
    refine gm_iald_x (a := 41) (n := 64) (t := 27) l6_41 l9_41 s_41 dL_wish_26 (ix_ma _ _ _) (by omega) (by decide) rfl ?_
    refine g_goto (t := 38) dL_wish_27 (by decide) ?_
    refine g_istore_n (i := 2) (t := 39) (L1 := [_, _, _]) dL_wish_38 rfl (by decide) rfl rfl rfl ?_
    refine g_aload_n (i := 0) (r := 41) (t := 40) dL_wish_39 rfl rfl (Or.inl l9_41) rfl ?_
    refine g_bipush (t := 42) dL_wish_40 c_bipush_12 rfl ?_
    refine g_iload_n (i := 1) (t := 43) dL_wish_42 rfl rfl rfl ?_
    refine g_imul (t := 44) dL_wish_43 rfl ?_
    refine gm_iald_x (a := 41) (n := 64) (t := 45) l6_41 l9_41 s_41 dL_wish_44 (ix_m _ _) (by omega) (by decide) rfl ?_
    refine g_aload_n (i := 0) (r := 41) (t := 46) dL_wish_45 rfl rfl (Or.inl l9_41) rfl ?_
    refine g_bipush (t := 48) dL_wish_46 c_bipush_12 rfl ?_
    refine g_iload_n (i := 1) (t := 49) dL_wish_48 rfl rfl rfl ?_
    refine g_imul (t := 50) dL_wish_49 rfl ?_
    refine g_iconst (t := 51) dL_wish_50 c_iconst_3 rfl ?_
    refine g_iadd (t := 52) dL_wish_51 rfl ?_
    refine gm_iald_x (a := 41) (n := 64) (t := 53) l6_41 l9_41 s_41 dL_wish_52 (ix_ma _ _ _) (by omega) (by decide) rfl ?_
    refine g_icmp_ge (t1 := 67) (t2 := 56) dL_wish_53 (by decide) rfl (fun h53 => ?_) (fun h53 => ?_)
    · refine g_aload_n (i := 0) (r := 41) (t := 68) dL_wish_67 rfl rfl (Or.inl l9_41) rfl ?_
      refine g_bipush (t := 70) dL_wish_68 c_bipush_12 rfl ?_
      refine g_iload_n (i := 1) (t := 71) dL_wish_70 rfl rfl rfl ?_
      refine g_imul (t := 72) dL_wish_71 rfl ?_
      refine gm_iald_x (a := 41) (n := 64) (t := 73) l6_41 l9_41 s_41 dL_wish_72 (ix_m _ _) (by omega) (by decide) rfl ?_
      refine g_iload_n (i := 2) (t := 74) dL_wish_73 rfl rfl rfl ?_
      refine g_icmp_le (t1 := 81) (t2 := 77) dL_wish_74 (by decide) rfl (fun h74 => ?_) (fun h74 => ?_)
      · refine g_aload_n (i := 0) (r := 41) (t := 82) dL_wish_81 rfl rfl (Or.inl l9_41) rfl ?_
        refine g_bipush (t := 84) dL_wish_82 c_bipush_12 rfl ?_
        refine g_iload_n (i := 1) (t := 85) dL_wish_84 rfl rfl rfl ?_
        refine g_imul (t := 86) dL_wish_85 rfl ?_
        refine gm_iald_x (a := 41) (n := 64) (t := 87) l6_41 l9_41 s_41 dL_wish_86 (ix_m _ _) (by omega) (by decide) rfl ?_
        exact g_retP dL_wish_87 rfl rfl (by
    rw [e, t_eq, mn_toInt, mx_toInt, mx_toInt]
    (try rw [t_le] at h16)
    (try rw [t_le] at h53)
    (try rw [t_le] at h74)
    (try rw [t_lt] at h16)
    (try rw [t_lt] at h53)
    (try rw [t_lt] at h74)
    omega)
      · refine g_iload_n (i := 2) (t := 78) dL_wish_77 rfl rfl rfl ?_
        refine g_goto (t := 87) dL_wish_78 (by decide) ?_
        exact g_retP dL_wish_87 rfl rfl (by
    rw [e, t_eq, mn_toInt, mx_toInt, mx_toInt]
    (try rw [t_le] at h16)
    (try rw [t_le] at h53)
    (try rw [t_le] at h74)
    (try rw [t_lt] at h16)
    (try rw [t_lt] at h53)
    (try rw [t_lt] at h74)
    omega)
    · refine g_aload_n (i := 0) (r := 41) (t := 57) dL_wish_56 rfl rfl (Or.inl l9_41) rfl ?_
      refine g_bipush (t := 59) dL_wish_57 c_bipush_12 rfl ?_
      refine g_iload_n (i := 1) (t := 60) dL_wish_59 rfl rfl rfl ?_
      refine g_imul (t := 61) dL_wish_60 rfl ?_
      refine g_iconst (t := 62) dL_wish_61 c_iconst_3 rfl ?_
      refine g_iadd (t := 63) dL_wish_62 rfl ?_
      refine gm_iald_x (a := 41) (n := 64) (t := 64) l6_41 l9_41 s_41 dL_wish_63 (ix_ma _ _ _) (by omega) (by decide) rfl ?_
      refine g_goto (t := 87) dL_wish_64 (by decide) ?_
      exact g_retP dL_wish_87 rfl rfl (by
    rw [e, t_eq, mn_toInt, mx_toInt, mx_toInt]
    (try rw [t_le] at h16)
    (try rw [t_le] at h53)
    (try rw [t_le] at h74)
    (try rw [t_lt] at h16)
    (try rw [t_lt] at h53)
    (try rw [t_lt] at h74)
    omega)
theorem l_value {w : Nat} {x : Int32} (hw : w < 10) : gQI E fL_value [.int (nI w), .int x] I h (fun v I' => I' = I ∧ bnd v (lov w) (hiv w)) := by
  have hne : ¬ mstV w - lstV w + nI 1 = 0 := (show ∀ w, w < 10 → ¬ mstV w - lstV w + nI 1 = 0 by decide +kernel) w hw
  refine gEv.of rfl (Nat.le_refl _) (Nat.le_of_ble_eq_true rfl) (L := [.int (nI w), .int x]) rfl ?_
  refine g_iload_n (i := 0) (t := 1) dL_value_0 rfl rfl rfl ?_
  refine g_sw7 (l := 0) (td := 123) (t0 := 44) (t1 := 123) (t2 := 123) (t3 := 68) (t4 := 89) (t5 := 123) (t6 := 113) (by decide) dL_value_1 rfl rfl (by decide) (by decide) (by decide) (by decide) (by decide) (by decide) (by decide) (by decide) (fun h1_0 => ?_) (fun h1_1 => ?_) (fun h1_2 => ?_) (fun h1_3 => ?_) (fun h1_4 => ?_) (fun h1_5 => ?_) (fun h1_6 => ?_) (fun h1_d => ?_)
  · refine g_iload_n (i := 1) (t := 45) dL_value_44 rfl rfl rfl ?_
    refine g_iload_n (i := 1) (t := 46) dL_value_45 rfl rfl rfl ?_
    refine g_bipush (t := 48) dL_value_46 c_bipush_9 rfl ?_
    refine g_ishr (t := 49) dL_value_48 rfl ?_
    refine g_iconst (t := 50) dL_value_49 c_iconst_4 rfl ?_
    refine g_cSp (t := 53) mL_low k_L_35 smL_low dL_value_50 (l_low (by decide)) rfl rfl (by decide) (by decide) (Nat.le_of_ble_eq_true rfl) rfl (Nat.le_refl _) ?_
    refine g_if_ne (t1 := 62) (t2 := 56) dL_value_53 (by decide) rfl (fun h53 => ?_) (fun h53 => ?_)
    · refine g_bipush (t := 64) dL_value_62 c_bipush_120 rfl ?_
      refine g_cSp (t := 67) mL_low k_L_35 smL_low dL_value_64 (l_low (by decide)) rfl rfl (by decide) (by decide) (Nat.le_of_ble_eq_true rfl) rfl (Nat.le_refl _) ?_
      exact g_retI dL_value_67 rfl rfl (by
    have h0 : w = 0 := (nI_eq (by omega) (by decide)).mp h1_0
    subst h0
    refine ⟨rfl, ?_⟩
    first
    | (obtain ⟨k, hk, e⟩ := lowI_lt x (n := 401) (by decide) (by decide); rw [e]; exact b_nI (by omega) (by show (0 : Int) ≤ _; omega) (by show _ ≤ (400 : Int); omega))
    | (obtain ⟨k, hk, e⟩ := lowI_lt x (n := 120) (by decide) (by decide); rw [e]; exact b_nI (by omega) (by show (0 : Int) ≤ _; omega) (by show _ ≤ (400 : Int); omega)))
    · refine g_sipush (t := 59) dL_value_56 c_sipush_401 rfl ?_
      refine g_goto (t := 64) dL_value_59 (by decide) ?_
      refine g_cSp (t := 67) mL_low k_L_35 smL_low dL_value_64 (l_low (by decide)) rfl rfl (by decide) (by decide) (Nat.le_of_ble_eq_true rfl) rfl (Nat.le_refl _) ?_
      exact g_retI dL_value_67 rfl rfl (by
    have h0 : w = 0 := (nI_eq (by omega) (by decide)).mp h1_0
    subst h0
    refine ⟨rfl, ?_⟩
    first
    | (obtain ⟨k, hk, e⟩ := lowI_lt x (n := 401) (by decide) (by decide); rw [e]; exact b_nI (by omega) (by show (0 : Int) ≤ _; omega) (by show _ ≤ (400 : Int); omega))
    | (obtain ⟨k, hk, e⟩ := lowI_lt x (n := 120) (by decide) (by decide); rw [e]; exact b_nI (by omega) (by show (0 : Int) ≤ _; omega) (by show _ ≤ (400 : Int); omega)))
  · refine g_iload_n (i := 0) (t := 124) dL_value_123 rfl rfl rfl ?_
    refine g_cSp (t := 127) mL_least k_L_41 smL_least dL_value_124 (l_least (by omega)) rfl rfl (by decide) (by decide) (Nat.le_of_ble_eq_true rfl) rfl (Nat.le_refl _) ?_
    refine g_iload_n (i := 1) (t := 128) dL_value_127 rfl rfl rfl ?_
    refine g_iload_n (i := 0) (t := 129) dL_value_128 rfl rfl rfl ?_
    refine g_cSp (t := 132) mL_most k_L_44 smL_most dL_value_129 (l_most (by omega)) rfl rfl (by decide) (by decide) (Nat.le_of_ble_eq_true rfl) rfl (Nat.le_refl _) ?_
    refine g_iload_n (i := 0) (t := 133) dL_value_132 rfl rfl rfl ?_
    refine g_cSp (t := 136) mL_least k_L_41 smL_least dL_value_133 (l_least (by omega)) rfl rfl (by decide) (by decide) (Nat.le_of_ble_eq_true rfl) rfl (Nat.le_refl _) ?_
    refine g_isub (t := 137) dL_value_136 rfl ?_
    refine g_iconst (t := 138) dL_value_137 c_iconst_1 rfl ?_
    refine g_iadd (t := 139) dL_value_138 rfl ?_
    refine g_cSp (t := 142) mL_low k_L_35 smL_low dL_value_139 (l_low hne) rfl rfl (by decide) (by decide) (Nat.le_of_ble_eq_true rfl) rfl (Nat.le_refl _) ?_
    refine g_iadd (t := 143) dL_value_142 rfl ?_
    exact g_retI dL_value_143 rfl rfl (by
    refine ⟨rfl, ?_⟩
    have hn := (show ∀ w, w < 10 → ∃ n, n < 402 ∧ 0 < n ∧ mstV w - lstV w + nI 1 = nI n ∧ (lstV w).toInt = lov w ∧ lov w + n - 1 = hiv w by
      intro w hw
      refine ⟨(mstV w - lstV w + nI 1).toNatClampNeg, ?_⟩
      exact (show ∀ w, w < 10 → (mstV w - lstV w + nI 1).toNatClampNeg < 402 ∧ 0 < (mstV w - lstV w + nI 1).toNatClampNeg ∧ mstV w - lstV w + nI 1 = nI (mstV w - lstV w + nI 1).toNatClampNeg ∧ (lstV w).toInt = lov w ∧ lov w + (mstV w - lstV w + nI 1).toNatClampNeg - 1 = hiv w by decide +kernel) w hw) w hw
    obtain ⟨n, n1, n2, n3, n4, n5⟩ := hn
    rw [n3]
    obtain ⟨k, hk, e⟩ := lowI_lt x (n := n) n2 (by omega)
    rw [e]
    have hb := (show ∀ w, w < 10 → -9 ≤ lov w ∧ lov w ≤ 1 by decide) w hw
    have := t_add (x := lstV w) (y := nI k) (by rw [n4, nI_toInt (by omega)]; omega) (by rw [n4, nI_toInt (by omega)]; omega)
    rw [n4, nI_toInt (by omega)] at this
    unfold bnd
    omega)
  · refine g_iload_n (i := 0) (t := 124) dL_value_123 rfl rfl rfl ?_
    refine g_cSp (t := 127) mL_least k_L_41 smL_least dL_value_124 (l_least (by omega)) rfl rfl (by decide) (by decide) (Nat.le_of_ble_eq_true rfl) rfl (Nat.le_refl _) ?_
    refine g_iload_n (i := 1) (t := 128) dL_value_127 rfl rfl rfl ?_
    refine g_iload_n (i := 0) (t := 129) dL_value_128 rfl rfl rfl ?_
    refine g_cSp (t := 132) mL_most k_L_44 smL_most dL_value_129 (l_most (by omega)) rfl rfl (by decide) (by decide) (Nat.le_of_ble_eq_true rfl) rfl (Nat.le_refl _) ?_
    refine g_iload_n (i := 0) (t := 133) dL_value_132 rfl rfl rfl ?_
    refine g_cSp (t := 136) mL_least k_L_41 smL_least dL_value_133 (l_least (by omega)) rfl rfl (by decide) (by decide) (Nat.le_of_ble_eq_true rfl) rfl (Nat.le_refl _) ?_
    refine g_isub (t := 137) dL_value_136 rfl ?_
    refine g_iconst (t := 138) dL_value_137 c_iconst_1 rfl ?_
    refine g_iadd (t := 139) dL_value_138 rfl ?_
    refine g_cSp (t := 142) mL_low k_L_35 smL_low dL_value_139 (l_low hne) rfl rfl (by decide) (by decide) (Nat.le_of_ble_eq_true rfl) rfl (Nat.le_refl _) ?_
    refine g_iadd (t := 143) dL_value_142 rfl ?_
    exact g_retI dL_value_143 rfl rfl (by
    refine ⟨rfl, ?_⟩
    have hn := (show ∀ w, w < 10 → ∃ n, n < 402 ∧ 0 < n ∧ mstV w - lstV w + nI 1 = nI n ∧ (lstV w).toInt = lov w ∧ lov w + n - 1 = hiv w by
      intro w hw
      refine ⟨(mstV w - lstV w + nI 1).toNatClampNeg, ?_⟩
      exact (show ∀ w, w < 10 → (mstV w - lstV w + nI 1).toNatClampNeg < 402 ∧ 0 < (mstV w - lstV w + nI 1).toNatClampNeg ∧ mstV w - lstV w + nI 1 = nI (mstV w - lstV w + nI 1).toNatClampNeg ∧ (lstV w).toInt = lov w ∧ lov w + (mstV w - lstV w + nI 1).toNatClampNeg - 1 = hiv w by decide +kernel) w hw) w hw
    obtain ⟨n, n1, n2, n3, n4, n5⟩ := hn
    rw [n3]
    obtain ⟨k, hk, e⟩ := lowI_lt x (n := n) n2 (by omega)
    rw [e]
    have hb := (show ∀ w, w < 10 → -9 ≤ lov w ∧ lov w ≤ 1 by decide) w hw
    have := t_add (x := lstV w) (y := nI k) (by rw [n4, nI_toInt (by omega)]; omega) (by rw [n4, nI_toInt (by omega)]; omega)
    rw [n4, nI_toInt (by omega)] at this
    unfold bnd
    omega)
  · refine g_iload_n (i := 1) (t := 69) dL_value_68 rfl rfl rfl ?_
    refine g_iconst (t := 70) dL_value_69 c_iconst_3 rfl ?_
    refine g_ishr (t := 71) dL_value_70 rfl ?_
    refine g_iconst (t := 72) dL_value_71 c_iconst_3 rfl ?_
    refine g_cSp (t := 75) mL_low k_L_35 smL_low dL_value_72 (l_low (by decide)) rfl rfl (by decide) (by decide) (Nat.le_of_ble_eq_true rfl) rfl (Nat.le_refl _) ?_
    refine g_if_ne (t1 := 87) (t2 := 78) dL_value_75 (by decide) rfl (fun h75 => ?_) (fun h75 => ?_)
    · refine g_iconst (t := 88) dL_value_87 c_iconst_0 rfl ?_
      exact g_retI dL_value_88 rfl rfl (by
    have h0 : w = 3 := (nI_eq (by omega) (by decide)).mp h1_3
    subst h0
    refine ⟨rfl, ?_⟩
    first
    | exact b_nI (by decide) (by decide) (by decide)
    | (obtain ⟨k, hk, e⟩ := lowI_lt x (n := 90) (by decide) (by decide); rw [e]; exact b_nI (by omega) (by show (0 : Int) ≤ _; omega) (by show _ ≤ (400 : Int); omega)))
    · refine g_iload_n (i := 1) (t := 79) dL_value_78 rfl rfl rfl ?_
      refine g_bipush (t := 81) dL_value_79 c_bipush_90 rfl ?_
      refine g_cSp (t := 84) mL_low k_L_35 smL_low dL_value_81 (l_low (by decide)) rfl rfl (by decide) (by decide) (Nat.le_of_ble_eq_true rfl) rfl (Nat.le_refl _) ?_
      refine g_goto (t := 88) dL_value_84 (by decide) ?_
      exact g_retI dL_value_88 rfl rfl (by
    have h0 : w = 3 := (nI_eq (by omega) (by decide)).mp h1_3
    subst h0
    refine ⟨rfl, ?_⟩
    first
    | exact b_nI (by decide) (by decide) (by decide)
    | (obtain ⟨k, hk, e⟩ := lowI_lt x (n := 90) (by decide) (by decide); rw [e]; exact b_nI (by omega) (by show (0 : Int) ≤ _; omega) (by show _ ≤ (400 : Int); omega)))
  · refine g_iload_n (i := 1) (t := 90) dL_value_89 rfl rfl rfl ?_
    refine g_iconst (t := 91) dL_value_90 c_iconst_4 rfl ?_
    refine g_ishr (t := 92) dL_value_91 rfl ?_
    refine g_iconst (t := 93) dL_value_92 c_iconst_2 rfl ?_
    refine g_cSp (t := 96) mL_low k_L_35 smL_low dL_value_93 (l_low (by decide)) rfl rfl (by decide) (by decide) (Nat.le_of_ble_eq_true rfl) rfl (Nat.le_refl _) ?_
    refine g_if_ne (t1 := 109) (t2 := 99) dL_value_96 (by decide) rfl (fun h96 => ?_) (fun h96 => ?_)
    · refine g_sipush (t := 112) dL_value_109 c_sipush_400 rfl ?_
      exact g_retI dL_value_112 rfl rfl (by
    have h0 : w = 4 := (nI_eq (by omega) (by decide)).mp h1_4
    subst h0
    refine ⟨rfl, ?_⟩
    first
    | exact b_nI (by decide) (by decide) (by decide)
    | (obtain ⟨k, hk, e⟩ := lowI_lt x (n := 200) (by decide) (by decide); rw [e]; exact b_nI (by omega) (by show (0 : Int) ≤ _; omega) (by show _ ≤ (400 : Int); omega)))
    · refine g_iload_n (i := 1) (t := 100) dL_value_99 rfl rfl rfl ?_
      refine g_sipush (t := 103) dL_value_100 c_sipush_200 rfl ?_
      refine g_cSp (t := 106) mL_low k_L_35 smL_low dL_value_103 (l_low (by decide)) rfl rfl (by decide) (by decide) (Nat.le_of_ble_eq_true rfl) rfl (Nat.le_refl _) ?_
      refine g_goto (t := 112) dL_value_106 (by decide) ?_
      exact g_retI dL_value_112 rfl rfl (by
    have h0 : w = 4 := (nI_eq (by omega) (by decide)).mp h1_4
    subst h0
    refine ⟨rfl, ?_⟩
    first
    | exact b_nI (by decide) (by decide) (by decide)
    | (obtain ⟨k, hk, e⟩ := lowI_lt x (n := 200) (by decide) (by decide); rw [e]; exact b_nI (by omega) (by show (0 : Int) ≤ _; omega) (by show _ ≤ (400 : Int); omega)))
  · refine g_iload_n (i := 0) (t := 124) dL_value_123 rfl rfl rfl ?_
    refine g_cSp (t := 127) mL_least k_L_41 smL_least dL_value_124 (l_least (by omega)) rfl rfl (by decide) (by decide) (Nat.le_of_ble_eq_true rfl) rfl (Nat.le_refl _) ?_
    refine g_iload_n (i := 1) (t := 128) dL_value_127 rfl rfl rfl ?_
    refine g_iload_n (i := 0) (t := 129) dL_value_128 rfl rfl rfl ?_
    refine g_cSp (t := 132) mL_most k_L_44 smL_most dL_value_129 (l_most (by omega)) rfl rfl (by decide) (by decide) (Nat.le_of_ble_eq_true rfl) rfl (Nat.le_refl _) ?_
    refine g_iload_n (i := 0) (t := 133) dL_value_132 rfl rfl rfl ?_
    refine g_cSp (t := 136) mL_least k_L_41 smL_least dL_value_133 (l_least (by omega)) rfl rfl (by decide) (by decide) (Nat.le_of_ble_eq_true rfl) rfl (Nat.le_refl _) ?_
    refine g_isub (t := 137) dL_value_136 rfl ?_
    refine g_iconst (t := 138) dL_value_137 c_iconst_1 rfl ?_
    refine g_iadd (t := 139) dL_value_138 rfl ?_
    refine g_cSp (t := 142) mL_low k_L_35 smL_low dL_value_139 (l_low hne) rfl rfl (by decide) (by decide) (Nat.le_of_ble_eq_true rfl) rfl (Nat.le_refl _) ?_
    refine g_iadd (t := 143) dL_value_142 rfl ?_
    exact g_retI dL_value_143 rfl rfl (by
    refine ⟨rfl, ?_⟩
    have hn := (show ∀ w, w < 10 → ∃ n, n < 402 ∧ 0 < n ∧ mstV w - lstV w + nI 1 = nI n ∧ (lstV w).toInt = lov w ∧ lov w + n - 1 = hiv w by
      intro w hw
      refine ⟨(mstV w - lstV w + nI 1).toNatClampNeg, ?_⟩
      exact (show ∀ w, w < 10 → (mstV w - lstV w + nI 1).toNatClampNeg < 402 ∧ 0 < (mstV w - lstV w + nI 1).toNatClampNeg ∧ mstV w - lstV w + nI 1 = nI (mstV w - lstV w + nI 1).toNatClampNeg ∧ (lstV w).toInt = lov w ∧ lov w + (mstV w - lstV w + nI 1).toNatClampNeg - 1 = hiv w by decide +kernel) w hw) w hw
    obtain ⟨n, n1, n2, n3, n4, n5⟩ := hn
    rw [n3]
    obtain ⟨k, hk, e⟩ := lowI_lt x (n := n) n2 (by omega)
    rw [e]
    have hb := (show ∀ w, w < 10 → -9 ≤ lov w ∧ lov w ≤ 1 by decide) w hw
    have := t_add (x := lstV w) (y := nI k) (by rw [n4, nI_toInt (by omega)]; omega) (by rw [n4, nI_toInt (by omega)]; omega)
    rw [n4, nI_toInt (by omega)] at this
    unfold bnd
    omega)
  · refine g_iload_n (i := 1) (t := 114) dL_value_113 rfl rfl rfl ?_
    refine g_bipush (t := 116) dL_value_114 c_bipush_19 rfl ?_
    refine g_cSp (t := 119) mL_low k_L_35 smL_low dL_value_116 (l_low (by decide)) rfl rfl (by decide) (by decide) (Nat.le_of_ble_eq_true rfl) rfl (Nat.le_refl _) ?_
    refine g_bipush (t := 121) dL_value_119 c_bipush_9 rfl ?_
    refine g_isub (t := 122) dL_value_121 rfl ?_
    exact g_retI dL_value_122 rfl rfl (by
    have h0 : w = 6 := (nI_eq (by omega) (by decide)).mp h1_6
    subst h0
    refine ⟨rfl, ?_⟩
    obtain ⟨k, hk, e⟩ := lowI_lt x (n := 19) (by decide) (by decide)
    rw [e]
    have := pk_sub_toInt (a := k) (b := 9) (by omega) (by decide)
    exact ⟨by show (-9 : Int) ≤ _; omega, by show _ ≤ (9 : Int); omega⟩)
  · refine g_iload_n (i := 0) (t := 124) dL_value_123 rfl rfl rfl ?_
    refine g_cSp (t := 127) mL_least k_L_41 smL_least dL_value_124 (l_least (by omega)) rfl rfl (by decide) (by decide) (Nat.le_of_ble_eq_true rfl) rfl (Nat.le_refl _) ?_
    refine g_iload_n (i := 1) (t := 128) dL_value_127 rfl rfl rfl ?_
    refine g_iload_n (i := 0) (t := 129) dL_value_128 rfl rfl rfl ?_
    refine g_cSp (t := 132) mL_most k_L_44 smL_most dL_value_129 (l_most (by omega)) rfl rfl (by decide) (by decide) (Nat.le_of_ble_eq_true rfl) rfl (Nat.le_refl _) ?_
    refine g_iload_n (i := 0) (t := 133) dL_value_132 rfl rfl rfl ?_
    refine g_cSp (t := 136) mL_least k_L_41 smL_least dL_value_133 (l_least (by omega)) rfl rfl (by decide) (by decide) (Nat.le_of_ble_eq_true rfl) rfl (Nat.le_refl _) ?_
    refine g_isub (t := 137) dL_value_136 rfl ?_
    refine g_iconst (t := 138) dL_value_137 c_iconst_1 rfl ?_
    refine g_iadd (t := 139) dL_value_138 rfl ?_
    refine g_cSp (t := 142) mL_low k_L_35 smL_low dL_value_139 (l_low hne) rfl rfl (by decide) (by decide) (Nat.le_of_ble_eq_true rfl) rfl (Nat.le_refl _) ?_
    refine g_iadd (t := 143) dL_value_142 rfl ?_
    exact g_retI dL_value_143 rfl rfl (by
    refine ⟨rfl, ?_⟩
    have hn := (show ∀ w, w < 10 → ∃ n, n < 402 ∧ 0 < n ∧ mstV w - lstV w + nI 1 = nI n ∧ (lstV w).toInt = lov w ∧ lov w + n - 1 = hiv w by
      intro w hw
      refine ⟨(mstV w - lstV w + nI 1).toNatClampNeg, ?_⟩
      exact (show ∀ w, w < 10 → (mstV w - lstV w + nI 1).toNatClampNeg < 402 ∧ 0 < (mstV w - lstV w + nI 1).toNatClampNeg ∧ mstV w - lstV w + nI 1 = nI (mstV w - lstV w + nI 1).toNatClampNeg ∧ (lstV w).toInt = lov w ∧ lov w + (mstV w - lstV w + nI 1).toNatClampNeg - 1 = hiv w by decide +kernel) w hw) w hw
    obtain ⟨n, n1, n2, n3, n4, n5⟩ := hn
    rw [n3]
    obtain ⟨k, hk, e⟩ := lowI_lt x (n := n) n2 (by omega)
    rw [e]
    have hb := (show ∀ w, w < 10 → -9 ≤ lov w ∧ lov w ≤ 1 by decide) w hw
    have := t_add (x := lstV w) (y := nI k) (by rw [n4, nI_toInt (by omega)]; omega) (by rw [n4, nI_toInt (by omega)]; omega)
    rw [n4, nI_toInt (by omega)] at this
    unfold bnd
    omega)
end LEAF

