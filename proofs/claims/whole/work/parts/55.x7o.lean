/-! FlexRowsModel: across the line -/
section X7O
variable {E : gE} {I : Nat → Nat → Int32} {h : Int64} {s : sS} {A : lA} {l : Nat}
theorem x7_wayOf {p : Nat} (hB : mB I s A l) (p1 : A.2.1 ≤ p) (p2 : p < A.2.1 + A.2.2) : gPI E fX7_wayOf [.ref 41, .int (nI p)] I h (wyA A p) := by
  refine gEv.of rfl (Nat.le_refl _) (Nat.le_of_ble_eq_true rfl) (L := [.ref 41, .int (nI p), .null]) rfl ?_
  have ⟨b1, b2, b3, b4, b5, b6, b7, b8, b9⟩ := hB
  obtain ⟨x1, x2⟩ := b7 p p1 p2
  have e9 : I 42 (11 * A.1.2.2.2 p + 9) = A.1.1 (A.1.2.2.2 p) 9 := by rw [b8]; exact b1.2.1 _ 9 x2 (by decide)
  have ew : wyA A p = if A.1.1 (A.1.2.2.2 p) 9 = nI 4 then A.1.2.1 5 else A.1.1 (A.1.2.2.2 p) 9 := rfl
  refine g_aload_n (i := 0) (r := 41) (t := 1) dX7_wayOf_0 rfl rfl (Or.inl l9_41) rfl ?_
  refine g_aload_n (i := 0) (r := 41) (t := 2) dX7_wayOf_1 rfl rfl (Or.inl l9_41) rfl ?_
  refine gm_getR (o := 41) (ci := 7) (k := 8) (r := 46) (t := 5) l6_41 l9_41 s_41 gf_X7_22 rfl r_41_8 l9_46 dX7_wayOf_2 rfl ?_
  refine g_iload_n (i := 1) (t := 6) dX7_wayOf_5 rfl rfl rfl ?_
  refine gm_iald_n (a := 46) (n := 16) (t := 7) l6_46 l9_46 s_46 dX7_wayOf_6 (by omega) (by decide) rfl ?_
  rw [x1]
  refine g_bipush (t := 9) dX7_wayOf_7 c_bipush_9 rfl ?_
  refine g_cVp (o := 41) (t := 12) mX7_of k_X7_157 imX7_of seX7_of l6_41 l9_41 s_41 rfl dX7_wayOf_9 (x7_of (by omega) (by omega)) rfl rfl (by decide) (by decide) (Nat.le_of_ble_eq_true rfl) rfl ?_
  rw [e9]
  refine g_istore_n (i := 2) (t := 13) (L1 := [_, _, _]) dX7_wayOf_12 rfl (by decide) rfl rfl rfl ?_
  refine g_iload_n (i := 2) (t := 14) dX7_wayOf_13 rfl rfl rfl ?_
  refine g_iconst (t := 15) dX7_wayOf_14 c_iconst_4 rfl ?_
  refine g_icmp_ne (t1 := 29) (t2 := 18) dX7_wayOf_15 (by decide) rfl (fun h15 => ?_) (fun h15 => ?_)
  · refine g_iload_n (i := 2) (t := 30) dX7_wayOf_29 rfl rfl rfl ?_
    exact g_retP dX7_wayOf_30 rfl rfl (by
    rw [ew]
    first
    | rw [if_neg h15]
    | (rw [if_pos h15, b9]; exact b1.2.2 5 (by decide)))
  · refine g_aload_n (i := 0) (r := 41) (t := 19) dX7_wayOf_18 rfl rfl (Or.inl l9_41) rfl ?_
    refine gm_getR (o := 41) (ci := 7) (k := 0) (r := 42) (t := 22) l6_41 l9_41 s_41 gf_X7_7 rfl r_41_0 l9_42 dX7_wayOf_19 rfl ?_
    refine g_sipush (t := 25) dX7_wayOf_22 c_sipush_182 rfl ?_
    refine gm_iald_n (a := 42) (n := 184) (t := 26) l6_42 l9_42 s_42 dX7_wayOf_25 (by omega) (by decide) rfl ?_
    refine g_goto (t := 30) dX7_wayOf_26 (by decide) ?_
    exact g_retP dX7_wayOf_30 rfl rfl (by
    rw [ew]
    first
    | rw [if_neg h15]
    | (rw [if_pos h15, b9]; exact b1.2.2 5 (by decide)))
theorem x7_above {c p : Nat} {f : Nat → Nat} (hC : mC I s) (hn : s.1 ≤ 16) (x1 : I 46 p = nI (f p)) (hp : p < 16) (x2 : f p < s.1) : gPI E fX7_above [.ref 41, .int (nI p)] I h (abv s.2.1 (f p)) := by
  refine gEv.of rfl (Nat.le_refl _) (Nat.le_of_ble_eq_true rfl) (L := [.ref 41, .int (nI p)]) rfl ?_
  refine g_aload_n (i := 0) (r := 41) (t := 1) dX7_above_0 rfl rfl (Or.inl l9_41) rfl ?_
  refine g_aload_n (i := 0) (r := 41) (t := 2) dX7_above_1 rfl rfl (Or.inl l9_41) rfl ?_
  refine gm_getR (o := 41) (ci := 7) (k := 8) (r := 46) (t := 5) l6_41 l9_41 s_41 gf_X7_22 rfl r_41_8 l9_46 dX7_above_2 rfl ?_
  refine g_iload_n (i := 1) (t := 6) dX7_above_5 rfl rfl rfl ?_
  refine gm_iald_n (a := 46) (n := 16) (t := 7) l6_46 l9_46 s_46 dX7_above_6 (by omega) (by decide) rfl ?_
  rw [x1]
  refine g_bipush (t := 9) dX7_above_7 c_bipush_7 rfl ?_
  refine g_cVp (o := 41) (t := 12) mX7_of k_X7_157 imX7_of seX7_of l6_41 l9_41 s_41 rfl dX7_above_9 (x7_of (by omega) (by omega)) rfl rfl (by decide) (by decide) (Nat.le_of_ble_eq_true rfl) rfl ?_
  refine g_aload_n (i := 0) (r := 41) (t := 13) dX7_above_12 rfl rfl (Or.inl l9_41) rfl ?_
  refine g_aload_n (i := 0) (r := 41) (t := 14) dX7_above_13 rfl rfl (Or.inl l9_41) rfl ?_
  refine gm_getR (o := 41) (ci := 7) (k := 8) (r := 46) (t := 17) l6_41 l9_41 s_41 gf_X7_22 rfl r_41_8 l9_46 dX7_above_14 rfl ?_
  refine g_iload_n (i := 1) (t := 18) dX7_above_17 rfl rfl rfl ?_
  refine gm_iald_n (a := 46) (n := 16) (t := 19) l6_46 l9_46 s_46 dX7_above_18 (by omega) (by decide) rfl ?_
  rw [x1]
  refine g_bipush (t := 21) dX7_above_19 c_bipush_8 rfl ?_
  refine g_cVp (o := 41) (t := 24) mX7_of k_X7_157 imX7_of seX7_of l6_41 l9_41 s_41 rfl dX7_above_21 (x7_of (by omega) (by omega)) rfl rfl (by decide) (by decide) (Nat.le_of_ble_eq_true rfl) rfl ?_
  refine g_isub (t := 25) dX7_above_24 rfl ?_
  exact g_retP dX7_above_25 rfl rfl (by rw [hC.2.1 _ 7 x2 (by decide), hC.2.1 _ 8 x2 (by decide)]; rfl)
/-- the greatest part above a base line, as the model keeps it -/
def abM (A : lA) : Nat → Int32
  | 0 => -1001
  | k + 1 => if wyA A (A.2.1 + k) = nI 3 then mx (abM A k) (abv A.1.1 (A.1.2.2.2 (A.2.1 + k))) else abM A k
theorem abv_b {P : dP} {i : Nat} (h : ∀ w, w < 11 → bnd (P i w) (lov w) (hiv w)) : bnd (abv P i) (-49) 100 := b_wk (b_sub (h 7 (by decide)) (h 8 (by decide)) (by decide) (by decide)) (by decide) (by decide)
theorem abM_rel (hV : aV A) : ∀ k, k ≤ A.2.2 → (abM A k = -1001 ∧ abA A k = -49 ∧ blA A k = nI 0 ∧ ∀ j, j < k → ¬ wyA A (A.2.1 + j) = nI 3) ∨ (abM A k = abA A k ∧ bnd (abA A k) (-49) 100 ∧ bnd (blA A k) 0 50)
  | 0, _ => Or.inl ⟨rfl, rfl, rfl, fun j hj => absurd hj (Nat.not_lt_zero _)⟩
  | k + 1, hk => by
    have r := hV.2.1 (A.2.1 + k) (by omega) (by omega)
    have ba := abv_b r
    have bd8 := r 8 (by decide)
    by_cases y : wyA A (A.2.1 + k) = nI 3
    · refine Or.inr ?_
      rw [abM, abA, blA, if_pos y, if_pos y, if_pos y]
      have m1 : (-1001 : Int32).toInt = -1001 := by decide +kernel
      have m2 : (-49 : Int32).toInt = -49 := by decide +kernel
      rcases abM_rel hV k (by omega) with ⟨a1, a2, a3, -⟩ | ⟨a1, a2, a3⟩
      · rw [a1, a2, a3]
        refine ⟨?_, ?_, ?_⟩
        · rw [t_eq, mx_toInt, mx_toInt, m1, m2]
          have := ba.1
          omega
        · exact b_mx ⟨by rw [m2]; omega, by rw [m2]; omega⟩ ba
        · exact b_mx (b_nI (by decide) (by decide) (by decide)) (b_wk (c := 0) (d := 50) bd8 (by decide) (by decide))
      · rw [a1]
        exact ⟨rfl, b_mx a2 ba, b_mx a3 (b_wk (c := 0) (d := 50) bd8 (by decide) (by decide))⟩
    · rw [abM, abA, blA, if_neg y, if_neg y, if_neg y]
      refine (abM_rel hV k (by omega)).imp (fun a => ⟨a.1, a.2.1, a.2.2.1, fun j hj => ?_⟩) id
      by_cases z : j = k
      · subst z; exact y
      · exact a.2.2.2 j (by omega)
theorem gt_b7 (hV : aV A) : ∀ k, k ≤ A.2.2 → bnd (gtA A k) 0 100 ∧ ∀ j, j < k → (A.1.1 (A.1.2.2.2 (A.2.1 + j)) 7).toInt ≤ (gtA A k).toInt
  | 0, _ => ⟨b_nI (by decide) (by decide) (by decide), fun j hj => absurd hj (Nat.not_lt_zero _)⟩
  | k + 1, hk => by
    have r := hV.2.1 (A.2.1 + k) (by omega) (by omega) 7 (by decide)
    obtain ⟨i1, i2⟩ := gt_b7 hV k (by omega)
    rw [gtA]
    refine ⟨b_mx i1 (b_wk (c := 0) (d := 100) r (by decide) (by decide)), fun j hj => ?_⟩
    rw [mx_toInt]
    by_cases z : j = k
    · subst z; omega
    · have := i2 j (by omega); omega
/-- the line's height, as the model has it -/
theorem lh_m (hV : aV A) (hn : 1 ≤ A.2.2) : lhA A = (if abM A A.2.2 = -1001 then gtA A A.2.2 else mx (gtA A A.2.2) (abM A A.2.2 + blA A A.2.2)) ∧ bnd (lhA A) 0 150 ∧ (gtA A A.2.2).toInt ≤ (lhA A).toInt := by
  obtain ⟨g1, g2⟩ := gt_b7 hV A.2.2 (Nat.le_refl _)
  have m1 : (-1001 : Int32).toInt = -1001 := by decide +kernel
  have m2 : (-49 : Int32).toInt = -49 := by decide +kernel
  rcases abM_rel hV A.2.2 (Nat.le_refl _) with ⟨a1, a2, a3, -⟩ | ⟨a1, a2, a3⟩
  · have e : lhA A = gtA A A.2.2 := by
      unfold lhA
      rw [a2, a3, add_n0, t_eq, mx_toInt, m2]
      have := g1.1
      omega
    rw [if_pos a1, e]
    exact ⟨rfl, b_wk g1 (by decide) (by decide), Int.le_refl _⟩
  · have ne : ¬ abM A A.2.2 = -1001 := by
      rw [a1, t_eq, m1]
      have := a2.1
      omega
    have bs := b_add a2 a3 (by decide) (by decide)
    rw [if_neg ne, a1]
    refine ⟨rfl, ?_, ?_⟩
    · unfold lhA bnd
      rw [mx_toInt]
      have := g1.1; have := g1.2; have := bs.2
      omega
    · unfold lhA
      rw [mx_toInt]
      omega
theorem x7_ax_max (hB : mB I s A l) {K : gK} : ∀ (d k : Nat) (v6 : Value), k + d = A.2.2 →
    (∀ L1, Wp E fX7_across 62 118 ([.ref 41, .int (nI l), .int (abM A A.2.2), .int (blA A A.2.2), .int (gtA A A.2.2)] ++ L1) [] (gM I h) K) →
    Wp E fX7_across 62 17 [.ref 41, .int (nI l), .int (abM A k), .int (blA A k), .int (gtA A k), .int (nI (A.2.1 + k)), v6, .null] [] (gM I h) K := by
  have ⟨b1, b2, b3, b4, b5, b6, b7, b8, b9⟩ := hB
  intro d
  induction d with
  | zero =>
    intro k v6 hk kk
    have hk : k = A.2.2 := by omega
    subst hk
    refine g_iload (i := 5) (t := 19) dX7_across_17 rfl rfl ?_
    refine g_aload_n (i := 0) (r := 41) (t := 20) dX7_across_19 rfl rfl (Or.inl l9_41) rfl ?_
    refine gm_getR (o := 41) (ci := 7) (k := 12) (r := 49) (t := 23) l6_41 l9_41 s_41 gf_X7_31 rfl r_41_12 l9_49 dX7_across_20 rfl ?_
    refine g_iload_n (i := 1) (t := 24) dX7_across_23 rfl rfl rfl ?_
    refine gm_iald_n (a := 49) (n := 16) (t := 25) l6_49 l9_49 s_49 dX7_across_24 (by omega) (by decide) rfl ?_
    rw [b5]
    refine g_icmp_ge_n (t1 := 118) (t2 := 28) dX7_across_25 (by decide) rfl (by omega) (by omega) (fun h25 => ?_) (fun h25 => ?_)
    · exact kk [_, _, _]
    · exfalso; omega
  | succ d ih =>
    intro k v6 hk kk
    obtain ⟨x1, x2⟩ := b7 (A.2.1 + k) (by omega) (by omega)
    have e7 : I 42 (11 * A.1.2.2.2 (A.2.1 + k) + 7) = A.1.1 (A.1.2.2.2 (A.2.1 + k)) 7 := by rw [b8]; exact b1.2.1 _ 7 x2 (by decide)
    have e8 : I 42 (11 * A.1.2.2.2 (A.2.1 + k) + 8) = A.1.1 (A.1.2.2.2 (A.2.1 + k)) 8 := by rw [b8]; exact b1.2.1 _ 8 x2 (by decide)
    have T92 : ∀ v6, Wp E fX7_across 62 92 [.ref 41, .int (nI l), .int (abM A (k + 1)), .int (blA A (k + 1)), .int (gtA A k), .int (nI (A.2.1 + k)), v6, .null] [] (gM I h) K := by
      intro v6
      refine g_iload (i := 4) (t := 94) dX7_across_92 rfl rfl ?_
      refine g_aload_n (i := 0) (r := 41) (t := 95) dX7_across_94 rfl rfl (Or.inl l9_41) rfl ?_
      refine g_aload_n (i := 0) (r := 41) (t := 96) dX7_across_95 rfl rfl (Or.inl l9_41) rfl ?_
      refine gm_getR (o := 41) (ci := 7) (k := 8) (r := 46) (t := 99) l6_41 l9_41 s_41 gf_X7_22 rfl r_41_8 l9_46 dX7_across_96 rfl ?_
      refine g_iload (i := 5) (t := 101) dX7_across_99 rfl rfl ?_
      refine gm_iald_n (a := 46) (n := 16) (t := 102) l6_46 l9_46 s_46 dX7_across_101 (by omega) (by decide) rfl ?_
      rw [x1]
      refine g_bipush (t := 104) dX7_across_102 c_bipush_7 rfl ?_
      refine g_cVp (o := 41) (t := 107) mX7_of k_X7_157 imX7_of seX7_of l6_41 l9_41 s_41 rfl dX7_across_104 (x7_of (by omega) (by omega)) rfl rfl (by decide) (by decide) (Nat.le_of_ble_eq_true rfl) rfl ?_
      rw [e7]
      refine g_cSp (t := 110) mX7_greater k_X7_167 smX7_greater dX7_across_107 (x7_greater) rfl rfl (by decide) (by decide) (Nat.le_of_ble_eq_true rfl) rfl ?_
      refine g_top (y := gtA A (k + 1)) rfl ?_
      refine g_istore (i := 4) (t := 112) (L1 := [_, _, _, _, _, _, _, _]) dX7_across_110 (by decide) rfl rfl rfl ?_
      refine g_iinc (i := 5) (t := 115) (L1 := [_, _, _, _, _, _, _, _]) dX7_across_112 rfl (gi_1 _) (by decide) rfl rfl rfl ?_
      refine g_goto (t := 17) dX7_across_115 (by decide) ?_
      exact ih (k + 1) _ (by omega) kk
    have T43 : ∀ b : Bool, (b = true ↔ wyA A (A.2.1 + k) = nI 3) → Wp E fX7_across 62 43 [.ref 41, .int (nI l), .int (abM A k), .int (blA A k), .int (gtA A k), .int (nI (A.2.1 + k)), v6, .null] [.int (bI b)] (gM I h) K := by
      intro b hb
      cases b with
      | true =>
        have hw := hb.mp rfl
        have e1 : abM A (k + 1) = mx (abM A k) (abv s.2.1 (A.1.2.2.2 (A.2.1 + k))) := by rw [abM, if_pos hw, b8]
        have e2 : blA A (k + 1) = mx (blA A k) (A.1.1 (A.1.2.2.2 (A.2.1 + k)) 8) := by rw [blA, if_pos hw]
        rw [e1, e2] at T92
        refine g_istore (i := 6) (t := 45) (L1 := [_, _, _, _, _, _, _, _]) dX7_across_43 (by decide) rfl rfl rfl ?_
        refine g_iload (i := 6) (t := 47) dX7_across_45 rfl rfl ?_
        refine g_if_eq (t1 := 63) (t2 := 50) dX7_across_47 (by decide) rfl (fun h47 => ?_) (fun h47 => ?_)
        · exact absurd h47 (by decide)
        · refine g_iload_n (i := 2) (t := 51) dX7_across_50 rfl rfl rfl ?_
          refine g_aload_n (i := 0) (r := 41) (t := 52) dX7_across_51 rfl rfl (Or.inl l9_41) rfl ?_
          refine g_iload (i := 5) (t := 54) dX7_across_52 rfl rfl ?_
          refine g_cVp (o := 41) (t := 57) mX7_above k_X7_210 imX7_above seX7_above l6_41 l9_41 s_41 rfl dX7_across_54 (x7_above (c := 0) (f := A.1.2.2.2) b1 b2 x1 (by omega) x2) rfl rfl (by decide) (by decide) (Nat.le_of_ble_eq_true rfl) rfl ?_
          refine g_cSp (t := 60) mX7_greater k_X7_167 smX7_greater dX7_across_57 (x7_greater) rfl rfl (by decide) (by decide) (Nat.le_of_ble_eq_true rfl) rfl ?_
          refine g_goto (t := 64) dX7_across_60 (by decide) ?_
          refine g_istore_n (i := 2) (t := 65) (L1 := [_, _, _, _, _, _, _, _]) dX7_across_64 rfl (by decide) rfl rfl rfl ?_
          refine g_iload (i := 6) (t := 67) dX7_across_65 rfl rfl ?_
          refine g_if_eq (t1 := 90) (t2 := 70) dX7_across_67 (by decide) rfl (fun h67 => ?_) (fun h67 => ?_)
          · exact absurd h67 (by decide)
          · refine g_iload_n (i := 3) (t := 71) dX7_across_70 rfl rfl rfl ?_
            refine g_aload_n (i := 0) (r := 41) (t := 72) dX7_across_71 rfl rfl (Or.inl l9_41) rfl ?_
            refine g_aload_n (i := 0) (r := 41) (t := 73) dX7_across_72 rfl rfl (Or.inl l9_41) rfl ?_
            refine gm_getR (o := 41) (ci := 7) (k := 8) (r := 46) (t := 76) l6_41 l9_41 s_41 gf_X7_22 rfl r_41_8 l9_46 dX7_across_73 rfl ?_
            refine g_iload (i := 5) (t := 78) dX7_across_76 rfl rfl ?_
            refine gm_iald_n (a := 46) (n := 16) (t := 79) l6_46 l9_46 s_46 dX7_across_78 (by omega) (by decide) rfl ?_
            rw [x1]
            refine g_bipush (t := 81) dX7_across_79 c_bipush_8 rfl ?_
            refine g_cVp (o := 41) (t := 84) mX7_of k_X7_157 imX7_of seX7_of l6_41 l9_41 s_41 rfl dX7_across_81 (x7_of (by omega) (by omega)) rfl rfl (by decide) (by decide) (Nat.le_of_ble_eq_true rfl) rfl ?_
            rw [e8]
            refine g_cSp (t := 87) mX7_greater k_X7_167 smX7_greater dX7_across_84 (x7_greater) rfl rfl (by decide) (by decide) (Nat.le_of_ble_eq_true rfl) rfl ?_
            refine g_goto (t := 91) dX7_across_87 (by decide) ?_
            refine g_istore_n (i := 3) (t := 92) (L1 := [_, _, _, _, _, _, _, _]) dX7_across_91 rfl (by decide) rfl rfl rfl ?_
            exact T92 _
      | false =>
        have hw : ¬ wyA A (A.2.1 + k) = nI 3 := fun q => absurd (hb.mpr q) (by decide)
        have e1 : abM A (k + 1) = abM A k := by rw [abM, if_neg hw]
        have e2 : blA A (k + 1) = blA A k := by rw [blA, if_neg hw]
        rw [e1, e2] at T92
        refine g_istore (i := 6) (t := 45) (L1 := [_, _, _, _, _, _, _, _]) dX7_across_43 (by decide) rfl rfl rfl ?_
        refine g_iload (i := 6) (t := 47) dX7_across_45 rfl rfl ?_
        refine g_if_eq (t1 := 63) (t2 := 50) dX7_across_47 (by decide) rfl (fun h47 => ?_) (fun h47 => ?_)
        · refine g_iload_n (i := 2) (t := 64) dX7_across_63 rfl rfl rfl ?_
          refine g_istore_n (i := 2) (t := 65) (L1 := [_, _, _, _, _, _, _, _]) dX7_across_64 rfl (by decide) rfl rfl rfl ?_
          refine g_iload (i := 6) (t := 67) dX7_across_65 rfl rfl ?_
          refine g_if_eq (t1 := 90) (t2 := 70) dX7_across_67 (by decide) rfl (fun h67 => ?_) (fun h67 => ?_)
          · refine g_iload_n (i := 3) (t := 91) dX7_across_90 rfl rfl rfl ?_
            refine g_istore_n (i := 3) (t := 92) (L1 := [_, _, _, _, _, _, _, _]) dX7_across_91 rfl (by decide) rfl rfl rfl ?_
            exact T92 _
          · exact absurd (by decide) h67
        · exact absurd (by decide) h47
    refine g_iload (i := 5) (t := 19) dX7_across_17 rfl rfl ?_
    refine g_aload_n (i := 0) (r := 41) (t := 20) dX7_across_19 rfl rfl (Or.inl l9_41) rfl ?_
    refine gm_getR (o := 41) (ci := 7) (k := 12) (r := 49) (t := 23) l6_41 l9_41 s_41 gf_X7_31 rfl r_41_12 l9_49 dX7_across_20 rfl ?_
    refine g_iload_n (i := 1) (t := 24) dX7_across_23 rfl rfl rfl ?_
    refine gm_iald_n (a := 49) (n := 16) (t := 25) l6_49 l9_49 s_49 dX7_across_24 (by omega) (by decide) rfl ?_
    rw [b5]
    refine g_icmp_ge_n (t1 := 118) (t2 := 28) dX7_across_25 (by decide) rfl (by omega) (by omega) (fun h25 => ?_) (fun h25 => ?_)
    · exfalso; omega
    · refine g_aload_n (i := 0) (r := 41) (t := 29) dX7_across_28 rfl rfl (Or.inl l9_41) rfl ?_
      refine g_iload (i := 5) (t := 31) dX7_across_29 rfl rfl ?_
      refine g_cVp (o := 41) (t := 34) mX7_wayOf k_X7_207 imX7_wayOf seX7_wayOf l6_41 l9_41 s_41 rfl dX7_across_31 (x7_wayOf hB (Nat.le_add_right _ _) (by omega)) rfl rfl (by decide) (by decide) (Nat.le_of_ble_eq_true rfl) rfl ?_
      refine g_iconst (t := 35) dX7_across_34 c_iconst_3 rfl ?_
      refine g_icmp_ne (t1 := 42) (t2 := 38) dX7_across_35 (by decide) rfl (fun h35 => ?_) (fun h35 => ?_)
      · refine g_iconst (t := 43) dX7_across_42 c_iconst_0 rfl ?_
        first
        | exact T43 true ⟨fun _ => h35, fun _ => rfl⟩
        | exact T43 false ⟨fun q => absurd q (by decide), fun q => absurd q h35⟩
      · refine g_iconst (t := 39) dX7_across_38 c_iconst_1 rfl ?_
        refine g_goto (t := 43) dX7_across_39 (by decide) ?_
        first
        | exact T43 true ⟨fun _ => h35, fun _ => rfl⟩
        | exact T43 false ⟨fun q => absurd q (by decide), fun q => absurd q h35⟩
theorem wy_b (hV : aV A) {p : Nat} (p1 : A.2.1 ≤ p) (p2 : p < A.2.1 + A.2.2) : bnd (wyA A p) 0 3 := by
  have r := hV.2.1 p p1 p2 9 (by decide)
  have q := hV.2.2.1 5 (by decide)
  unfold wyA way
  split
  · exact q
  · rename_i y
    refine ⟨r.1, ?_⟩
    have r2 : (A.1.1 (A.1.2.2.2 p) 9).toInt ≤ 4 := r.2
    have : (A.1.1 (A.1.2.2.2 p) 9).toInt ≠ 4 := fun z => y (t_eq.mpr (by rw [z]; decide +kernel))
    omega
theorem x7_across {T : Int32} (hB : mB I s A l) (hV : aV A) (hn : 1 ≤ A.2.2) (hT : T = if l = 0 then nI 0 else I 60 (l - 1) + I 61 (l - 1) + A.1.2.1 2) : gQV E fX7_across [.ref 41, .int (nI l)] I h (fun I' => gSame [59, 60, 61] I I' ∧ oneN I' I 60 l T ∧ oneN I' I 61 l (lhA A) ∧ strN I' I 59 A.2.1 (A.2.1 + A.2.2) (fun p => T + loA A p)) := by
  refine gEv.of rfl (Nat.le_refl _) (Nat.le_of_ble_eq_true rfl) (L := [.ref 41, .int (nI l), .null, .null, .null, .null, .null, .null]) rfl ?_
  have ⟨b1, b2, b3, b4, b5, b6, b7, b8, b9⟩ := hB
  obtain ⟨lh1, lh2, lh3⟩ := lh_m hV hn
  obtain ⟨gt1, gt2⟩ := gt_b7 hV A.2.2 (Nat.le_refl _)
  have L : ∀ (d k : Nat) (J : Nat → Nat → Int32) (v6 v7 : Value), k + d = A.2.2 → gSame [59, 60, 61] I J → oneN J I 60 l T → oneN J I 61 l (lhA A) → strN J I 59 A.2.1 (A.2.1 + k) (fun p => T + loA A p) → Wp E fX7_across 62 196 [.ref 41, .int (nI l), .int (abM A A.2.2), .int (blA A A.2.2), .int (lhA A), .int (nI (A.2.1 + k)), v6, v7] [] (gM J h) (gRet fX7_across 62 (fun r σ' => ∃ I', r = none ∧ σ' = gM I' h ∧ gSame [59, 60, 61] I I' ∧ oneN I' I 60 l T ∧ oneN I' I 61 l (lhA A) ∧ strN I' I 59 A.2.1 (A.2.1 + A.2.2) (fun p => T + loA A p))) := by
    intro d
    induction d with
    | zero =>
      intro k J v6 v7 hk hs o60 o61 zs
      have hk : k = A.2.2 := by omega
      subst hk
      refine g_iload (i := 5) (t := 198) dX7_across_196 rfl rfl ?_
      refine g_aload_n (i := 0) (r := 41) (t := 199) dX7_across_198 rfl rfl (Or.inl l9_41) rfl ?_
      refine gm_getR (o := 41) (ci := 7) (k := 12) (r := 49) (t := 202) l6_41 l9_41 s_41 gf_X7_31 rfl r_41_12 l9_49 dX7_across_199 rfl ?_
      refine g_iload_n (i := 1) (t := 203) dX7_across_202 rfl rfl rfl ?_
      refine gm_iald_n (a := 49) (n := 16) (t := 204) l6_49 l9_49 s_49 dX7_across_203 (by omega) (by decide) rfl ?_
      rw [show J 49 l = nI (A.2.1 + A.2.2) by rw [hs.at 49 rfl]; exact b5]
      refine g_icmp_ge_n (t1 := 294) (t2 := 207) dX7_across_204 (by decide) rfl (by omega) (by omega) (fun h204 => ?_) (fun h204 => ?_)
      · exact g_retV dX7_across_294 rfl (⟨hs, o60, o61, zs⟩)
      · exfalso; omega
    | succ d ih =>
      intro k J v6 v7 hk hs o60 o61 zs
      have p1 : A.2.1 ≤ A.2.1 + k := Nat.le_add_right _ _
      have p2 : A.2.1 + k < A.2.1 + A.2.2 := by omega
      obtain ⟨x1, x2⟩ := b7 (A.2.1 + k) p1 p2
      have hBJ : mB J s A l := hB.keep hs rfl
      have jC := hBJ.1
      have j46 : J 46 (A.2.1 + k) = nI (A.1.2.2.2 (A.2.1 + k)) := by rw [hs.at 46 rfl]; exact x1
      have e7 : J 42 (11 * A.1.2.2.2 (A.2.1 + k) + 7) = A.1.1 (A.1.2.2.2 (A.2.1 + k)) 7 := by rw [b8]; exact jC.2.1 _ 7 x2 (by decide)
      have wb := wy_b hV p1 p2
      have r7 := hV.2.1 (A.2.1 + k) p1 p2 7 (by decide)
      have g7 := gt2 k (by omega)
      have sp : bnd (lhA A - A.1.1 (A.1.2.2.2 (A.2.1 + k)) 7) 0 150 := by
        have ra : 1 ≤ (A.1.1 (A.1.2.2.2 (A.2.1 + k)) 7).toInt := r7.1
        have rb : (A.1.1 (A.1.2.2.2 (A.2.1 + k)) 7).toInt ≤ 100 := r7.2
        have lb := lh2.2
        unfold bnd
        rw [t_sub (by omega) (by omega)]
        omega
      have ne2 : ¬ nI 2 = 0 := by decide
      have elo : loA A (A.2.1 + k) = if wyA A (A.2.1 + k) = nI 1 then lhA A - A.1.1 (A.1.2.2.2 (A.2.1 + k)) 7 else if wyA A (A.2.1 + k) = nI 2 then fdv (lhA A - A.1.1 (A.1.2.2.2 (A.2.1 + k)) 7) (nI 2) else if wyA A (A.2.1 + k) = nI 3 then abA A A.2.2 - abv A.1.1 (A.1.2.2.2 (A.2.1 + k)) else nI 0 := rfl
      have T286 : ∀ (v w6 w7 : Int32), v = loA A (A.2.1 + k) → Wp E fX7_across 62 286 [.ref 41, .int (nI l), .int (abM A A.2.2), .int (blA A A.2.2), .int (lhA A), .int (nI (A.2.1 + k)), .int w6, .int w7] [.int v, .int T, .int (nI (A.2.1 + k)), .ref 59] (gM J h) (gRet fX7_across 62 (fun r σ' => ∃ I', r = none ∧ σ' = gM I' h ∧ gSame [59, 60, 61] I I' ∧ oneN I' I 60 l T ∧ oneN I' I 61 l (lhA A) ∧ strN I' I 59 A.2.1 (A.2.1 + A.2.2) (fun p => T + loA A p))) := by
        intro v w6 w7 hv
        refine g_iadd (t := 287) dX7_across_286 rfl ?_
        refine gm_iast_n (a := 59) (n := 16) (t := 288) l6_59 l9_59 s_59 dX7_across_287 (by omega) (by decide) rfl ?_
        refine g_iinc (i := 5) (t := 291) (L1 := [_, _, _, _, _, _, _, _]) dX7_across_288 rfl (gi_1 _) (by decide) rfl rfl rfl ?_
        refine g_goto (t := 196) dX7_across_291 (by decide) ?_
        exact ih (k + 1) _ _ _ (by omega) (hs.up rfl) (o60.keep (gup_rowo _ _ _ (by decide))) (o61.keep (gup_rowo _ _ _ (by decide))) (zs.next p1 (by rw [hv]))
      refine g_iload (i := 5) (t := 198) dX7_across_196 rfl rfl ?_
      refine g_aload_n (i := 0) (r := 41) (t := 199) dX7_across_198 rfl rfl (Or.inl l9_41) rfl ?_
      refine gm_getR (o := 41) (ci := 7) (k := 12) (r := 49) (t := 202) l6_41 l9_41 s_41 gf_X7_31 rfl r_41_12 l9_49 dX7_across_199 rfl ?_
      refine g_iload_n (i := 1) (t := 203) dX7_across_202 rfl rfl rfl ?_
      refine gm_iald_n (a := 49) (n := 16) (t := 204) l6_49 l9_49 s_49 dX7_across_203 (by omega) (by decide) rfl ?_
      rw [show J 49 l = nI (A.2.1 + A.2.2) by rw [hs.at 49 rfl]; exact b5]
      refine g_icmp_ge_n (t1 := 294) (t2 := 207) dX7_across_204 (by decide) rfl (by omega) (by omega) (fun h204 => ?_) (fun h204 => ?_)
      · exfalso; omega
      · refine g_iload (i := 4) (t := 209) dX7_across_207 rfl rfl ?_
        refine g_aload_n (i := 0) (r := 41) (t := 210) dX7_across_209 rfl rfl (Or.inl l9_41) rfl ?_
        refine g_aload_n (i := 0) (r := 41) (t := 211) dX7_across_210 rfl rfl (Or.inl l9_41) rfl ?_
        refine gm_getR (o := 41) (ci := 7) (k := 8) (r := 46) (t := 214) l6_41 l9_41 s_41 gf_X7_22 rfl r_41_8 l9_46 dX7_across_211 rfl ?_
        refine g_iload (i := 5) (t := 216) dX7_across_214 rfl rfl ?_
        refine gm_iald_n (a := 46) (n := 16) (t := 217) l6_46 l9_46 s_46 dX7_across_216 (by omega) (by decide) rfl ?_
        rw [j46]
        refine g_bipush (t := 219) dX7_across_217 c_bipush_7 rfl ?_
        refine g_cVp (o := 41) (t := 222) mX7_of k_X7_157 imX7_of seX7_of l6_41 l9_41 s_41 rfl dX7_across_219 (x7_of (by omega) (by omega)) rfl rfl (by decide) (by decide) (Nat.le_of_ble_eq_true rfl) rfl ?_
        rw [e7]
        refine g_isub (t := 223) dX7_across_222 rfl ?_
        refine g_istore (i := 6) (t := 225) (L1 := [_, _, _, _, _, _, _, _]) dX7_across_223 (by decide) rfl rfl rfl ?_
        refine g_aload_n (i := 0) (r := 41) (t := 226) dX7_across_225 rfl rfl (Or.inl l9_41) rfl ?_
        refine g_iload (i := 5) (t := 228) dX7_across_226 rfl rfl ?_
        refine g_cVp (o := 41) (t := 231) mX7_wayOf k_X7_207 imX7_wayOf seX7_wayOf l6_41 l9_41 s_41 rfl dX7_across_228 (x7_wayOf hBJ p1 p2) rfl rfl (by decide) (by decide) (Nat.le_of_ble_eq_true rfl) rfl ?_
        refine g_istore (i := 7) (t := 233) (L1 := [_, _, _, _, _, _, _, _]) dX7_across_231 (by decide) rfl rfl rfl ?_
        refine g_aload_n (i := 0) (r := 41) (t := 234) dX7_across_233 rfl rfl (Or.inl l9_41) rfl ?_
        refine gm_getR (o := 41) (ci := 7) (k := 23) (r := 59) (t := 237) l6_41 l9_41 s_41 gf_X7_62 rfl r_41_23 l9_59 dX7_across_234 rfl ?_
        refine g_iload (i := 5) (t := 239) dX7_across_237 rfl rfl ?_
        refine g_aload_n (i := 0) (r := 41) (t := 240) dX7_across_239 rfl rfl (Or.inl l9_41) rfl ?_
        refine gm_getR (o := 41) (ci := 7) (k := 24) (r := 60) (t := 243) l6_41 l9_41 s_41 gf_X7_65 rfl r_41_24 l9_60 dX7_across_240 rfl ?_
        refine g_iload_n (i := 1) (t := 244) dX7_across_243 rfl rfl rfl ?_
        refine gm_iald_n (a := 60) (n := 16) (t := 245) l6_60 l9_60 s_60 dX7_across_244 (by omega) (by decide) rfl ?_
        rw [o60.at]
        refine g_iload (i := 7) (t := 247) dX7_across_245 rfl rfl ?_
        refine g_if_ne (t1 := 254) (t2 := 250) dX7_across_247 (by decide) rfl (fun h247 => ?_) (fun h247 => ?_)
        · refine g_iload (i := 7) (t := 256) dX7_across_254 rfl rfl ?_
          refine g_iconst (t := 257) dX7_across_256 c_iconst_1 rfl ?_
          refine g_icmp_ne (t1 := 265) (t2 := 260) dX7_across_257 (by decide) rfl (fun h257 => ?_) (fun h257 => ?_)
          · refine g_iload (i := 7) (t := 267) dX7_across_265 rfl rfl ?_
            refine g_iconst (t := 268) dX7_across_267 c_iconst_2 rfl ?_
            refine g_icmp_ne (t1 := 278) (t2 := 271) dX7_across_268 (by decide) rfl (fun h268 => ?_) (fun h268 => ?_)
            · refine g_iload_n (i := 2) (t := 279) dX7_across_278 rfl rfl rfl ?_
              refine g_aload_n (i := 0) (r := 41) (t := 280) dX7_across_279 rfl rfl (Or.inl l9_41) rfl ?_
              refine g_iload (i := 5) (t := 282) dX7_across_280 rfl rfl ?_
              refine g_cVp (o := 41) (t := 285) mX7_above k_X7_210 imX7_above seX7_above l6_41 l9_41 s_41 rfl dX7_across_282 (x7_above (c := 0) (f := A.1.2.2.2) jC b2 j46 (by omega) x2) rfl rfl (by decide) (by decide) (Nat.le_of_ble_eq_true rfl) rfl ?_
              refine g_isub (t := 286) dX7_across_285 rfl ?_
              refine T286 _ _ _ ?_
              rw [elo]
              have w01 : ¬ nI 1 = 0 := by decide
              first
              | rw [if_pos h257]
              | rw [if_neg h257, if_pos h268, fdv_pos sp (by decide) (b_nI (n := 2) (a := 1) (b := 2) (by decide) (by decide) (by decide)) (by decide)]
              | (have w3 : wyA A (A.2.1 + k) = nI 3 := by
                   obtain ⟨a, ha, ha2⟩ := of_b5 wb (by decide)
                   rw [ha2] at h247 h257 h268 ⊢
                   have : a ≠ 0 := fun q => h247 (by rw [q]; rfl)
                   have : a ≠ 1 := fun q => h257 (by rw [q])
                   have : a ≠ 2 := fun q => h268 (by rw [q])
                   exact congrArg nI (by omega)
                 rw [if_neg h257, if_neg h268, if_pos w3, b8]
                 rcases abM_rel hV A.2.2 (Nat.le_refl _) with ⟨-, -, -, a4⟩ | ⟨a1, -, -⟩
                 · exact absurd w3 (a4 k (by omega))
                 · rw [a1])
              | (rw [if_neg (by rw [h247]; decide), if_neg (by rw [h247]; decide), if_neg (by rw [h247]; decide)])
            · refine g_iload (i := 6) (t := 273) dX7_across_271 rfl rfl ?_
              refine g_iconst (t := 274) dX7_across_273 c_iconst_2 rfl ?_
              refine g_idiv (t := 275) dX7_across_274 (by assumption) rfl ?_
              refine g_goto (t := 286) dX7_across_275 (by decide) ?_
              refine T286 _ _ _ ?_
              rw [elo]
              have w01 : ¬ nI 1 = 0 := by decide
              first
              | rw [if_pos h257]
              | rw [if_neg h257, if_pos h268, fdv_pos sp (by decide) (b_nI (n := 2) (a := 1) (b := 2) (by decide) (by decide) (by decide)) (by decide)]
              | (have w3 : wyA A (A.2.1 + k) = nI 3 := by
                   obtain ⟨a, ha, ha2⟩ := of_b5 wb (by decide)
                   rw [ha2] at h247 h257 h268 ⊢
                   have : a ≠ 0 := fun q => h247 (by rw [q]; rfl)
                   have : a ≠ 1 := fun q => h257 (by rw [q])
                   have : a ≠ 2 := fun q => h268 (by rw [q])
                   exact congrArg nI (by omega)
                 rw [if_neg h257, if_neg h268, if_pos w3, b8]
                 rcases abM_rel hV A.2.2 (Nat.le_refl _) with ⟨-, -, -, a4⟩ | ⟨a1, -, -⟩
                 · exact absurd w3 (a4 k (by omega))
                 · rw [a1])
              | (rw [if_neg (by rw [h247]; decide), if_neg (by rw [h247]; decide), if_neg (by rw [h247]; decide)])
          · refine g_iload (i := 6) (t := 262) dX7_across_260 rfl rfl ?_
            refine g_goto (t := 286) dX7_across_262 (by decide) ?_
            refine T286 _ _ _ ?_
            rw [elo]
            have w01 : ¬ nI 1 = 0 := by decide
            first
            | rw [if_pos h257]
            | rw [if_neg h257, if_pos h268, fdv_pos sp (by decide) (b_nI (n := 2) (a := 1) (b := 2) (by decide) (by decide) (by decide)) (by decide)]
            | (have w3 : wyA A (A.2.1 + k) = nI 3 := by
                 obtain ⟨a, ha, ha2⟩ := of_b5 wb (by decide)
                 rw [ha2] at h247 h257 h268 ⊢
                 have : a ≠ 0 := fun q => h247 (by rw [q]; rfl)
                 have : a ≠ 1 := fun q => h257 (by rw [q])
                 have : a ≠ 2 := fun q => h268 (by rw [q])
                 exact congrArg nI (by omega)
               rw [if_neg h257, if_neg h268, if_pos w3, b8]
               rcases abM_rel hV A.2.2 (Nat.le_refl _) with ⟨-, -, -, a4⟩ | ⟨a1, -, -⟩
               · exact absurd w3 (a4 k (by omega))
               · rw [a1])
            | (rw [if_neg (by rw [h247]; decide), if_neg (by rw [h247]; decide), if_neg (by rw [h247]; decide)])
        · refine g_iconst (t := 251) dX7_across_250 c_iconst_0 rfl ?_
          refine g_goto (t := 286) dX7_across_251 (by decide) ?_
          refine T286 _ _ _ ?_
          rw [elo]
          have w01 : ¬ nI 1 = 0 := by decide
          first
          | rw [if_pos h257]
          | rw [if_neg h257, if_pos h268, fdv_pos sp (by decide) (b_nI (n := 2) (a := 1) (b := 2) (by decide) (by decide) (by decide)) (by decide)]
          | (have w3 : wyA A (A.2.1 + k) = nI 3 := by
               obtain ⟨a, ha, ha2⟩ := of_b5 wb (by decide)
               rw [ha2] at h247 h257 h268 ⊢
               have : a ≠ 0 := fun q => h247 (by rw [q]; rfl)
               have : a ≠ 1 := fun q => h257 (by rw [q])
               have : a ≠ 2 := fun q => h268 (by rw [q])
               exact congrArg nI (by omega)
             rw [if_neg h257, if_neg h268, if_pos w3, b8]
             rcases abM_rel hV A.2.2 (Nat.le_refl _) with ⟨-, -, -, a4⟩ | ⟨a1, -, -⟩
             · exact absurd w3 (a4 k (by omega))
             · rw [a1])
          | (rw [if_neg (by rw [h247]; decide), if_neg (by rw [h247]; decide), if_neg (by rw [h247]; decide)])
  have T138 : ∀ L1, L1.length = 3 → Wp E fX7_across 62 138 ([.ref 41, .int (nI l), .int (abM A A.2.2), .int (blA A A.2.2), .int (gtA A A.2.2)] ++ L1) [.int (lhA A)] (gM I h) (gRet fX7_across 62 (fun r σ' => ∃ I', r = none ∧ σ' = gM I' h ∧ gSame [59, 60, 61] I I' ∧ oneN I' I 60 l T ∧ oneN I' I 61 l (lhA A) ∧ strN I' I 59 A.2.1 (A.2.1 + A.2.2) (fun p => T + loA A p))) := by
    intro L1 hL
    refine Wp.drop [.ref 41, .int (nI l), .int (abM A A.2.2), .int (blA A A.2.2), .int (gtA A A.2.2), .null, .null, .null] (fun i v a b => ?_) ?_
    · match i with
      | 0 => exact a
      | 1 => exact a
      | 2 => exact a
      | 3 => exact a
      | 4 => exact a
      | 5 => cases a; exact absurd rfl b
      | 6 => cases a; exact absurd rfl b
      | 7 => cases a; exact absurd rfl b
      | i + 8 => cases a
    · have T180 : Wp E fX7_across 62 180 [.ref 41, .int (nI l), .int (abM A A.2.2), .int (blA A A.2.2), .int (lhA A), .null, .null, .null] [] (gM (gup I 60 l T) h) (gRet fX7_across 62 (fun r σ' => ∃ I', r = none ∧ σ' = gM I' h ∧ gSame [59, 60, 61] I I' ∧ oneN I' I 60 l T ∧ oneN I' I 61 l (lhA A) ∧ strN I' I 59 A.2.1 (A.2.1 + A.2.2) (fun p => T + loA A p))) := by
        refine g_aload_n (i := 0) (r := 41) (t := 181) dX7_across_180 rfl rfl (Or.inl l9_41) rfl ?_
        refine gm_getR (o := 41) (ci := 7) (k := 25) (r := 61) (t := 184) l6_41 l9_41 s_41 gf_X7_68 rfl r_41_25 l9_61 dX7_across_181 rfl ?_
        refine g_iload_n (i := 1) (t := 185) dX7_across_184 rfl rfl rfl ?_
        refine g_iload (i := 4) (t := 187) dX7_across_185 rfl rfl ?_
        refine gm_iast_n (a := 61) (n := 16) (t := 188) l6_61 l9_61 s_61 dX7_across_187 (by omega) (by decide) rfl ?_
        refine g_aload_n (i := 0) (r := 41) (t := 189) dX7_across_188 rfl rfl (Or.inl l9_41) rfl ?_
        refine gm_getR (o := 41) (ci := 7) (k := 11) (r := 48) (t := 192) l6_41 l9_41 s_41 gf_X7_28 rfl r_41_11 l9_48 dX7_across_189 rfl ?_
        refine g_iload_n (i := 1) (t := 193) dX7_across_192 rfl rfl rfl ?_
        refine gm_iald_n (a := 48) (n := 16) (t := 194) l6_48 l9_48 s_48 dX7_across_193 (by omega) (by decide) rfl ?_
        rw [gup_o _ _ _ _ (by decide), gup_o _ _ _ _ (by decide), b4]
        refine g_istore (i := 5) (t := 196) (L1 := [_, _, _, _, _, _, _, _]) dX7_across_194 (by decide) rfl rfl rfl ?_
        exact L A.2.2 0 _ _ _ (Nat.zero_add _) ((gSame.rf.up rfl).up rfl) ((oneN.one rfl).keep (gup_rowo _ _ _ (by decide))) (oneN.one (gup_rowo _ _ _ (by decide))) (strN.rf.keep ((gup_rowo _ _ _ (by decide)).trans (gup_rowo _ _ _ (by decide))))
      cases l with
      | zero =>
        rw [if_pos rfl] at hT
        subst hT
        refine g_istore (i := 4) (t := 140) (L1 := [_, _, _, _, _, _, _, _]) dX7_across_138 (by decide) rfl rfl rfl ?_
        refine g_aload_n (i := 0) (r := 41) (t := 141) dX7_across_140 rfl rfl (Or.inl l9_41) rfl ?_
        refine gm_getR (o := 41) (ci := 7) (k := 24) (r := 60) (t := 144) l6_41 l9_41 s_41 gf_X7_65 rfl r_41_24 l9_60 dX7_across_141 rfl ?_
        refine g_iload_n (i := 1) (t := 145) dX7_across_144 rfl rfl rfl ?_
        refine g_iload_n (i := 1) (t := 146) dX7_across_145 rfl rfl rfl ?_
        refine g_if_ne (t1 := 153) (t2 := 149) dX7_across_146 (by decide) rfl (fun h146 => ?_) (fun h146 => ?_)
        · exact absurd rfl h146
        · refine g_iconst (t := 150) dX7_across_149 c_iconst_0 rfl ?_
          refine g_goto (t := 179) dX7_across_150 (by decide) ?_
          refine gm_iast_n (a := 60) (n := 16) (t := 180) l6_60 l9_60 s_60 dX7_across_179 (by omega) (by decide) rfl ?_
          exact T180
      | succ l =>
        rw [if_neg (Nat.succ_ne_zero _)] at hT
        have hT : T = I 60 l + I 61 l + A.1.2.1 2 := hT
        refine g_istore (i := 4) (t := 140) (L1 := [_, _, _, _, _, _, _, _]) dX7_across_138 (by decide) rfl rfl rfl ?_
        refine g_aload_n (i := 0) (r := 41) (t := 141) dX7_across_140 rfl rfl (Or.inl l9_41) rfl ?_
        refine gm_getR (o := 41) (ci := 7) (k := 24) (r := 60) (t := 144) l6_41 l9_41 s_41 gf_X7_65 rfl r_41_24 l9_60 dX7_across_141 rfl ?_
        refine g_iload_n (i := 1) (t := 145) dX7_across_144 rfl rfl rfl ?_
        refine g_iload_n (i := 1) (t := 146) dX7_across_145 rfl rfl rfl ?_
        refine g_if_ne (t1 := 153) (t2 := 149) dX7_across_146 (by decide) rfl (fun h146 => ?_) (fun h146 => ?_)
        · refine g_aload_n (i := 0) (r := 41) (t := 154) dX7_across_153 rfl rfl (Or.inl l9_41) rfl ?_
          refine gm_getR (o := 41) (ci := 7) (k := 24) (r := 60) (t := 157) l6_41 l9_41 s_41 gf_X7_65 rfl r_41_24 l9_60 dX7_across_154 rfl ?_
          refine g_iload_n (i := 1) (t := 158) dX7_across_157 rfl rfl rfl ?_
          refine g_iconst (t := 159) dX7_across_158 c_iconst_1 rfl ?_
          refine g_isub (t := 160) dX7_across_159 rfl ?_
          refine g_top (gi_p _) ?_
          refine gm_iald_n (a := 60) (n := 16) (t := 161) l6_60 l9_60 s_60 dX7_across_160 (by omega) (by decide) rfl ?_
          refine g_aload_n (i := 0) (r := 41) (t := 162) dX7_across_161 rfl rfl (Or.inl l9_41) rfl ?_
          refine gm_getR (o := 41) (ci := 7) (k := 25) (r := 61) (t := 165) l6_41 l9_41 s_41 gf_X7_68 rfl r_41_25 l9_61 dX7_across_162 rfl ?_
          refine g_iload_n (i := 1) (t := 166) dX7_across_165 rfl rfl rfl ?_
          refine g_iconst (t := 167) dX7_across_166 c_iconst_1 rfl ?_
          refine g_isub (t := 168) dX7_across_167 rfl ?_
          refine g_top (gi_p _) ?_
          refine gm_iald_n (a := 61) (n := 16) (t := 169) l6_61 l9_61 s_61 dX7_across_168 (by omega) (by decide) rfl ?_
          refine g_iadd (t := 170) dX7_across_169 rfl ?_
          refine g_aload_n (i := 0) (r := 41) (t := 171) dX7_across_170 rfl rfl (Or.inl l9_41) rfl ?_
          refine gm_getR (o := 41) (ci := 7) (k := 0) (r := 42) (t := 174) l6_41 l9_41 s_41 gf_X7_7 rfl r_41_0 l9_42 dX7_across_171 rfl ?_
          refine g_sipush (t := 177) dX7_across_174 c_sipush_179 rfl ?_
          refine gm_iald_n (a := 42) (n := 184) (t := 178) l6_42 l9_42 s_42 dX7_across_177 (by omega) (by decide) rfl ?_
          rw [show I 42 179 = A.1.2.1 2 by rw [b9]; exact b1.2.2 2 (by decide)]
          refine g_iadd (t := 179) dX7_across_178 rfl ?_
          refine g_top (y := T) hT.symm ?_
          refine gm_iast_n (a := 60) (n := 16) (t := 180) l6_60 l9_60 s_60 dX7_across_179 (by omega) (by decide) rfl ?_
          exact T180
        · exact absurd h146 (nI_ne0 (by omega) (by omega))
  have T118 : ∀ L1, Wp E fX7_across 62 118 ([.ref 41, .int (nI l), .int (abM A A.2.2), .int (blA A A.2.2), .int (gtA A A.2.2)] ++ L1) [] (gM I h) (gRet fX7_across 62 (fun r σ' => ∃ I', r = none ∧ σ' = gM I' h ∧ gSame [59, 60, 61] I I' ∧ oneN I' I 60 l T ∧ oneN I' I 61 l (lhA A) ∧ strN I' I 59 A.2.1 (A.2.1 + A.2.2) (fun p => T + loA A p))) := by
    intro L1
    refine Wp.drop [.ref 41, .int (nI l), .int (abM A A.2.2), .int (blA A A.2.2), .int (gtA A A.2.2), .null, .null, .null] (fun i v a b => ?_) ?_
    · match i with
      | 0 => exact a
      | 1 => exact a
      | 2 => exact a
      | 3 => exact a
      | 4 => exact a
      | 5 => cases a; exact absurd rfl b
      | 6 => cases a; exact absurd rfl b
      | 7 => cases a; exact absurd rfl b
      | i + 8 => cases a
    · refine g_iload_n (i := 2) (t := 119) dX7_across_118 rfl rfl rfl ?_
      refine g_sipush (t := 122) dX7_across_119 c_sipush_m1001 rfl ?_
      refine g_icmp_ne (t1 := 130) (t2 := 125) dX7_across_122 (by decide) rfl (fun h122 => ?_) (fun h122 => ?_)
      · refine g_iload (i := 4) (t := 132) dX7_across_130 rfl rfl ?_
        refine g_iload_n (i := 2) (t := 133) dX7_across_132 rfl rfl rfl ?_
        refine g_iload_n (i := 3) (t := 134) dX7_across_133 rfl rfl rfl ?_
        refine g_iadd (t := 135) dX7_across_134 rfl ?_
        refine g_cSp (t := 138) mX7_greater k_X7_167 smX7_greater dX7_across_135 (x7_greater) rfl rfl (by decide) (by decide) (Nat.le_of_ble_eq_true rfl) rfl ?_
        refine g_top (y := lhA A) (by
            rw [lh1]
            first
            | rw [if_pos h122]
            | rw [if_neg h122]) ?_
        exact T138 [.null, .null, .null] rfl
      · refine g_iload (i := 4) (t := 127) dX7_across_125 rfl rfl ?_
        refine g_goto (t := 138) dX7_across_127 (by decide) ?_
        refine g_top (y := lhA A) (by
            rw [lh1]
            first
            | rw [if_pos h122]
            | rw [if_neg h122]) ?_
        exact T138 [.null, .null, .null] rfl
  refine g_sipush (t := 3) dX7_across_0 c_sipush_m1001 rfl ?_
  refine g_istore_n (i := 2) (t := 4) (L1 := [_, _, _, _, _, _, _, _]) dX7_across_3 rfl (by decide) rfl rfl rfl ?_
  refine g_iconst (t := 5) dX7_across_4 c_iconst_0 rfl ?_
  refine g_istore_n (i := 3) (t := 6) (L1 := [_, _, _, _, _, _, _, _]) dX7_across_5 rfl (by decide) rfl rfl rfl ?_
  refine g_iconst (t := 7) dX7_across_6 c_iconst_0 rfl ?_
  refine g_istore (i := 4) (t := 9) (L1 := [_, _, _, _, _, _, _, _]) dX7_across_7 (by decide) rfl rfl rfl ?_
  refine g_aload_n (i := 0) (r := 41) (t := 10) dX7_across_9 rfl rfl (Or.inl l9_41) rfl ?_
  refine gm_getR (o := 41) (ci := 7) (k := 11) (r := 48) (t := 13) l6_41 l9_41 s_41 gf_X7_28 rfl r_41_11 l9_48 dX7_across_10 rfl ?_
  refine g_iload_n (i := 1) (t := 14) dX7_across_13 rfl rfl rfl ?_
  refine gm_iald_n (a := 48) (n := 16) (t := 15) l6_48 l9_48 s_48 dX7_across_14 (by omega) (by decide) rfl ?_
  rw [b4]
  refine g_istore (i := 5) (t := 17) (L1 := [_, _, _, _, _, _, _, _]) dX7_across_15 (by decide) rfl rfl rfl ?_
  exact x7_ax_max hB A.2.2 0 _ (Nat.zero_add _) T118
end X7O

