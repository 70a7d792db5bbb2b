/-! FlexRowsModel: sharing, its parts -/
def mB (I : Nat → Nat → Int32) (s : sS) (A : lA) (l : Nat) : Prop := mC I s ∧ s.1 ≤ 16 ∧ l < 16 ∧ I 48 l = nI A.2.1 ∧ I 49 l = nI (A.2.1 + A.2.2) ∧ A.2.1 + A.2.2 ≤ 16 ∧ (∀ p, A.2.1 ≤ p → p < A.2.1 + A.2.2 → I 46 p = nI (A.1.2.2.2 p) ∧ A.1.2.2.2 p < s.1) ∧ A.1.1 = s.2.1 ∧ A.1.2.1 = s.2.2
theorem mB.keep {I I' : Nat → Nat → Int32} {s : sS} {A : lA} {l : Nat} {cs : List Nat} (h : mB I s A l) (hs : gSame cs I I') (hc : [42, 46, 48, 49].all (fun c => !cs.contains c) = true) : mB I' s A l := by
  have key : ∀ c ∈ [42, 46, 48, 49], I' c = I c := fun c hm => hs.at c (by have := List.all_eq_true.mp hc c hm; simpa using this)
  obtain ⟨h1, h2, h3, h4, h5, h6, h7, h8⟩ := h
  exact ⟨h1.keep (key 42 (by decide)), h2, h3, by rw [key 48 (by decide)]; exact h4, by rw [key 49 (by decide)]; exact h5, h6, fun p a b => by rw [key 46 (by decide)]; exact h7 p a b, h8⟩
/-- the line as it stands between passes -/
def mZ (I : Nat → Nat → Int32) (A : lA) (z : lZ) (l : Nat) : Prop := I 54 l = rmL A ∧ I 57 l = bI (grL A) ∧ ∀ p, A.2.1 ≤ p → p < A.2.1 + A.2.2 → I 53 p = bI (z.1 p).isSome ∧ (z.1 p ≠ none → I 50 p = z.2 p ∧ I 52 p = ovS (z.1 p))
theorem mZ.keep {I I' : Nat → Nat → Int32} {A : lA} {z : lZ} {l : Nat} {cs : List Nat} (h : mZ I A z l) (hs : gSame cs I I') (hc : [50, 52, 53, 54, 57].all (fun c => !cs.contains c) = true) : mZ I' A z l := by
  have key : ∀ c ∈ [50, 52, 53, 54, 57], I' c = I c := fun c hm => hs.at c (by have := List.all_eq_true.mp hc c hm; simpa using this)
  rw [mZ, key 50 (by decide), key 52 (by decide), key 53 (by decide), key 54 (by decide), key 57 (by decide)]
  exact h
theorem sm_none {o : Option Nat} : o.isSome = false ↔ o = none := by cases o <;> simp
theorem sm_some {o : Option Nat} : o.isSome = true ↔ o ≠ none := by cases o <;> simp
section X7K
variable {E : gE} {I : Nat → Nat → Int32} {h : Int64} {s : sS} {A : lA} {z : lZ} {l : Nat}
theorem x7_weight {i : Nat} {g : Bool} (hC : mC I s) (hn : s.1 ≤ 16) (hi : i < s.1) : gPI E fX7_weight [.ref 41, .int (nI i), .int (bI g)] I h (wgt s.2.1 g i) := by
  refine gEv.of rfl (Nat.le_refl _) (Nat.le_of_ble_eq_true rfl) (L := [.ref 41, .int (nI i), .int (bI g)]) rfl ?_
  refine g_iload_n (i := 2) (t := 1) dX7_weight_0 rfl rfl rfl ?_
  refine g_if_eq (t1 := 13) (t2 := 4) dX7_weight_1 (by decide) rfl (fun h1 => ?_) (fun h1 => ?_)
  · refine g_aload_n (i := 0) (r := 41) (t := 14) dX7_weight_13 rfl rfl (Or.inl l9_41) rfl ?_
    refine g_iload_n (i := 1) (t := 15) dX7_weight_14 rfl rfl rfl ?_
    refine g_iconst (t := 16) dX7_weight_15 c_iconst_2 rfl ?_
    refine g_cVp (o := 41) (t := 19) mX7_of k_X7_157 imX7_of seX7_of l6_41 l9_41 s_41 rfl dX7_weight_16 (x7_of (by omega) (by omega)) rfl rfl (by decide) (by decide) (Nat.le_of_ble_eq_true rfl) rfl ?_
    refine g_aload_n (i := 0) (r := 41) (t := 20) dX7_weight_19 rfl rfl (Or.inl l9_41) rfl ?_
    refine g_iload_n (i := 1) (t := 21) dX7_weight_20 rfl rfl rfl ?_
    refine g_iconst (t := 22) dX7_weight_21 c_iconst_0 rfl ?_
    refine g_cVp (o := 41) (t := 25) mX7_of k_X7_157 imX7_of seX7_of l6_41 l9_41 s_41 rfl dX7_weight_22 (x7_of (by omega) (by omega)) rfl rfl (by decide) (by decide) (Nat.le_of_ble_eq_true rfl) rfl ?_
    refine g_imul (t := 26) dX7_weight_25 rfl ?_
    exact g_retP dX7_weight_26 rfl rfl (by
    unfold wgt
    first
    | (rw [if_neg (by rw [bI_0 h1]; decide), hC.2.1 i 2 hi (by decide), hC.2.1 i 0 hi (by decide)])
    | (rw [if_pos (bI_n0 h1)]; exact hC.2.1 i 1 hi (by decide)))
  · refine g_aload_n (i := 0) (r := 41) (t := 5) dX7_weight_4 rfl rfl (Or.inl l9_41) rfl ?_
    refine g_iload_n (i := 1) (t := 6) dX7_weight_5 rfl rfl rfl ?_
    refine g_iconst (t := 7) dX7_weight_6 c_iconst_1 rfl ?_
    refine g_cVp (o := 41) (t := 10) mX7_of k_X7_157 imX7_of seX7_of l6_41 l9_41 s_41 rfl dX7_weight_7 (x7_of (by omega) (by omega)) rfl rfl (by decide) (by decide) (Nat.le_of_ble_eq_true rfl) rfl ?_
    refine g_goto (t := 26) dX7_weight_10 (by decide) ?_
    exact g_retP dX7_weight_26 rfl rfl (by
    unfold wgt
    first
    | (rw [if_neg (by rw [bI_0 h1]; decide), hC.2.1 i 2 hi (by decide), hC.2.1 i 0 hi (by decide)])
    | (rw [if_pos (bI_n0 h1)]; exact hC.2.1 i 1 hi (by decide)))
theorem x7_sh_loop (hB : mB I s A l) (hZ : mZ I A z l) : ∀ (d k : Nat), k + d = A.2.2 → Wp E fX7_share 62 14 [.ref 41, .int (nI l), .int (sbS (rmL A) (feG A z) A.2.1 k), .int (nI (A.2.1 + k))] [] (gM I h) (gRet fX7_share 62 (fun r σ' => r = some (.int (shL A z)) ∧ σ' = gM I h)) := by
  obtain ⟨b1, b2, b3, b4, b5, b6, b7, b8, b9⟩ := hB
  obtain ⟨z1, z2, z3⟩ := hZ
  intro d
  induction d with
  | zero =>
    intro k hk
    have hk : k = A.2.2 := by omega
    subst hk
    have T : ∀ v, v = (if grL A then feL A z else -feL A z) → Wp E fX7_share 62 78 [.ref 41, .int (nI l), .int (feL A z), .int (nI (A.2.1 + A.2.2))] [.int v, .int (nI 0)] (gM I h) (gRet fX7_share 62 (fun r σ' => r = some (.int (shL A z)) ∧ σ' = gM I h)) := by
      intro v hv
      refine g_cSp (t := 81) mX7_greater k_X7_167 smX7_greater dX7_share_78 (x7_greater) rfl rfl (by decide) (by decide) (Nat.le_of_ble_eq_true rfl) rfl ?_
      exact g_retP dX7_share_81 rfl rfl (by rw [mx_comm, hv]; rfl)
    refine g_iload_n (i := 3) (t := 15) dX7_share_14 rfl rfl rfl ?_
    refine g_aload_n (i := 0) (r := 41) (t := 16) dX7_share_15 rfl rfl (Or.inl l9_41) rfl ?_
    refine gm_getR (o := 41) (ci := 7) (k := 12) (r := 49) (t := 19) l6_41 l9_41 s_41 gf_X7_31 rfl r_41_12 l9_49 dX7_share_16 rfl ?_
    refine g_iload_n (i := 1) (t := 20) dX7_share_19 rfl rfl rfl ?_
    refine gm_iald_n (a := 49) (n := 16) (t := 21) l6_49 l9_49 s_49 dX7_share_20 (by omega) (by decide) rfl ?_
    rw [b5]
    refine g_icmp_ge_n (t1 := 62) (t2 := 24) dX7_share_21 (by decide) rfl (by omega) (by omega) (fun h21 => ?_) (fun h21 => ?_)
    · refine g_iconst (t := 63) dX7_share_62 c_iconst_0 rfl ?_
      refine g_aload_n (i := 0) (r := 41) (t := 64) dX7_share_63 rfl rfl (Or.inl l9_41) rfl ?_
      refine gm_getR (o := 41) (ci := 7) (k := 21) (r := 57) (t := 67) l6_41 l9_41 s_41 gf_X7_56 rfl r_41_21 l9_57 dX7_share_64 rfl ?_
      refine g_iload_n (i := 1) (t := 68) dX7_share_67 rfl rfl rfl ?_
      refine gm_zald_n (a := 57) (n := 16) (t := 69) l6_57 l9_57 s_57 dX7_share_68 (by omega) (by decide) rfl ?_
      rw [z2]
      refine g_if_eq (t1 := 76) (t2 := 72) dX7_share_69 (by decide) rfl (fun h69 => ?_) (fun h69 => ?_)
      · refine g_iload_n (i := 2) (t := 77) dX7_share_76 rfl rfl rfl ?_
        refine g_ineg (t := 78) dX7_share_77 rfl ?_
        first
        | exact T _ (if_neg (by rw [bI_0 h69]; decide)).symm
        | exact T _ (if_pos (bI_n0 h69)).symm
      · refine g_iload_n (i := 2) (t := 73) dX7_share_72 rfl rfl rfl ?_
        refine g_goto (t := 78) dX7_share_73 (by decide) ?_
        first
        | exact T _ (if_neg (by rw [bI_0 h69]; decide)).symm
        | exact T _ (if_pos (bI_n0 h69)).symm
    · exfalso; omega
  | succ d ih =>
    intro k hk
    obtain ⟨y1, y2⟩ := z3 (A.2.1 + k) (by omega) (by omega)
    obtain ⟨x1, x2⟩ := b7 (A.2.1 + k) (by omega) (by omega)
    refine g_iload_n (i := 3) (t := 15) dX7_share_14 rfl rfl rfl ?_
    refine g_aload_n (i := 0) (r := 41) (t := 16) dX7_share_15 rfl rfl (Or.inl l9_41) rfl ?_
    refine gm_getR (o := 41) (ci := 7) (k := 12) (r := 49) (t := 19) l6_41 l9_41 s_41 gf_X7_31 rfl r_41_12 l9_49 dX7_share_16 rfl ?_
    refine g_iload_n (i := 1) (t := 20) dX7_share_19 rfl rfl rfl ?_
    refine gm_iald_n (a := 49) (n := 16) (t := 21) l6_49 l9_49 s_49 dX7_share_20 (by omega) (by decide) rfl ?_
    rw [b5]
    refine g_icmp_ge_n (t1 := 62) (t2 := 24) dX7_share_21 (by decide) rfl (by omega) (by omega) (fun h21 => ?_) (fun h21 => ?_)
    · exfalso; omega
    · refine g_iload_n (i := 2) (t := 25) dX7_share_24 rfl rfl rfl ?_
      refine g_aload_n (i := 0) (r := 41) (t := 26) dX7_share_25 rfl rfl (Or.inl l9_41) rfl ?_
      refine gm_getR (o := 41) (ci := 7) (k := 17) (r := 53) (t := 29) l6_41 l9_41 s_41 gf_X7_43 rfl r_41_17 l9_53 dX7_share_26 rfl ?_
      refine g_iload_n (i := 3) (t := 30) dX7_share_29 rfl rfl rfl ?_
      refine gm_zald_n (a := 53) (n := 16) (t := 31) l6_53 l9_53 s_53 dX7_share_30 (by omega) (by decide) rfl ?_
      rw [y1]
      refine g_if_eq (t1 := 43) (t2 := 34) dX7_share_31 (by decide) rfl (fun h31 => ?_) (fun h31 => ?_)
      · refine g_aload_n (i := 0) (r := 41) (t := 44) dX7_share_43 rfl rfl (Or.inl l9_41) rfl ?_
        refine g_aload_n (i := 0) (r := 41) (t := 45) dX7_share_44 rfl rfl (Or.inl l9_41) rfl ?_
        refine gm_getR (o := 41) (ci := 7) (k := 8) (r := 46) (t := 48) l6_41 l9_41 s_41 gf_X7_22 rfl r_41_8 l9_46 dX7_share_45 rfl ?_
        refine g_iload_n (i := 3) (t := 49) dX7_share_48 rfl rfl rfl ?_
        refine gm_iald_n (a := 46) (n := 16) (t := 50) l6_46 l9_46 s_46 dX7_share_49 (by omega) (by decide) rfl ?_
        rw [x1]
        refine g_iconst (t := 51) dX7_share_50 c_iconst_0 rfl ?_
        refine g_cVp (o := 41) (t := 54) mX7_of k_X7_157 imX7_of seX7_of l6_41 l9_41 s_41 rfl dX7_share_51 (x7_of (by omega) (by omega)) rfl rfl (by decide) (by decide) (Nat.le_of_ble_eq_true rfl) rfl ?_
        first
        | skip
        refine g_isub (t := 55) dX7_share_54 rfl ?_
        refine g_top (y := sbS (rmL A) (feG A z) A.2.1 (k + 1)) (by
            rw [sbS, feG]
            first
            | rw [if_pos (sm_none.mp (bI_0 h31)), b1.2.1 _ 0 x2 (by decide), b8]
            | rw [if_neg (sm_some.mp (bI_n0 h31)), (y2 (sm_some.mp (bI_n0 h31))).1]) ?_
        refine g_istore_n (i := 2) (t := 56) (L1 := [_, _, _, _]) dX7_share_55 rfl (by decide) rfl rfl rfl ?_
        refine g_iinc (i := 3) (t := 59) (L1 := [_, _, _, _]) dX7_share_56 rfl (gi_1 _) (by decide) rfl rfl rfl ?_
        refine g_goto (t := 14) dX7_share_59 (by decide) ?_
        exact ih (k + 1) (by omega)
      · refine g_aload_n (i := 0) (r := 41) (t := 35) dX7_share_34 rfl rfl (Or.inl l9_41) rfl ?_
        refine gm_getR (o := 41) (ci := 7) (k := 14) (r := 50) (t := 38) l6_41 l9_41 s_41 gf_X7_34 rfl r_41_14 l9_50 dX7_share_35 rfl ?_
        refine g_iload_n (i := 3) (t := 39) dX7_share_38 rfl rfl rfl ?_
        refine gm_iald_n (a := 50) (n := 16) (t := 40) l6_50 l9_50 s_50 dX7_share_39 (by omega) (by decide) rfl ?_
        refine g_goto (t := 54) dX7_share_40 (by decide) ?_
        first
        | skip
        refine g_isub (t := 55) dX7_share_54 rfl ?_
        refine g_top (y := sbS (rmL A) (feG A z) A.2.1 (k + 1)) (by
            rw [sbS, feG]
            first
            | rw [if_pos (sm_none.mp (bI_0 h31)), b1.2.1 _ 0 x2 (by decide), b8]
            | rw [if_neg (sm_some.mp (bI_n0 h31)), (y2 (sm_some.mp (bI_n0 h31))).1]) ?_
        refine g_istore_n (i := 2) (t := 56) (L1 := [_, _, _, _]) dX7_share_55 rfl (by decide) rfl rfl rfl ?_
        refine g_iinc (i := 3) (t := 59) (L1 := [_, _, _, _]) dX7_share_56 rfl (gi_1 _) (by decide) rfl rfl rfl ?_
        refine g_goto (t := 14) dX7_share_59 (by decide) ?_
        exact ih (k + 1) (by omega)
theorem x7_share (hB : mB I s A l) (hZ : mZ I A z l) : gPI E fX7_share [.ref 41, .int (nI l)] I h (shL A z) := by
  refine gEv.of rfl (Nat.le_refl _) (Nat.le_of_ble_eq_true rfl) (L := [.ref 41, .int (nI l), .null, .null]) rfl ?_
  have h3 := hB.2.2.1
  refine g_aload_n (i := 0) (r := 41) (t := 1) dX7_share_0 rfl rfl (Or.inl l9_41) rfl ?_
  refine gm_getR (o := 41) (ci := 7) (k := 18) (r := 54) (t := 4) l6_41 l9_41 s_41 gf_X7_47 rfl r_41_18 l9_54 dX7_share_1 rfl ?_
  refine g_iload_n (i := 1) (t := 5) dX7_share_4 rfl rfl rfl ?_
  refine gm_iald_n (a := 54) (n := 16) (t := 6) l6_54 l9_54 s_54 dX7_share_5 (by omega) (by decide) rfl ?_
  rw [hZ.1]
  refine g_istore_n (i := 2) (t := 7) (L1 := [_, _, _, _]) dX7_share_6 rfl (by decide) rfl rfl rfl ?_
  refine g_aload_n (i := 0) (r := 41) (t := 8) dX7_share_7 rfl rfl (Or.inl l9_41) rfl ?_
  refine gm_getR (o := 41) (ci := 7) (k := 11) (r := 48) (t := 11) l6_41 l9_41 s_41 gf_X7_28 rfl r_41_11 l9_48 dX7_share_8 rfl ?_
  refine g_iload_n (i := 1) (t := 12) dX7_share_11 rfl rfl rfl ?_
  refine gm_iald_n (a := 48) (n := 16) (t := 13) l6_48 l9_48 s_48 dX7_share_12 (by omega) (by decide) rfl ?_
  rw [hB.2.2.2.1]
  refine g_istore_n (i := 3) (t := 14) (L1 := [_, _, _, _]) dX7_share_13 rfl (by decide) rfl rfl rfl ?_
  exact x7_sh_loop hB hZ A.2.2 0 (Nat.zero_add _)
theorem x7_il_loop (hB : mB I s A l) (hZ : mZ I A z l) : ∀ (d k : Nat) (b : Bool), k + d = A.2.2 → (b = true ↔ ∃ j, j < k ∧ z.1 (A.2.1 + j) = none) → Wp E fX7_isLeft 62 9 [.ref 41, .int (nI l), .int (bI b), .int (nI (A.2.1 + k))] [] (gM I h) (gRet fX7_isLeft 62 (fun r σ' => r = some (.int (bI (opL A z))) ∧ σ' = gM I h)) := by
  obtain ⟨b1, b2, b3, b4, b5, b6, b7, b8, b9⟩ := hB
  obtain ⟨z1, z2, z3⟩ := hZ
  intro d
  induction d with
  | zero =>
    intro k b hk hb
    have hk : k = A.2.2 := by omega
    subst hk
    have e : b = opL A z := by
      cases y : opL A z with
      | true => exact hb.mpr ((opL_iff A z).mp y)
      | false =>
        cases b with
        | false => rfl
        | true => rw [(opL_iff A z).mpr (hb.mp rfl)] at y; exact y
    refine g_iload_n (i := 3) (t := 10) dX7_isLeft_9 rfl rfl rfl ?_
    refine g_aload_n (i := 0) (r := 41) (t := 11) dX7_isLeft_10 rfl rfl (Or.inl l9_41) rfl ?_
    refine gm_getR (o := 41) (ci := 7) (k := 12) (r := 49) (t := 14) l6_41 l9_41 s_41 gf_X7_31 rfl r_41_12 l9_49 dX7_isLeft_11 rfl ?_
    refine g_iload_n (i := 1) (t := 15) dX7_isLeft_14 rfl rfl rfl ?_
    refine gm_iald_n (a := 49) (n := 16) (t := 16) l6_49 l9_49 s_49 dX7_isLeft_15 (by omega) (by decide) rfl ?_
    rw [b5]
    refine g_icmp_ge_n (t1 := 44) (t2 := 19) dX7_isLeft_16 (by decide) rfl (by omega) (by omega) (fun h16 => ?_) (fun h16 => ?_)
    · refine g_iload_n (i := 2) (t := 45) dX7_isLeft_44 rfl rfl rfl ?_
      exact g_retP dX7_isLeft_45 rfl (by cases b <;> decide +kernel) (by rw [e])
    · exfalso; omega
  | succ d ih =>
    intro k b hk hb
    obtain ⟨y1, y2⟩ := z3 (A.2.1 + k) (by omega) (by omega)
    refine g_iload_n (i := 3) (t := 10) dX7_isLeft_9 rfl rfl rfl ?_
    refine g_aload_n (i := 0) (r := 41) (t := 11) dX7_isLeft_10 rfl rfl (Or.inl l9_41) rfl ?_
    refine gm_getR (o := 41) (ci := 7) (k := 12) (r := 49) (t := 14) l6_41 l9_41 s_41 gf_X7_31 rfl r_41_12 l9_49 dX7_isLeft_11 rfl ?_
    refine g_iload_n (i := 1) (t := 15) dX7_isLeft_14 rfl rfl rfl ?_
    refine gm_iald_n (a := 49) (n := 16) (t := 16) l6_49 l9_49 s_49 dX7_isLeft_15 (by omega) (by decide) rfl ?_
    rw [b5]
    refine g_icmp_ge_n (t1 := 44) (t2 := 19) dX7_isLeft_16 (by decide) rfl (by omega) (by omega) (fun h16 => ?_) (fun h16 => ?_)
    · exfalso; omega
    · refine g_iload_n (i := 2) (t := 20) dX7_isLeft_19 rfl rfl rfl ?_
      refine g_if_ne (t1 := 32) (t2 := 23) dX7_isLeft_20 (by decide) rfl (fun h20 => ?_) (fun h20 => ?_)
      · refine g_iconst (t := 33) dX7_isLeft_32 c_iconst_1 rfl ?_
        refine g_goto (t := 37) dX7_isLeft_33 (by decide) ?_
        refine g_istore_n (i := 2) (t := 38) (L1 := [_, _, _, _]) dX7_isLeft_37 rfl (by decide) rfl rfl rfl ?_
        refine g_iinc (i := 3) (t := 41) (L1 := [_, _, _, _]) dX7_isLeft_38 rfl (gi_1 _) (by decide) rfl rfl rfl ?_
        refine g_goto (t := 9) dX7_isLeft_41 (by decide) ?_
        first
        | (refine ih (k + 1) true (by omega) ⟨fun _ => ⟨k, by omega, sm_none.mp (bI_0 h29)⟩, fun _ => rfl⟩)
        | (refine ih (k + 1) false (by omega) ⟨fun q => absurd q (by decide), fun ⟨j, j1, j2⟩ => ?_⟩
           by_cases y : j = k
           · subst y; exact absurd j2 (sm_some.mp (bI_n0 h29))
           · have := hb.mpr ⟨j, by omega, j2⟩
             rw [bI_0 h20] at this; exact absurd this (by decide))
        | (obtain ⟨j, j1, j2⟩ := hb.mp (bI_n0 h20)
           exact ih (k + 1) true (by omega) ⟨fun _ => ⟨j, by omega, j2⟩, fun _ => rfl⟩)
      · refine g_aload_n (i := 0) (r := 41) (t := 24) dX7_isLeft_23 rfl rfl (Or.inl l9_41) rfl ?_
        refine gm_getR (o := 41) (ci := 7) (k := 17) (r := 53) (t := 27) l6_41 l9_41 s_41 gf_X7_43 rfl r_41_17 l9_53 dX7_isLeft_24 rfl ?_
        refine g_iload_n (i := 3) (t := 28) dX7_isLeft_27 rfl rfl rfl ?_
        refine gm_zald_n (a := 53) (n := 16) (t := 29) l6_53 l9_53 s_53 dX7_isLeft_28 (by omega) (by decide) rfl ?_
        rw [y1]
        refine g_if_ne (t1 := 36) (t2 := 32) dX7_isLeft_29 (by decide) rfl (fun h29 => ?_) (fun h29 => ?_)
        · refine g_iconst (t := 37) dX7_isLeft_36 c_iconst_0 rfl ?_
          refine g_istore_n (i := 2) (t := 38) (L1 := [_, _, _, _]) dX7_isLeft_37 rfl (by decide) rfl rfl rfl ?_
          refine g_iinc (i := 3) (t := 41) (L1 := [_, _, _, _]) dX7_isLeft_38 rfl (gi_1 _) (by decide) rfl rfl rfl ?_
          refine g_goto (t := 9) dX7_isLeft_41 (by decide) ?_
          first
          | (refine ih (k + 1) true (by omega) ⟨fun _ => ⟨k, by omega, sm_none.mp (bI_0 h29)⟩, fun _ => rfl⟩)
          | (refine ih (k + 1) false (by omega) ⟨fun q => absurd q (by decide), fun ⟨j, j1, j2⟩ => ?_⟩
             by_cases y : j = k
             · subst y; exact absurd j2 (sm_some.mp (bI_n0 h29))
             · have := hb.mpr ⟨j, by omega, j2⟩
               rw [bI_0 h20] at this; exact absurd this (by decide))
          | (obtain ⟨j, j1, j2⟩ := hb.mp (bI_n0 h20)
             exact ih (k + 1) true (by omega) ⟨fun _ => ⟨j, by omega, j2⟩, fun _ => rfl⟩)
        · refine g_iconst (t := 33) dX7_isLeft_32 c_iconst_1 rfl ?_
          refine g_goto (t := 37) dX7_isLeft_33 (by decide) ?_
          refine g_istore_n (i := 2) (t := 38) (L1 := [_, _, _, _]) dX7_isLeft_37 rfl (by decide) rfl rfl rfl ?_
          refine g_iinc (i := 3) (t := 41) (L1 := [_, _, _, _]) dX7_isLeft_38 rfl (gi_1 _) (by decide) rfl rfl rfl ?_
          refine g_goto (t := 9) dX7_isLeft_41 (by decide) ?_
          first
          | (refine ih (k + 1) true (by omega) ⟨fun _ => ⟨k, by omega, sm_none.mp (bI_0 h29)⟩, fun _ => rfl⟩)
          | (refine ih (k + 1) false (by omega) ⟨fun q => absurd q (by decide), fun ⟨j, j1, j2⟩ => ?_⟩
             by_cases y : j = k
             · subst y; exact absurd j2 (sm_some.mp (bI_n0 h29))
             · have := hb.mpr ⟨j, by omega, j2⟩
               rw [bI_0 h20] at this; exact absurd this (by decide))
          | (obtain ⟨j, j1, j2⟩ := hb.mp (bI_n0 h20)
             exact ih (k + 1) true (by omega) ⟨fun _ => ⟨j, by omega, j2⟩, fun _ => rfl⟩)
theorem x7_isLeft (hB : mB I s A l) (hZ : mZ I A z l) : gPI E fX7_isLeft [.ref 41, .int (nI l)] I h (bI (opL A z)) := by
  refine gEv.of rfl (Nat.le_refl _) (Nat.le_of_ble_eq_true rfl) (L := [.ref 41, .int (nI l), .null, .null]) rfl ?_
  have h3 := hB.2.2.1
  refine g_iconst (t := 1) dX7_isLeft_0 c_iconst_0 rfl ?_
  refine g_istore_n (i := 2) (t := 2) (L1 := [_, _, _, _]) dX7_isLeft_1 rfl (by decide) rfl rfl rfl ?_
  refine g_aload_n (i := 0) (r := 41) (t := 3) dX7_isLeft_2 rfl rfl (Or.inl l9_41) rfl ?_
  refine gm_getR (o := 41) (ci := 7) (k := 11) (r := 48) (t := 6) l6_41 l9_41 s_41 gf_X7_28 rfl r_41_11 l9_48 dX7_isLeft_3 rfl ?_
  refine g_iload_n (i := 1) (t := 7) dX7_isLeft_6 rfl rfl rfl ?_
  refine gm_iald_n (a := 48) (n := 16) (t := 8) l6_48 l9_48 s_48 dX7_isLeft_7 (by omega) (by decide) rfl ?_
  rw [hB.2.2.2.1]
  refine g_istore_n (i := 3) (t := 9) (L1 := [_, _, _, _]) dX7_isLeft_8 rfl (by decide) rfl rfl rfl ?_
  exact x7_il_loop hB hZ A.2.2 0 false (Nat.zero_add _) ⟨fun q => absurd q (by decide), fun ⟨j, j1, _⟩ => absurd j1 (Nat.not_lt_zero _)⟩
end X7K

