/-! FlexRowsModel: what it keeps -/
def mC (I : Nat → Nat → Int32) (s : sS) : Prop := I 42 176 = nI s.1 ∧ (∀ i w, i < s.1 → w < 11 → I 42 (11 * i + w) = s.2.1 i w) ∧ ∀ k, k < 7 → I 42 (177 + k) = s.2.2 k
def hM (I : Nat → Nat → Int32) (H : List sS) : Prop := H.length ≤ 8 ∧ I 41 2 = nI H.length ∧ ∀ (u : Nat) (s : sS), H[u]? = some s → I 43 (184 * (H.length - 1 - u) + 176) = nI s.1 ∧ (∀ i w, i < s.1 → w < 11 → I 43 (184 * (H.length - 1 - u) + (11 * i + w)) = s.2.1 i w) ∧ ∀ k, k < 7 → I 43 (184 * (H.length - 1 - u) + (177 + k)) = s.2.2 k
def tM (I : Nat → Nat → Int32) (T : tT) : Prop := I 41 4 = nI T.1 ∧ T.1 ≤ 80 ∧ ∀ k, k < T.1 → I 44 k = T.2 k
def rM (I : Nat → Nat → Int32) (S : sT) : Prop := S.1.1 ≤ 16 ∧ mC I S.1 ∧ hM I S.2.1 ∧ tM I S.2.2
def inI (x lo hi : Int32) : Bool := decide (lo ≤ x ∧ x ≤ hi)
abbrev ML : List Nat := List.range' 41 21
theorem in_t {x : Int32} {K : Nat} (hK : K < 999) (h : ¬ bdI (K + 1) x) : inI x (nI 0) (nI K) = true := by
  obtain ⟨k, hk, rfl⟩ := bd_no (by omega) h
  exact decide_eq_true ⟨nI_le (Nat.zero_le _) (by omega), nI_le (by omega) (by omega)⟩
theorem in_f {x : Int32} {K : Nat} (hK : K < 999) (h : bdI (K + 1) x) : inI x (nI 0) (nI K) = false := by
  refine decide_eq_false fun z => ?_
  rcases h with h | h
  · exact absurd z.1 (by rw [nI_0]; exact Int32.not_le.mpr h)
  · exact absurd (Int32.le_trans h z.2) (fun y => by have := (nI_leI (by omega) (by omega)).mp y; omega)
theorem in_m1 (x : Int32) : inI x (nI 0) (-1) = false := by
  refine decide_eq_false fun z => ?_
  have := Int32.le_trans z.1 z.2
  exact absurd this (by decide)
section X7A
variable {E : gE} {I : Nat → Nat → Int32} {h : Int64} {S : sT}
theorem x7_in {x lo hi : Int32} : gPI E fX7_in [.int x, .int lo, .int hi] I h (bI (inI x lo hi)) := by
  refine gEv.of rfl (Nat.le_refl _) (Nat.le_of_ble_eq_true rfl) (L := [.int x, .int lo, .int hi]) rfl ?_
  refine g_iload_n (i := 0) (t := 1) dX7_in_0 rfl rfl rfl ?_
  refine g_iload_n (i := 1) (t := 2) dX7_in_1 rfl rfl rfl ?_
  refine g_icmp_lt (t1 := 14) (t2 := 5) dX7_in_2 (by decide) rfl (fun h2 => ?_) (fun h2 => ?_)
  · refine g_iconst (t := 15) dX7_in_14 c_iconst_0 rfl ?_
    exact g_retP dX7_in_15 rfl (by decide +kernel) (by
    first
    | (rw [inI, decide_eq_true ⟨Int32.not_lt.mp h2, Int32.not_lt.mp h7⟩]; rfl)
    | (rw [inI, decide_eq_false (fun q => absurd h7 (Int32.not_lt.mpr q.2))]; rfl)
    | (rw [inI, decide_eq_false (fun q => absurd h2 (Int32.not_lt.mpr q.1))]; rfl))
  · refine g_iload_n (i := 0) (t := 6) dX7_in_5 rfl rfl rfl ?_
    refine g_iload_n (i := 2) (t := 7) dX7_in_6 rfl rfl rfl ?_
    refine g_icmp_gt (t1 := 14) (t2 := 10) dX7_in_7 (by decide) rfl (fun h7 => ?_) (fun h7 => ?_)
    · refine g_iconst (t := 15) dX7_in_14 c_iconst_0 rfl ?_
      exact g_retP dX7_in_15 rfl (by decide +kernel) (by
    first
    | (rw [inI, decide_eq_true ⟨Int32.not_lt.mp h2, Int32.not_lt.mp h7⟩]; rfl)
    | (rw [inI, decide_eq_false (fun q => absurd h7 (Int32.not_lt.mpr q.2))]; rfl)
    | (rw [inI, decide_eq_false (fun q => absurd h2 (Int32.not_lt.mpr q.1))]; rfl))
    · refine g_iconst (t := 11) dX7_in_10 c_iconst_1 rfl ?_
      refine g_goto (t := 15) dX7_in_11 (by decide) ?_
      exact g_retP dX7_in_15 rfl (by decide +kernel) (by
    first
    | (rw [inI, decide_eq_true ⟨Int32.not_lt.mp h2, Int32.not_lt.mp h7⟩]; rfl)
    | (rw [inI, decide_eq_false (fun q => absurd h7 (Int32.not_lt.mpr q.2))]; rfl)
    | (rw [inI, decide_eq_false (fun q => absurd h2 (Int32.not_lt.mpr q.1))]; rfl))
theorem x7_greater {x y : Int32} : gPI E fX7_greater [.int x, .int y] I h (mx x y) := by
  refine gEv.of rfl (Nat.le_refl _) (Nat.le_of_ble_eq_true rfl) (L := [.int x, .int y]) rfl ?_
  refine g_iload_n (i := 0) (t := 1) dX7_greater_0 rfl rfl rfl ?_
  refine g_iload_n (i := 1) (t := 2) dX7_greater_1 rfl rfl rfl ?_
  refine g_icmp_le (t1 := 9) (t2 := 5) dX7_greater_2 (by decide) rfl (fun h2 => ?_) (fun h2 => ?_)
  · refine g_iload_n (i := 1) (t := 10) dX7_greater_9 rfl rfl rfl ?_
    exact g_retP dX7_greater_10 rfl rfl (by
    rw [← mx_m]
    first
    | rw [if_neg (Int32.not_lt.mpr h2)]
    | rw [if_pos (Int32.not_le.mp h2)])
  · refine g_iload_n (i := 0) (t := 6) dX7_greater_5 rfl rfl rfl ?_
    refine g_goto (t := 10) dX7_greater_6 (by decide) ?_
    exact g_retP dX7_greater_10 rfl rfl (by
    rw [← mx_m]
    first
    | rw [if_neg (Int32.not_lt.mpr h2)]
    | rw [if_pos (Int32.not_le.mp h2)])
theorem x7_lesser {x y : Int32} : gPI E fX7_lesser [.int x, .int y] I h (mn x y) := by
  refine gEv.of rfl (Nat.le_refl _) (Nat.le_of_ble_eq_true rfl) (L := [.int x, .int y]) rfl ?_
  refine g_iload_n (i := 0) (t := 1) dX7_lesser_0 rfl rfl rfl ?_
  refine g_iload_n (i := 1) (t := 2) dX7_lesser_1 rfl rfl rfl ?_
  refine g_icmp_ge (t1 := 9) (t2 := 5) dX7_lesser_2 (by decide) rfl (fun h2 => ?_) (fun h2 => ?_)
  · refine g_iload_n (i := 1) (t := 10) dX7_lesser_9 rfl rfl rfl ?_
    exact g_retP dX7_lesser_10 rfl rfl (by
    rw [← mn_m]
    first
    | rw [if_neg (Int32.not_lt.mpr h2)]
    | rw [if_pos (Int32.not_le.mp h2)])
  · refine g_iload_n (i := 0) (t := 6) dX7_lesser_5 rfl rfl rfl ?_
    refine g_goto (t := 10) dX7_lesser_6 (by decide) ?_
    exact g_retP dX7_lesser_10 rfl rfl (by
    rw [← mn_m]
    first
    | rw [if_neg (Int32.not_lt.mpr h2)]
    | rw [if_pos (Int32.not_le.mp h2)])
theorem x7_leastOf {k : Nat} (hk : k < 10) : gPI E fX7_leastOf [.int (nI k)] I h (lwt k) := by
  refine gEv.of rfl (Nat.le_refl _) (Nat.le_of_ble_eq_true rfl) (L := [.int (nI k)]) rfl ?_
  have key : ∀ k, k < 10 → k ≠ 6 → k ≠ 7 → lwt k = nI 0 := by decide +kernel
  refine g_iload_n (i := 0) (t := 1) dX7_leastOf_0 rfl rfl rfl ?_
  refine g_bipush (t := 3) dX7_leastOf_1 c_bipush_6 rfl ?_
  refine g_icmp_ne_n (t1 := 11) (t2 := 6) dX7_leastOf_3 (by decide) rfl (by omega) (by omega) (fun h3 => ?_) (fun h3 => ?_)
  · refine g_iload_n (i := 0) (t := 12) dX7_leastOf_11 rfl rfl rfl ?_
    refine g_bipush (t := 14) dX7_leastOf_12 c_bipush_7 rfl ?_
    refine g_icmp_ne_n (t1 := 21) (t2 := 17) dX7_leastOf_14 (by decide) rfl (by omega) (by omega) (fun h14 => ?_) (fun h14 => ?_)
    · refine g_iconst (t := 22) dX7_leastOf_21 c_iconst_0 rfl ?_
      exact g_retP dX7_leastOf_22 rfl rfl (by
    first
    | (subst h3; decide +kernel)
    | (subst h14; decide +kernel)
    | exact (key k hk h3 h14).symm)
    · refine g_iconst (t := 18) dX7_leastOf_17 c_iconst_1 rfl ?_
      refine g_goto (t := 22) dX7_leastOf_18 (by decide) ?_
      exact g_retP dX7_leastOf_22 rfl rfl (by
    first
    | (subst h3; decide +kernel)
    | (subst h14; decide +kernel)
    | exact (key k hk h3 h14).symm)
  · refine g_bipush (t := 8) dX7_leastOf_6 c_bipush_m9 rfl ?_
    refine g_goto (t := 22) dX7_leastOf_8 (by decide) ?_
    exact g_retP dX7_leastOf_22 rfl rfl (by
    first
    | (subst h3; decide +kernel)
    | (subst h14; decide +kernel)
    | exact (key k hk h3 h14).symm)
theorem x7_mostOf {k : Nat} (hk : k < 10) : gPI E fX7_mostOf [.int (nI k)] I h (hwt k) := by
  refine gEv.of rfl (Nat.le_refl _) (Nat.le_of_ble_eq_true rfl) (L := [.int (nI k)]) rfl ?_
  refine g_iload_n (i := 0) (t := 1) dX7_mostOf_0 rfl rfl rfl ?_
  refine g_sw10 (l := 0) (td := 71) (t0 := 56) (t1 := 71) (t2 := 71) (t3 := 56) (t4 := 56) (t5 := 60) (t6 := 71) (t7 := 63) (t8 := 66) (t9 := 69) (by decide) dX7_mostOf_1 rfl rfl (by decide) (by decide) (by decide) (by decide) (by decide) (by decide) (by decide) (by decide) (by decide) (by decide) (by decide) (fun h1_0 => ?_) (fun h1_1 => ?_) (fun h1_2 => ?_) (fun h1_3 => ?_) (fun h1_4 => ?_) (fun h1_5 => ?_) (fun h1_6 => ?_) (fun h1_7 => ?_) (fun h1_8 => ?_) (fun h1_9 => ?_) (fun h1_d => ?_)
  · refine g_sipush (t := 59) dX7_mostOf_56 c_sipush_400 rfl ?_
    exact g_retP dX7_mostOf_59 rfl rfl (by
    first
    | (have e := (nI_eq (by omega) (by omega)).mp h1_0; have e : k = 0 := by omega
       subst e; decide +kernel)
    | (have e := (nI_eq (by omega) (by omega)).mp h1_1; have e : k = 1 := by omega
       subst e; decide +kernel)
    | (have e := (nI_eq (by omega) (by omega)).mp h1_2; have e : k = 2 := by omega
       subst e; decide +kernel)
    | (have e := (nI_eq (by omega) (by omega)).mp h1_3; have e : k = 3 := by omega
       subst e; decide +kernel)
    | (have e := (nI_eq (by omega) (by omega)).mp h1_4; have e : k = 4 := by omega
       subst e; decide +kernel)
    | (have e := (nI_eq (by omega) (by omega)).mp h1_5; have e : k = 5 := by omega
       subst e; decide +kernel)
    | (have e := (nI_eq (by omega) (by omega)).mp h1_6; have e : k = 6 := by omega
       subst e; decide +kernel)
    | (have e := (nI_eq (by omega) (by omega)).mp h1_7; have e : k = 7 := by omega
       subst e; decide +kernel)
    | (have e := (nI_eq (by omega) (by omega)).mp h1_8; have e : k = 8 := by omega
       subst e; decide +kernel)
    | (have e := (nI_eq (by omega) (by omega)).mp h1_9; have e : k = 9 := by omega
       subst e; decide +kernel))
  · refine g_bipush (t := 73) dX7_mostOf_71 c_bipush_9 rfl ?_
    exact g_retP dX7_mostOf_73 rfl rfl (by
    first
    | (have e := (nI_eq (by omega) (by omega)).mp h1_0; have e : k = 0 := by omega
       subst e; decide +kernel)
    | (have e := (nI_eq (by omega) (by omega)).mp h1_1; have e : k = 1 := by omega
       subst e; decide +kernel)
    | (have e := (nI_eq (by omega) (by omega)).mp h1_2; have e : k = 2 := by omega
       subst e; decide +kernel)
    | (have e := (nI_eq (by omega) (by omega)).mp h1_3; have e : k = 3 := by omega
       subst e; decide +kernel)
    | (have e := (nI_eq (by omega) (by omega)).mp h1_4; have e : k = 4 := by omega
       subst e; decide +kernel)
    | (have e := (nI_eq (by omega) (by omega)).mp h1_5; have e : k = 5 := by omega
       subst e; decide +kernel)
    | (have e := (nI_eq (by omega) (by omega)).mp h1_6; have e : k = 6 := by omega
       subst e; decide +kernel)
    | (have e := (nI_eq (by omega) (by omega)).mp h1_7; have e : k = 7 := by omega
       subst e; decide +kernel)
    | (have e := (nI_eq (by omega) (by omega)).mp h1_8; have e : k = 8 := by omega
       subst e; decide +kernel)
    | (have e := (nI_eq (by omega) (by omega)).mp h1_9; have e : k = 9 := by omega
       subst e; decide +kernel))
  · refine g_bipush (t := 73) dX7_mostOf_71 c_bipush_9 rfl ?_
    exact g_retP dX7_mostOf_73 rfl rfl (by
    first
    | (have e := (nI_eq (by omega) (by omega)).mp h1_0; have e : k = 0 := by omega
       subst e; decide +kernel)
    | (have e := (nI_eq (by omega) (by omega)).mp h1_1; have e : k = 1 := by omega
       subst e; decide +kernel)
    | (have e := (nI_eq (by omega) (by omega)).mp h1_2; have e : k = 2 := by omega
       subst e; decide +kernel)
    | (have e := (nI_eq (by omega) (by omega)).mp h1_3; have e : k = 3 := by omega
       subst e; decide +kernel)
    | (have e := (nI_eq (by omega) (by omega)).mp h1_4; have e : k = 4 := by omega
       subst e; decide +kernel)
    | (have e := (nI_eq (by omega) (by omega)).mp h1_5; have e : k = 5 := by omega
       subst e; decide +kernel)
    | (have e := (nI_eq (by omega) (by omega)).mp h1_6; have e : k = 6 := by omega
       subst e; decide +kernel)
    | (have e := (nI_eq (by omega) (by omega)).mp h1_7; have e : k = 7 := by omega
       subst e; decide +kernel)
    | (have e := (nI_eq (by omega) (by omega)).mp h1_8; have e : k = 8 := by omega
       subst e; decide +kernel)
    | (have e := (nI_eq (by omega) (by omega)).mp h1_9; have e : k = 9 := by omega
       subst e; decide +kernel))
  · refine g_sipush (t := 59) dX7_mostOf_56 c_sipush_400 rfl ?_
    exact g_retP dX7_mostOf_59 rfl rfl (by
    first
    | (have e := (nI_eq (by omega) (by omega)).mp h1_0; have e : k = 0 := by omega
       subst e; decide +kernel)
    | (have e := (nI_eq (by omega) (by omega)).mp h1_1; have e : k = 1 := by omega
       subst e; decide +kernel)
    | (have e := (nI_eq (by omega) (by omega)).mp h1_2; have e : k = 2 := by omega
       subst e; decide +kernel)
    | (have e := (nI_eq (by omega) (by omega)).mp h1_3; have e : k = 3 := by omega
       subst e; decide +kernel)
    | (have e := (nI_eq (by omega) (by omega)).mp h1_4; have e : k = 4 := by omega
       subst e; decide +kernel)
    | (have e := (nI_eq (by omega) (by omega)).mp h1_5; have e : k = 5 := by omega
       subst e; decide +kernel)
    | (have e := (nI_eq (by omega) (by omega)).mp h1_6; have e : k = 6 := by omega
       subst e; decide +kernel)
    | (have e := (nI_eq (by omega) (by omega)).mp h1_7; have e : k = 7 := by omega
       subst e; decide +kernel)
    | (have e := (nI_eq (by omega) (by omega)).mp h1_8; have e : k = 8 := by omega
       subst e; decide +kernel)
    | (have e := (nI_eq (by omega) (by omega)).mp h1_9; have e : k = 9 := by omega
       subst e; decide +kernel))
  · refine g_sipush (t := 59) dX7_mostOf_56 c_sipush_400 rfl ?_
    exact g_retP dX7_mostOf_59 rfl rfl (by
    first
    | (have e := (nI_eq (by omega) (by omega)).mp h1_0; have e : k = 0 := by omega
       subst e; decide +kernel)
    | (have e := (nI_eq (by omega) (by omega)).mp h1_1; have e : k = 1 := by omega
       subst e; decide +kernel)
    | (have e := (nI_eq (by omega) (by omega)).mp h1_2; have e : k = 2 := by omega
       subst e; decide +kernel)
    | (have e := (nI_eq (by omega) (by omega)).mp h1_3; have e : k = 3 := by omega
       subst e; decide +kernel)
    | (have e := (nI_eq (by omega) (by omega)).mp h1_4; have e : k = 4 := by omega
       subst e; decide +kernel)
    | (have e := (nI_eq (by omega) (by omega)).mp h1_5; have e : k = 5 := by omega
       subst e; decide +kernel)
    | (have e := (nI_eq (by omega) (by omega)).mp h1_6; have e : k = 6 := by omega
       subst e; decide +kernel)
    | (have e := (nI_eq (by omega) (by omega)).mp h1_7; have e : k = 7 := by omega
       subst e; decide +kernel)
    | (have e := (nI_eq (by omega) (by omega)).mp h1_8; have e : k = 8 := by omega
       subst e; decide +kernel)
    | (have e := (nI_eq (by omega) (by omega)).mp h1_9; have e : k = 9 := by omega
       subst e; decide +kernel))
  · refine g_bipush (t := 62) dX7_mostOf_60 c_bipush_20 rfl ?_
    exact g_retP dX7_mostOf_62 rfl rfl (by
    first
    | (have e := (nI_eq (by omega) (by omega)).mp h1_0; have e : k = 0 := by omega
       subst e; decide +kernel)
    | (have e := (nI_eq (by omega) (by omega)).mp h1_1; have e : k = 1 := by omega
       subst e; decide +kernel)
    | (have e := (nI_eq (by omega) (by omega)).mp h1_2; have e : k = 2 := by omega
       subst e; decide +kernel)
    | (have e := (nI_eq (by omega) (by omega)).mp h1_3; have e : k = 3 := by omega
       subst e; decide +kernel)
    | (have e := (nI_eq (by omega) (by omega)).mp h1_4; have e : k = 4 := by omega
       subst e; decide +kernel)
    | (have e := (nI_eq (by omega) (by omega)).mp h1_5; have e : k = 5 := by omega
       subst e; decide +kernel)
    | (have e := (nI_eq (by omega) (by omega)).mp h1_6; have e : k = 6 := by omega
       subst e; decide +kernel)
    | (have e := (nI_eq (by omega) (by omega)).mp h1_7; have e : k = 7 := by omega
       subst e; decide +kernel)
    | (have e := (nI_eq (by omega) (by omega)).mp h1_8; have e : k = 8 := by omega
       subst e; decide +kernel)
    | (have e := (nI_eq (by omega) (by omega)).mp h1_9; have e : k = 9 := by omega
       subst e; decide +kernel))
  · refine g_bipush (t := 73) dX7_mostOf_71 c_bipush_9 rfl ?_
    exact g_retP dX7_mostOf_73 rfl rfl (by
    first
    | (have e := (nI_eq (by omega) (by omega)).mp h1_0; have e : k = 0 := by omega
       subst e; decide +kernel)
    | (have e := (nI_eq (by omega) (by omega)).mp h1_1; have e : k = 1 := by omega
       subst e; decide +kernel)
    | (have e := (nI_eq (by omega) (by omega)).mp h1_2; have e : k = 2 := by omega
       subst e; decide +kernel)
    | (have e := (nI_eq (by omega) (by omega)).mp h1_3; have e : k = 3 := by omega
       subst e; decide +kernel)
    | (have e := (nI_eq (by omega) (by omega)).mp h1_4; have e : k = 4 := by omega
       subst e; decide +kernel)
    | (have e := (nI_eq (by omega) (by omega)).mp h1_5; have e : k = 5 := by omega
       subst e; decide +kernel)
    | (have e := (nI_eq (by omega) (by omega)).mp h1_6; have e : k = 6 := by omega
       subst e; decide +kernel)
    | (have e := (nI_eq (by omega) (by omega)).mp h1_7; have e : k = 7 := by omega
       subst e; decide +kernel)
    | (have e := (nI_eq (by omega) (by omega)).mp h1_8; have e : k = 8 := by omega
       subst e; decide +kernel)
    | (have e := (nI_eq (by omega) (by omega)).mp h1_9; have e : k = 9 := by omega
       subst e; decide +kernel))
  · refine g_bipush (t := 65) dX7_mostOf_63 c_bipush_100 rfl ?_
    exact g_retP dX7_mostOf_65 rfl rfl (by
    first
    | (have e := (nI_eq (by omega) (by omega)).mp h1_0; have e : k = 0 := by omega
       subst e; decide +kernel)
    | (have e := (nI_eq (by omega) (by omega)).mp h1_1; have e : k = 1 := by omega
       subst e; decide +kernel)
    | (have e := (nI_eq (by omega) (by omega)).mp h1_2; have e : k = 2 := by omega
       subst e; decide +kernel)
    | (have e := (nI_eq (by omega) (by omega)).mp h1_3; have e : k = 3 := by omega
       subst e; decide +kernel)
    | (have e := (nI_eq (by omega) (by omega)).mp h1_4; have e : k = 4 := by omega
       subst e; decide +kernel)
    | (have e := (nI_eq (by omega) (by omega)).mp h1_5; have e : k = 5 := by omega
       subst e; decide +kernel)
    | (have e := (nI_eq (by omega) (by omega)).mp h1_6; have e : k = 6 := by omega
       subst e; decide +kernel)
    | (have e := (nI_eq (by omega) (by omega)).mp h1_7; have e : k = 7 := by omega
       subst e; decide +kernel)
    | (have e := (nI_eq (by omega) (by omega)).mp h1_8; have e : k = 8 := by omega
       subst e; decide +kernel)
    | (have e := (nI_eq (by omega) (by omega)).mp h1_9; have e : k = 9 := by omega
       subst e; decide +kernel))
  · refine g_bipush (t := 68) dX7_mostOf_66 c_bipush_50 rfl ?_
    exact g_retP dX7_mostOf_68 rfl rfl (by
    first
    | (have e := (nI_eq (by omega) (by omega)).mp h1_0; have e : k = 0 := by omega
       subst e; decide +kernel)
    | (have e := (nI_eq (by omega) (by omega)).mp h1_1; have e : k = 1 := by omega
       subst e; decide +kernel)
    | (have e := (nI_eq (by omega) (by omega)).mp h1_2; have e : k = 2 := by omega
       subst e; decide +kernel)
    | (have e := (nI_eq (by omega) (by omega)).mp h1_3; have e : k = 3 := by omega
       subst e; decide +kernel)
    | (have e := (nI_eq (by omega) (by omega)).mp h1_4; have e : k = 4 := by omega
       subst e; decide +kernel)
    | (have e := (nI_eq (by omega) (by omega)).mp h1_5; have e : k = 5 := by omega
       subst e; decide +kernel)
    | (have e := (nI_eq (by omega) (by omega)).mp h1_6; have e : k = 6 := by omega
       subst e; decide +kernel)
    | (have e := (nI_eq (by omega) (by omega)).mp h1_7; have e : k = 7 := by omega
       subst e; decide +kernel)
    | (have e := (nI_eq (by omega) (by omega)).mp h1_8; have e : k = 8 := by omega
       subst e; decide +kernel)
    | (have e := (nI_eq (by omega) (by omega)).mp h1_9; have e : k = 9 := by omega
       subst e; decide +kernel))
  · refine g_iconst (t := 70) dX7_mostOf_69 c_iconst_4 rfl ?_
    exact g_retP dX7_mostOf_70 rfl rfl (by
    first
    | (have e := (nI_eq (by omega) (by omega)).mp h1_0; have e : k = 0 := by omega
       subst e; decide +kernel)
    | (have e := (nI_eq (by omega) (by omega)).mp h1_1; have e : k = 1 := by omega
       subst e; decide +kernel)
    | (have e := (nI_eq (by omega) (by omega)).mp h1_2; have e : k = 2 := by omega
       subst e; decide +kernel)
    | (have e := (nI_eq (by omega) (by omega)).mp h1_3; have e : k = 3 := by omega
       subst e; decide +kernel)
    | (have e := (nI_eq (by omega) (by omega)).mp h1_4; have e : k = 4 := by omega
       subst e; decide +kernel)
    | (have e := (nI_eq (by omega) (by omega)).mp h1_5; have e : k = 5 := by omega
       subst e; decide +kernel)
    | (have e := (nI_eq (by omega) (by omega)).mp h1_6; have e : k = 6 := by omega
       subst e; decide +kernel)
    | (have e := (nI_eq (by omega) (by omega)).mp h1_7; have e : k = 7 := by omega
       subst e; decide +kernel)
    | (have e := (nI_eq (by omega) (by omega)).mp h1_8; have e : k = 8 := by omega
       subst e; decide +kernel)
    | (have e := (nI_eq (by omega) (by omega)).mp h1_9; have e : k = 9 := by omega
       subst e; decide +kernel))
  · exfalso
    exact h1_d k hk (congrArg nI (by omega))
theorem x7_type {x v : Int32} {S' : sT} (hR : rM I S) (ho : oType S x v S') : gQI E fX7_type [.ref 41, .int x] I h (fun v' I' => gSame ML I I' ∧ v' = v ∧ rM I' S') := by
  refine gEv.of rfl (Nat.le_refl _) (Nat.le_of_ble_eq_true rfl) (L := [.ref 41, .int x]) rfl ?_
  have ⟨hn, hC, hH, hT⟩ := hR
  obtain ⟨t1, t2, t3⟩ := hT
  rcases ho with ⟨hb, rfl, rfl⟩ | ⟨k, hk, rfl, ho⟩
  · refine g_iload_n (i := 1) (t := 1) dX7_type_0 rfl rfl rfl ?_
    refine g_iconst (t := 2) dX7_type_1 c_iconst_0 rfl ?_
    refine g_bipush (t := 4) dX7_type_2 c_bipush_127 rfl ?_
    refine g_cSp (t := 7) mX7_in k_X7_75 smX7_in dX7_type_4 (x7_in) rfl rfl (by decide) (by decide) (Nat.le_of_ble_eq_true rfl) rfl ?_
    rw [in_f (K := 127) (by decide) hb]
    refine g_if_ne (t1 := 14) (t2 := 10) dX7_type_7 (by decide) rfl (fun h7 => ?_) (fun h7 => ?_)
    · exact absurd rfl h7
    · refine g_sipush (t := 13) dX7_type_10 c_sipush_m1002 rfl ?_
      exact g_retI dX7_type_13 rfl rfl (⟨gSame.rf, rfl, hR⟩)
  · refine g_iload_n (i := 1) (t := 1) dX7_type_0 rfl rfl rfl ?_
    refine g_iconst (t := 2) dX7_type_1 c_iconst_0 rfl ?_
    refine g_bipush (t := 4) dX7_type_2 c_bipush_127 rfl ?_
    refine g_cSp (t := 7) mX7_in k_X7_75 smX7_in dX7_type_4 (x7_in) rfl rfl (by decide) (by decide) (Nat.le_of_ble_eq_true rfl) rfl ?_
    rw [in_t (K := 127) (by decide) (bd_nI (by decide) hk)]
    refine g_if_ne (t1 := 14) (t2 := 10) dX7_type_7 (by decide) rfl (fun h7 => ?_) (fun h7 => ?_)
    · refine g_aload_n (i := 0) (r := 41) (t := 15) dX7_type_14 rfl rfl (Or.inl l9_41) rfl ?_
      refine gm_getI (o := 41) (ci := 7) (k := 4) (t := 18) l6_41 l9_41 s_41 gf_X7_79 rfl dX7_type_15 rfl ?_
      rw [t1]
      refine g_bipush (t := 20) dX7_type_18 c_bipush_80 rfl ?_
      refine g_icmp_ne_n (t1 := 27) (t2 := 23) dX7_type_20 (by decide) rfl (by omega) (by omega) (fun h20 => ?_) (fun h20 => ?_)
      · refine g_aload_n (i := 0) (r := 41) (t := 28) dX7_type_27 rfl rfl (Or.inl l9_41) rfl ?_
        refine gm_getR (o := 41) (ci := 7) (k := 3) (r := 44) (t := 31) l6_41 l9_41 s_41 gf_X7_16 rfl r_41_3 l9_44 dX7_type_28 rfl ?_
        refine g_aload_n (i := 0) (r := 41) (t := 32) dX7_type_31 rfl rfl (Or.inl l9_41) rfl ?_
        refine gm_getI (o := 41) (ci := 7) (k := 4) (t := 35) l6_41 l9_41 s_41 gf_X7_79 rfl dX7_type_32 rfl ?_
        rw [t1]
        refine g_iload_n (i := 1) (t := 36) dX7_type_35 rfl rfl rfl ?_
        refine gm_iast_n (a := 44) (n := 80) (t := 37) l6_44 l9_44 s_44 dX7_type_36 (by omega) (by decide) rfl ?_
        refine g_aload_n (i := 0) (r := 41) (t := 38) dX7_type_37 rfl rfl (Or.inl l9_41) rfl ?_
        refine g_dup (t := 39) dX7_type_38 rfl rfl ?_
        refine gm_getI (o := 41) (ci := 7) (k := 4) (t := 42) l6_41 l9_41 s_41 gf_X7_79 rfl dX7_type_39 rfl ?_
        rw [gup_o _ _ _ _ (by decide), t1]
        refine g_iconst (t := 43) dX7_type_42 c_iconst_1 rfl ?_
        refine g_iadd (t := 44) dX7_type_43 rfl ?_
        refine g_top (gi_s _) ?_
        refine gm_putI (o := 41) (ci := 7) (k := 4) (t := 47) l6_41 l9_41 s_41 gp_X7_79 rfl rfl rfl dX7_type_44 rfl ?_
        refine g_aload_n (i := 0) (r := 41) (t := 48) dX7_type_47 rfl rfl (Or.inl l9_41) rfl ?_
        refine gm_getI (o := 41) (ci := 7) (k := 4) (t := 51) l6_41 l9_41 s_41 gf_X7_79 rfl dX7_type_48 rfl ?_
        rw [gup_self]
        exact g_retI dX7_type_51 rfl rfl (by
    rcases ho with ⟨o1, rfl, rfl⟩ | ⟨o1, -⟩
    · have hs : gSame [41, 44] I (gup (gup I 44 S.2.2.1 (nI k)) 41 4 (nI (S.2.2.1 + 1))) := (gSame.rf.up rfl).up rfl
      refine ⟨hs.wk rfl, rfl, hn, ?_, ⟨hH.1, ?_, ?_⟩, gup_self _ _ _ _, by show S.2.2.1 + 1 ≤ 80; omega, fun j hj => ?_⟩
      · rw [mC, hs.at 42 rfl]; exact hC
      · rw [gup_k _ _ _ (by decide), gup_o _ _ _ _ (by decide)]; exact hH.2.1
      · rw [hs.at 43 rfl]; exact hH.2.2
      · have hj : j < S.2.2.1 + 1 := hj
        rw [gup_o _ _ _ _ (by decide), gup_at]
        show _ = upd S.2.2.2 S.2.2.1 (nI k) j
        by_cases y : j = S.2.2.1
        · rw [if_pos y, y, pk_us]
        · rw [if_neg y, pk_un y]; exact t3 j (by omega)
    · omega)
      · refine g_sipush (t := 26) dX7_type_23 c_sipush_m1004 rfl ?_
        exact g_retI dX7_type_26 rfl rfl (by
    rcases ho with ⟨o1, -⟩ | ⟨o1, rfl, rfl⟩
    · omega
    · exact ⟨gSame.rf, rfl, hR⟩)
    · exact absurd h7 (by decide)
theorem x7_clear {v : Int32} {S' : sT} (hR : rM I S) (ho : oClear S v S') : gQI E fX7_clear [.ref 41] I h (fun v' I' => gSame ML I I' ∧ v' = v ∧ rM I' S') := by
  refine gEv.of rfl (Nat.le_refl _) (Nat.le_of_ble_eq_true rfl) (L := [.ref 41, .null]) rfl ?_
  have ⟨hn, hC, hH, hT⟩ := hR
  obtain ⟨t1, t2, t3⟩ := hT
  obtain ⟨rfl, rfl⟩ := ho
  have hs : gSame [41] I (gup I 41 4 (nI 0)) := gSame.rf.up rfl
  refine g_aload_n (i := 0) (r := 41) (t := 1) dX7_clear_0 rfl rfl (Or.inl l9_41) rfl ?_
  refine gm_getI (o := 41) (ci := 7) (k := 4) (t := 4) l6_41 l9_41 s_41 gf_X7_79 rfl dX7_clear_1 rfl ?_
  refine g_istore_n (i := 1) (t := 5) (L1 := [_, _]) dX7_clear_4 rfl (by decide) rfl rfl rfl ?_
  refine g_aload_n (i := 0) (r := 41) (t := 6) dX7_clear_5 rfl rfl (Or.inl l9_41) rfl ?_
  refine g_iconst (t := 7) dX7_clear_6 c_iconst_0 rfl ?_
  refine gm_putI (o := 41) (ci := 7) (k := 4) (t := 10) l6_41 l9_41 s_41 gp_X7_79 rfl rfl rfl dX7_clear_7 rfl ?_
  refine g_iload_n (i := 1) (t := 11) dX7_clear_10 rfl rfl rfl ?_
  exact g_retI dX7_clear_11 rfl rfl (by
    refine ⟨hs.wk rfl, t1, hn, ?_, ⟨hH.1, ?_, ?_⟩, gup_self _ _ _ _, Nat.zero_le _, fun j hj => absurd hj (Nat.not_lt_zero _)⟩
    · rw [mC, hs.at 42 rfl]; exact hC
    · rw [gup_k _ _ _ (by decide)]; exact hH.2.1
    · rw [hs.at 43 rfl]; exact hH.2.2)
theorem x7_isItem_t {k : Nat} {s : sS} (hC : mC I s) (hn : s.1 ≤ 16) (hk : k < s.1) : gPI E fX7_isItem [.ref 41, .int (nI k)] I h (nI 1) := by
  refine gEv.of rfl (Nat.le_refl _) (Nat.le_of_ble_eq_true rfl) (L := [.ref 41, .int (nI k)]) rfl ?_
  refine g_iload_n (i := 1) (t := 1) dX7_isItem_0 rfl rfl rfl ?_
  refine g_iconst (t := 2) dX7_isItem_1 c_iconst_0 rfl ?_
  refine g_aload_n (i := 0) (r := 41) (t := 3) dX7_isItem_2 rfl rfl (Or.inl l9_41) rfl ?_
  refine gm_getR (o := 41) (ci := 7) (k := 0) (r := 42) (t := 6) l6_41 l9_41 s_41 gf_X7_7 rfl r_41_0 l9_42 dX7_isItem_3 rfl ?_
  refine g_sipush (t := 9) dX7_isItem_6 c_sipush_176 rfl ?_
  refine gm_iald_n (a := 42) (n := 184) (t := 10) l6_42 l9_42 s_42 dX7_isItem_9 (by omega) (by decide) rfl ?_
  rw [hC.1]
  refine g_iconst (t := 11) dX7_isItem_10 c_iconst_1 rfl ?_
  refine g_isub (t := 12) dX7_isItem_11 rfl ?_
  refine g_top (y := nI (s.1 - 1)) (pk_sub (by omega)) ?_
  refine g_cSp (t := 15) mX7_in k_X7_75 smX7_in dX7_isItem_12 (x7_in) rfl rfl (by decide) (by decide) (Nat.le_of_ble_eq_true rfl) rfl ?_
  exact g_retP dX7_isItem_15 rfl (by rw [in_t (by omega) (bd_nI (n := s.1 - 1 + 1) (by omega) (by omega))]; decide +kernel) (by rw [in_t (by omega) (bd_nI (n := s.1 - 1 + 1) (by omega) (by omega))]; rfl)
theorem x7_isItem_f {x : Int32} {s : sS} (hC : mC I s) (hn : s.1 ≤ 16) (hx : bdI s.1 x) : gPI E fX7_isItem [.ref 41, .int x] I h (nI 0) := by
  refine gEv.of rfl (Nat.le_refl _) (Nat.le_of_ble_eq_true rfl) (L := [.ref 41, .int x]) rfl ?_
  have e : inI x (nI 0) (nI s.1 - nI 1) = false := by
    rcases Nat.eq_zero_or_pos s.1 with y | y
    · rw [y, show nI 0 - nI 1 = -1 by decide +kernel]; exact in_m1 x
    · rw [show nI s.1 - nI 1 = nI (s.1 - 1) from pk_sub (by omega)]
      exact in_f (by omega) (by rw [show s.1 - 1 + 1 = s.1 by omega]; exact hx)
  refine g_iload_n (i := 1) (t := 1) dX7_isItem_0 rfl rfl rfl ?_
  refine g_iconst (t := 2) dX7_isItem_1 c_iconst_0 rfl ?_
  refine g_aload_n (i := 0) (r := 41) (t := 3) dX7_isItem_2 rfl rfl (Or.inl l9_41) rfl ?_
  refine gm_getR (o := 41) (ci := 7) (k := 0) (r := 42) (t := 6) l6_41 l9_41 s_41 gf_X7_7 rfl r_41_0 l9_42 dX7_isItem_3 rfl ?_
  refine g_sipush (t := 9) dX7_isItem_6 c_sipush_176 rfl ?_
  refine gm_iald_n (a := 42) (n := 184) (t := 10) l6_42 l9_42 s_42 dX7_isItem_9 (by omega) (by decide) rfl ?_
  rw [hC.1]
  refine g_iconst (t := 11) dX7_isItem_10 c_iconst_1 rfl ?_
  refine g_isub (t := 12) dX7_isItem_11 rfl ?_
  refine g_cSp (t := 15) mX7_in k_X7_75 smX7_in dX7_isItem_12 (x7_in) rfl rfl (by decide) (by decide) (Nat.le_of_ble_eq_true rfl) rfl ?_
  exact g_retP dX7_isItem_15 rfl (by rw [e]; decide +kernel) (by rw [e]; rfl)
theorem x7_of {i w : Nat} (hi : i < 16) (hw : w < 11) : gPI E fX7_of [.ref 41, .int (nI i), .int (nI w)] I h (I 42 (11 * i + w)) := by
  refine gEv.of rfl (Nat.le_refl _) (Nat.le_of_ble_eq_true rfl) (L := [.ref 41, .int (nI i), .int (nI w)]) rfl ?_
  refine g_aload_n (i := 0) (r := 41) (t := 1) dX7_of_0 rfl rfl (Or.inl l9_41) rfl ?_
  refine gm_getR (o := 41) (ci := 7) (k := 0) (r := 42) (t := 4) l6_41 l9_41 s_41 gf_X7_7 rfl r_41_0 l9_42 dX7_of_1 rfl ?_
  refine g_bipush (t := 6) dX7_of_4 c_bipush_11 rfl ?_
  refine g_iload_n (i := 1) (t := 7) dX7_of_6 rfl rfl rfl ?_
  refine g_imul (t := 8) dX7_of_7 rfl ?_
  refine g_iload_n (i := 2) (t := 9) dX7_of_8 rfl rfl rfl ?_
  refine g_iadd (t := 10) dX7_of_9 rfl ?_
  refine g_top (y := nI (11 * i + w)) (by rw [pk_mul, nI_add]) ?_
  refine gm_iald_n (a := 42) (n := 184) (t := 11) l6_42 l9_42 s_42 dX7_of_10 (by omega) (by decide) rfl ?_
  exact g_retP dX7_of_11 rfl rfl (rfl)
theorem x7_greatest {i : Nat} {s : sS} (hC : mC I s) (hn : s.1 ≤ 16) (hi : i < s.1) : gPI E fX7_greatest [.ref 41, .int (nI i)] I h (grt s.2.1 i) := by
  refine gEv.of rfl (Nat.le_refl _) (Nat.le_of_ble_eq_true rfl) (L := [.ref 41, .int (nI i)]) rfl ?_
  refine g_aload_n (i := 0) (r := 41) (t := 1) dX7_greatest_0 rfl rfl (Or.inl l9_41) rfl ?_
  refine g_iload_n (i := 1) (t := 2) dX7_greatest_1 rfl rfl rfl ?_
  refine g_iconst (t := 3) dX7_greatest_2 c_iconst_3 rfl ?_
  refine g_cVp (o := 41) (t := 6) mX7_of k_X7_157 imX7_of seX7_of l6_41 l9_41 s_41 rfl dX7_greatest_3 (x7_of (by omega) (by omega)) rfl rfl (by decide) (by decide) (Nat.le_of_ble_eq_true rfl) rfl ?_
  refine g_aload_n (i := 0) (r := 41) (t := 7) dX7_greatest_6 rfl rfl (Or.inl l9_41) rfl ?_
  refine g_iload_n (i := 1) (t := 8) dX7_greatest_7 rfl rfl rfl ?_
  refine g_iconst (t := 9) dX7_greatest_8 c_iconst_4 rfl ?_
  refine g_cVp (o := 41) (t := 12) mX7_of k_X7_157 imX7_of seX7_of l6_41 l9_41 s_41 rfl dX7_greatest_9 (x7_of (by omega) (by omega)) rfl rfl (by decide) (by decide) (Nat.le_of_ble_eq_true rfl) rfl ?_
  refine g_cSp (t := 15) mX7_greater k_X7_167 smX7_greater dX7_greatest_12 (x7_greater) rfl rfl (by decide) (by decide) (Nat.le_of_ble_eq_true rfl) rfl ?_
  exact g_retP dX7_greatest_15 rfl rfl (by rw [hC.2.1 i 3 hi (by decide), hC.2.1 i 4 hi (by decide)]; rfl)
theorem x7_wish {i : Nat} {s : sS} (hC : mC I s) (hn : s.1 ≤ 16) (hi : i < s.1) : gPI E fX7_wish [.ref 41, .int (nI i)] I h (wsh s.2.1 i) := by
  refine gEv.of rfl (Nat.le_refl _) (Nat.le_of_ble_eq_true rfl) (L := [.ref 41, .int (nI i)]) rfl ?_
  refine g_aload_n (i := 0) (r := 41) (t := 1) dX7_wish_0 rfl rfl (Or.inl l9_41) rfl ?_
  refine g_iload_n (i := 1) (t := 2) dX7_wish_1 rfl rfl rfl ?_
  refine g_iconst (t := 3) dX7_wish_2 c_iconst_0 rfl ?_
  refine g_cVp (o := 41) (t := 6) mX7_of k_X7_157 imX7_of seX7_of l6_41 l9_41 s_41 rfl dX7_wish_3 (x7_of (by omega) (by omega)) rfl rfl (by decide) (by decide) (Nat.le_of_ble_eq_true rfl) rfl ?_
  refine g_aload_n (i := 0) (r := 41) (t := 7) dX7_wish_6 rfl rfl (Or.inl l9_41) rfl ?_
  refine g_iload_n (i := 1) (t := 8) dX7_wish_7 rfl rfl rfl ?_
  refine g_iconst (t := 9) dX7_wish_8 c_iconst_3 rfl ?_
  refine g_cVp (o := 41) (t := 12) mX7_of k_X7_157 imX7_of seX7_of l6_41 l9_41 s_41 rfl dX7_wish_9 (x7_of (by omega) (by omega)) rfl rfl (by decide) (by decide) (Nat.le_of_ble_eq_true rfl) rfl ?_
  refine g_cSp (t := 15) mX7_greater k_X7_167 smX7_greater dX7_wish_12 (x7_greater) rfl rfl (by decide) (by decide) (Nat.le_of_ble_eq_true rfl) rfl ?_
  refine g_aload_n (i := 0) (r := 41) (t := 16) dX7_wish_15 rfl rfl (Or.inl l9_41) rfl ?_
  refine g_iload_n (i := 1) (t := 17) dX7_wish_16 rfl rfl rfl ?_
  refine g_cVp (o := 41) (t := 20) mX7_greatest k_X7_170 imX7_greatest seX7_greatest l6_41 l9_41 s_41 rfl dX7_wish_17 (x7_greatest hC hn (by omega)) rfl rfl (by decide) (by decide) (Nat.le_of_ble_eq_true rfl) rfl ?_
  refine g_cSp (t := 23) mX7_lesser k_X7_173 smX7_lesser dX7_wish_20 (x7_lesser) rfl rfl (by decide) (by decide) (Nat.le_of_ble_eq_true rfl) rfl ?_
  exact g_retP dX7_wish_23 rfl rfl (by rw [hC.2.1 i 3 hi (by decide), hC.2.1 i 0 hi (by decide)]; rfl)
end X7A

