/-! FlexRows$Text: the words -/
section X5C
variable {E : gE} {I : Nat → Nat → Int32} {h : gX}
theorem x5_word {i : Nat} (hi : i < 9) : gEv E fX5_word (gn h) [.int (nI (i + 1))] (gM I h) (fun r σ' => r = some (.ref (1010 + i)) ∧ σ' = gM I h) := by
  refine gEv.of rfl (Nat.le_refl _) (Nat.le_of_ble_eq_true rfl) (L := [.int (nI (i + 1))]) rfl ?_
  refine g_iload_n (i := 0) (t := 1) dX5_word_0 rfl rfl rfl ?_
  refine g_sw8 (l := 1) (td := 72) (t0 := 48) (t1 := 51) (t2 := 54) (t3 := 57) (t4 := 60) (t5 := 63) (t6 := 66) (t7 := 69) (by decide) dX5_word_1 rfl rfl (by decide) (by decide) (by decide) (by decide) (by decide) (by decide) (by decide) (by decide) (by decide) (fun h1_1 => ?_) (fun h1_2 => ?_) (fun h1_3 => ?_) (fun h1_4 => ?_) (fun h1_5 => ?_) (fun h1_6 => ?_) (fun h1_7 => ?_) (fun h1_8 => ?_) (fun h1_d => ?_)
  · refine g_ldcS (i := 0) (r := 1010) (t := 50) rfl rfl rfl rfl dX5_word_48 rfl ?_
    have e := (nI_eq (by omega) (by omega)).mp h1_1
    have e : i = 1 - 1 := by omega
    subst e
    exact Wp.here ⟨rfl, Or.inr (Or.inr (Or.inr ⟨dX5_word_50, _, _, rfl, rfl, rfl, rfl⟩))⟩
  · refine g_ldcS (i := 1) (r := 1011) (t := 53) rfl rfl rfl rfl dX5_word_51 rfl ?_
    have e := (nI_eq (by omega) (by omega)).mp h1_2
    have e : i = 2 - 1 := by omega
    subst e
    exact Wp.here ⟨rfl, Or.inr (Or.inr (Or.inr ⟨dX5_word_53, _, _, rfl, rfl, rfl, rfl⟩))⟩
  · refine g_ldcS (i := 2) (r := 1012) (t := 56) rfl rfl rfl rfl dX5_word_54 rfl ?_
    have e := (nI_eq (by omega) (by omega)).mp h1_3
    have e : i = 3 - 1 := by omega
    subst e
    exact Wp.here ⟨rfl, Or.inr (Or.inr (Or.inr ⟨dX5_word_56, _, _, rfl, rfl, rfl, rfl⟩))⟩
  · refine g_ldcS (i := 3) (r := 1013) (t := 59) rfl rfl rfl rfl dX5_word_57 rfl ?_
    have e := (nI_eq (by omega) (by omega)).mp h1_4
    have e : i = 4 - 1 := by omega
    subst e
    exact Wp.here ⟨rfl, Or.inr (Or.inr (Or.inr ⟨dX5_word_59, _, _, rfl, rfl, rfl, rfl⟩))⟩
  · refine g_ldcS (i := 4) (r := 1014) (t := 62) rfl rfl rfl rfl dX5_word_60 rfl ?_
    have e := (nI_eq (by omega) (by omega)).mp h1_5
    have e : i = 5 - 1 := by omega
    subst e
    exact Wp.here ⟨rfl, Or.inr (Or.inr (Or.inr ⟨dX5_word_62, _, _, rfl, rfl, rfl, rfl⟩))⟩
  · refine g_ldcS (i := 5) (r := 1015) (t := 65) rfl rfl rfl rfl dX5_word_63 rfl ?_
    have e := (nI_eq (by omega) (by omega)).mp h1_6
    have e : i = 6 - 1 := by omega
    subst e
    exact Wp.here ⟨rfl, Or.inr (Or.inr (Or.inr ⟨dX5_word_65, _, _, rfl, rfl, rfl, rfl⟩))⟩
  · refine g_ldcS (i := 6) (r := 1016) (t := 68) rfl rfl rfl rfl dX5_word_66 rfl ?_
    have e := (nI_eq (by omega) (by omega)).mp h1_7
    have e : i = 7 - 1 := by omega
    subst e
    exact Wp.here ⟨rfl, Or.inr (Or.inr (Or.inr ⟨dX5_word_68, _, _, rfl, rfl, rfl, rfl⟩))⟩
  · refine g_ldcS (i := 7) (r := 1017) (t := 71) rfl rfl rfl rfl dX5_word_69 rfl ?_
    have e := (nI_eq (by omega) (by omega)).mp h1_8
    have e : i = 8 - 1 := by omega
    subst e
    exact Wp.here ⟨rfl, Or.inr (Or.inr (Or.inr ⟨dX5_word_71, _, _, rfl, rfl, rfl, rfl⟩))⟩
  · refine g_ldcS (i := 8) (r := 1018) (t := 74) rfl rfl rfl rfl dX5_word_72 rfl ?_
    have e : i = 8 := by
      apply Classical.byContradiction
      intro q
      exact h1_d i (by omega) (congrArg nI (by omega))
    subst e
    exact Wp.here ⟨rfl, Or.inr (Or.inr (Or.inr ⟨dX5_word_74, _, _, rfl, rfl, rfl, rfl⟩))⟩
theorem x5_st_loop {T : tT} {i j e : Nat} (hi : i < 9) (hT : tX I T) (h3 : I 1 3 = nI j) (hj : j ≤ T.1) (hl : (wds i).length = e - j) : ∀ (d k : Nat), k + d = (wds i).length → (∀ m, m < k → (wds i).getD m 0 = byt T (j + m)) → Wp E fX5_stands (gn h) 17 [.ref 1, .ref (1010 + i), .int (nI e), .int (nI k)] [] (gM I h) (gRet fX5_stands (gn h) (fun r σ' => r = some (.int (bI (mtc T j e i))) ∧ σ' = gM I h)) := by
  have hn := hT.2.1
  have hl7 := wds_len i hi
  intro d
  induction d with
  | zero =>
    intro k hk hm
    have hk : k = (wds i).length := by omega
    subst hk
    refine g_iload_n (i := 3) (t := 18) dX5_stands_17 rfl rfl rfl ?_
    refine g_aload_n (i := 1) (t := 19) dX5_stands_18 rfl rfl (Or.inr (gro_k hi)) rfl ?_
    refine g_cTp (i := _) (t := 22) mJ0_length_8abf5 k_X5_73 imJ0_length_8abf5 seJ0_length_8abf5 (gtx_at hi) rfl rfl dX5_stands_19 (j0_length hi) rfl rfl (by decide) (by decide) (Nat.le_of_ble_eq_true rfl) rfl (Nat.le_refl _) ?_
    refine g_icmp_ge_n (t1 := 51) (t2 := 25) dX5_stands_22 (by decide) rfl (by omega) (by omega) (fun h22 => ?_) (fun h22 => ?_)
    · refine g_iconst (t := 52) dX5_stands_51 c_iconst_1 rfl ?_
      exact g_retP dX5_stands_52 rfl (by decide +kernel) (by rw [(mtc_iff _ _ _ _).mpr ⟨hl, hm⟩]; rfl)
    · exfalso; omega
  | succ d ih =>
    intro k hk hm
    refine g_iload_n (i := 3) (t := 18) dX5_stands_17 rfl rfl rfl ?_
    refine g_aload_n (i := 1) (t := 19) dX5_stands_18 rfl rfl (Or.inr (gro_k hi)) rfl ?_
    refine g_cTp (i := _) (t := 22) mJ0_length_8abf5 k_X5_73 imJ0_length_8abf5 seJ0_length_8abf5 (gtx_at hi) rfl rfl dX5_stands_19 (j0_length hi) rfl rfl (by decide) (by decide) (Nat.le_of_ble_eq_true rfl) rfl (Nat.le_refl _) ?_
    refine g_icmp_ge_n (t1 := 51) (t2 := 25) dX5_stands_22 (by decide) rfl (by omega) (by omega) (fun h22 => ?_) (fun h22 => ?_)
    · exfalso; omega
    · refine g_aload_n (i := 1) (t := 26) dX5_stands_25 rfl rfl (Or.inr (gro_k hi)) rfl ?_
      refine g_iload_n (i := 3) (t := 27) dX5_stands_26 rfl rfl rfl ?_
      refine g_cTp (i := _) (t := 30) mJ0_charAt_5068e k_X5_77 imJ0_charAt_5068e seJ0_charAt_5068e (gtx_at hi) rfl rfl dX5_stands_27 (j0_charAt hi (by omega)) rfl rfl (by decide) (by decide) (Nat.le_of_ble_eq_true rfl) rfl (Nat.le_refl _) ?_
      refine g_aload_n (i := 0) (r := 1) (t := 31) dX5_stands_30 rfl rfl (Or.inl l9_1) rfl ?_
      refine g_aload_n (i := 0) (r := 1) (t := 32) dX5_stands_31 rfl rfl (Or.inl l9_1) rfl ?_
      refine gm_getI (o := 1) (ci := 5) (k := 3) (t := 35) l6_1 l9_1 s_1 gf_X5_32 rfl dX5_stands_32 rfl ?_
      refine g_iload_n (i := 3) (t := 36) dX5_stands_35 rfl rfl rfl ?_
      refine g_iadd (t := 37) dX5_stands_36 rfl ?_
      rw [h3, nI_add]
      refine g_cVp (o := 1) (t := 40) mX5_byteAt k_X5_49 imX5_byteAt seX5_byteAt l6_1 l9_1 s_1 rfl dX5_stands_37 (x5_byteAt hT (by omega)) rfl rfl (by decide) (by decide) (Nat.le_of_ble_eq_true rfl) rfl (Nat.le_refl _) ?_
      refine g_icmp_eq (t1 := 45) (t2 := 43) dX5_stands_40 (by decide) rfl (fun h40 => ?_) (fun h40 => ?_)
      · refine g_iinc (i := 3) (t := 48) (L1 := [_, _, _, _]) dX5_stands_45 rfl (gi_1 _) (by decide) rfl rfl rfl ?_
        refine g_goto (t := 17) dX5_stands_48 (by decide) ?_
        exact ih (k + 1) (by omega) (fun m hm2 => by
          by_cases y : m = k
          · subst y; exact h40
          · exact hm m (by omega))
      · refine g_iconst (t := 44) dX5_stands_43 c_iconst_0 rfl ?_
        exact g_retP dX5_stands_44 rfl (by decide +kernel) (by
    have : mtc T j e i = false := by
      cases q : mtc T j e i with
      | false => rfl
      | true => exact absurd (((mtc_iff _ _ _ _).mp q).2 k (by omega)) h40
    rw [this]; rfl)
theorem x5_stands {T : tT} {i j e : Nat} (hi : i < 9) (hT : tX I T) (h3 : I 1 3 = nI j) (hj : j ≤ e) (he : e ≤ T.1) : gPI E fX5_stands [.ref 1, .ref (1010 + i), .int (nI e)] I h (bI (mtc T j e i)) := by
  refine gEv.of rfl (Nat.le_refl _) (Nat.le_of_ble_eq_true rfl) (L := [.ref 1, .ref (1010 + i), .int (nI e), .null]) rfl ?_
  have hn := hT.2.1
  have hl7 := wds_len i hi
  refine g_aload_n (i := 1) (t := 1) dX5_stands_0 rfl rfl (Or.inr (gro_k hi)) rfl ?_
  refine g_cTp (i := _) (t := 4) mJ0_length_8abf5 k_X5_73 imJ0_length_8abf5 seJ0_length_8abf5 (gtx_at hi) rfl rfl dX5_stands_1 (j0_length hi) rfl rfl (by decide) (by decide) (Nat.le_of_ble_eq_true rfl) rfl (Nat.le_refl _) ?_
  refine g_iload_n (i := 2) (t := 5) dX5_stands_4 rfl rfl rfl ?_
  refine g_aload_n (i := 0) (r := 1) (t := 6) dX5_stands_5 rfl rfl (Or.inl l9_1) rfl ?_
  refine gm_getI (o := 1) (ci := 5) (k := 3) (t := 9) l6_1 l9_1 s_1 gf_X5_32 rfl dX5_stands_6 rfl ?_
  rw [h3]
  refine g_isub (t := 10) dX5_stands_9 rfl ?_
  refine g_top (y := nI (e - j)) (pk_sub hj) ?_
  refine g_icmp_eq_n (t1 := 15) (t2 := 13) dX5_stands_10 (by decide) rfl (by omega) (by omega) (fun h10 => ?_) (fun h10 => ?_)
  · refine g_iconst (t := 16) dX5_stands_15 c_iconst_0 rfl ?_
    refine g_istore_n (i := 3) (t := 17) (L1 := [_, _, _, _]) dX5_stands_16 rfl (by decide) rfl rfl rfl ?_
    exact x5_st_loop hi hT h3 (by omega) h10 _ 0 (Nat.zero_add _) (fun m hm => absurd hm (Nat.not_lt_zero _))
  · refine g_iconst (t := 14) dX5_stands_13 c_iconst_0 rfl ?_
    exact g_retP dX5_stands_14 rfl (by decide +kernel) (by
    have : mtc T j e i = false := by
      cases q : mtc T j e i with
      | false => rfl
      | true => exact absurd ((mtc_iff _ _ _ _).mp q).1 h10
    rw [this]; rfl)
theorem wdO_ex {T : tT} {j e : Nat} : ∀ d i, wdO T j e d i ≠ 0 → ∃ k, i ≤ k ∧ k < i + d ∧ mtc T j e k = true ∧ wdO T j e d i = k + 1
  | 0, i, h => absurd rfl h
  | d + 1, i, h => by
    unfold wdO at h ⊢
    by_cases q : mtc T j e i = true
    · rw [if_pos q]; exact ⟨i, Nat.le_refl _, by omega, q, rfl⟩
    · rw [if_neg q] at h ⊢
      obtain ⟨k, h1, h2, h3, h4⟩ := wdO_ex d (i + 1) h
      exact ⟨k, by omega, by omega, h3, h4⟩
/-- what readWord leaves -/
def pW (T : tT) (j : Nat) (sd : Int32) (I : Nat → Nat → Int32) (v : Int32) (I' : Nat → Nat → Int32) : Prop :=
  (wdO T j (ltE T j) 9 0 ≠ 0 ∧ bitW sd (wdO T j (ltE T j) 9 0) = 0 ∧ v = nI (wdO T j (ltE T j) 9 0) ∧ I' = gup (gup I 1 4 (orW sd (wdO T j (ltE T j) 9 0))) 1 3 (nI (ltE T j))) ∨
  ((wdO T j (ltE T j) 9 0 = 0 ∨ ¬ bitW sd (wdO T j (ltE T j) 9 0) = 0) ∧ v = -1 ∧ I' = I)
theorem x5_rw_end {T : tT} {j : Nat} (hT : tX I T) {K : gK} : ∀ (d e : Nat), e + d = T.1 → ltE T e = ltE T j →
    Wp E fX5_readWord (gn h) 30 [.ref 1, .int (nI (ltE T j)), .null, .null] [] (gM I h) K →
    Wp E fX5_readWord (gn h) 5 [.ref 1, .int (nI e), .null, .null] [] (gM I h) K := by
  have hn := hT.2.1
  have e1 := hT.1
  intro d
  induction d with
  | zero =>
    intro e he hl kk
    have : ltE T e = e := ltE_no (by rw [byt_out (by omega)]; decide)
    rw [← hl, this] at kk
    refine g_iload_n (i := 1) (t := 6) dX5_readWord_5 rfl rfl rfl ?_
    refine g_aload_n (i := 0) (r := 1) (t := 7) dX5_readWord_6 rfl rfl (Or.inl l9_1) rfl ?_
    refine gm_getI (o := 1) (ci := 5) (k := 2) (t := 10) l6_1 l9_1 s_1 gf_X5_19 rfl dX5_readWord_7 rfl ?_
    rw [e1]
    refine g_icmp_ge_n (t1 := 30) (t2 := 13) dX5_readWord_10 (by decide) rfl (by omega) (by omega) (fun h10 => ?_) (fun h10 => ?_)
    · exact kk
    · exfalso; omega
  | succ d ih =>
    intro e he hl kk
    refine g_iload_n (i := 1) (t := 6) dX5_readWord_5 rfl rfl rfl ?_
    refine g_aload_n (i := 0) (r := 1) (t := 7) dX5_readWord_6 rfl rfl (Or.inl l9_1) rfl ?_
    refine gm_getI (o := 1) (ci := 5) (k := 2) (t := 10) l6_1 l9_1 s_1 gf_X5_19 rfl dX5_readWord_7 rfl ?_
    rw [e1]
    refine g_icmp_ge_n (t1 := 30) (t2 := 13) dX5_readWord_10 (by decide) rfl (by omega) (by omega) (fun h10 => ?_) (fun h10 => ?_)
    · exfalso; omega
    · refine g_aload_n (i := 0) (r := 1) (t := 14) dX5_readWord_13 rfl rfl (Or.inl l9_1) rfl ?_
      refine g_iload_n (i := 1) (t := 15) dX5_readWord_14 rfl rfl rfl ?_
      refine g_cVp (o := 1) (t := 18) mX5_byteAt k_X5_49 imX5_byteAt seX5_byteAt l6_1 l9_1 s_1 rfl dX5_readWord_15 (x5_byteAt hT (by omega)) rfl rfl (by decide) (by decide) (Nat.le_of_ble_eq_true rfl) rfl (Nat.le_refl _) ?_
      refine g_cSp (t := 21) mX5_isLetter k_X5_62 smX5_isLetter dX5_readWord_18 (x5_isLetter) rfl rfl (by decide) (by decide) (Nat.le_of_ble_eq_true rfl) rfl (Nat.le_refl _) ?_
      refine g_if_eq (t1 := 30) (t2 := 24) dX5_readWord_21 (by decide) rfl (fun h21 => ?_) (fun h21 => ?_)
      · have : ltE T e = e := ltE_no (by rw [bI_0 h21]; decide)
        rw [← hl, this] at kk
        exact kk
      · refine g_iinc (i := 1) (t := 27) (L1 := [_, _, _, _]) dX5_readWord_24 rfl (gi_1 _) (by decide) rfl rfl rfl ?_
        refine g_goto (t := 5) dX5_readWord_27 (by decide) ?_
        exact ih (e + 1) (by omega) ((ltE_at (bI_n0 h21)).symm.trans hl) kk
theorem x5_rw_loop {T : tT} {j : Nat} {sd : Int32} (hT : tX I T) (h3 : I 1 3 = nI j) (hj : j ≤ T.1) (h4 : I 1 4 = sd) : ∀ (d i : Nat) (v3 : Value), i + d = 9 → (∀ k, k < i → mtc T j (ltE T j) k = true → ¬ bitW sd (k + 1) = 0) → Wp E fX5_readWord (gn h) 32 [.ref 1, .int (nI (ltE T j)), .int (nI (i + 1)), v3] [] (gM I h) (gRet fX5_readWord (gn h) (fun r σ' => ∃ (v : Int32) (I' : Nat → Nat → Int32), r = some (.int v) ∧ σ' = gM I' h ∧ pW T j sd I v I')) := by
  have hn := hT.2.1
  have hle := ltE_le hj
  intro d
  induction d with
  | zero =>
    intro i v3 hi hm
    have hi : i = 9 := by omega
    subst hi
    refine g_iload_n (i := 2) (t := 33) dX5_readWord_32 rfl rfl rfl ?_
    refine g_bipush (t := 35) dX5_readWord_33 c_bipush_10 rfl ?_
    refine g_icmp_ge_n (t1 := 96) (t2 := 38) dX5_readWord_35 (by decide) rfl (by omega) (by omega) (fun h35 => ?_) (fun h35 => ?_)
    · refine g_iconst (t := 97) dX5_readWord_96 c_iconst_m1 rfl ?_
      exact g_retI dX5_readWord_97 rfl rfl (by
    refine Or.inr ⟨?_, rfl, rfl⟩
    by_cases q : wdO T j (ltE T j) 9 0 = 0
    · exact Or.inl q
    · obtain ⟨k, k1, k2, k3, k4⟩ := wdO_ex _ _ q
      rw [k4]
      exact Or.inr (hm k (by omega) k3))
    · exfalso; omega
  | succ d ih =>
    intro i v3 hi hm
    have T54 : ∀ (b : Bool), (b = true ↔ bitW sd (i + 1) = 0) → Wp E fX5_readWord (gn h) 54 [.ref 1, .int (nI (ltE T j)), .int (nI (i + 1)), v3] [.int (bI b)] (gM I h) (gRet fX5_readWord (gn h) (fun r σ' => ∃ (v : Int32) (I' : Nat → Nat → Int32), r = some (.int v) ∧ σ' = gM I' h ∧ pW T j sd I v I')) := by
      intro b hb
      have T90 : ¬ (mtc T j (ltE T j) i = true ∧ b = true) → Wp E fX5_readWord (gn h) 90 [.ref 1, .int (nI (ltE T j)), .int (nI (i + 1)), .int (bI b)] [] (gM I h) (gRet fX5_readWord (gn h) (fun r σ' => ∃ (v : Int32) (I' : Nat → Nat → Int32), r = some (.int v) ∧ σ' = gM I' h ∧ pW T j sd I v I')) := by
        intro hno
        refine g_iinc (i := 2) (t := 93) (L1 := [_, _, _, _]) dX5_readWord_90 rfl (gi_1 _) (by decide) rfl rfl rfl ?_
        refine g_goto (t := 32) dX5_readWord_93 (by decide) ?_
        exact ih (i + 1) _ (by omega) (fun k hk hm2 => by
          by_cases y : k = i
          · subst y; exact fun z => hno ⟨hm2, hb.mpr z⟩
          · exact hm k (by omega) hm2)
      have T64 : b = true → Wp E fX5_readWord (gn h) 64 [.ref 1, .int (nI (ltE T j)), .int (nI (i + 1)), .int (bI b)] [.ref (1010 + i), .ref 1] (gM I h) (gRet fX5_readWord (gn h) (fun r σ' => ∃ (v : Int32) (I' : Nat → Nat → Int32), r = some (.int v) ∧ σ' = gM I' h ∧ pW T j sd I v I')) := by
        intro hbt
        refine g_iload_n (i := 1) (t := 65) dX5_readWord_64 rfl rfl rfl ?_
        refine g_cVp (o := 1) (t := 68) mX5_stands k_X5_69 imX5_stands seX5_stands l6_1 l9_1 s_1 rfl dX5_readWord_65 (x5_stands (by omega) hT h3 hle.1 hle.2) rfl rfl (by decide) (by decide) (Nat.le_of_ble_eq_true rfl) rfl (Nat.le_refl _) ?_
        refine g_if_eq (t1 := 90) (t2 := 71) dX5_readWord_68 (by decide) rfl (fun h68 => ?_) (fun h68 => ?_)
        · exact T90 (fun z => absurd z.1 (by rw [bI_0 h68]; decide))
        · refine g_aload_n (i := 0) (r := 1) (t := 72) dX5_readWord_71 rfl rfl (Or.inl l9_1) rfl ?_
          refine g_dup (t := 73) dX5_readWord_72 rfl rfl ?_
          refine gm_getI (o := 1) (ci := 5) (k := 4) (t := 76) l6_1 l9_1 s_1 gf_X5_35 rfl dX5_readWord_73 rfl ?_
          refine g_iconst (t := 77) dX5_readWord_76 c_iconst_1 rfl ?_
          refine g_iload_n (i := 2) (t := 78) dX5_readWord_77 rfl rfl rfl ?_
          refine g_ishl (t := 79) dX5_readWord_78 rfl ?_
          refine g_ior (t := 80) dX5_readWord_79 rfl ?_
          refine gm_putI (o := 1) (ci := 5) (k := 4) (t := 83) l6_1 l9_1 s_1 gp_X5_35 rfl rfl rfl dX5_readWord_80 rfl ?_
          have hk : wdO T j (ltE T j) 9 0 = i + 1 := wdO_at (bI_n0 h68) (by omega) 9 0 rfl (Nat.zero_le _)
          have hz := hb.mp hbt
          refine g_aload_n (i := 0) (r := 1) (t := 84) dX5_readWord_83 rfl rfl (Or.inl l9_1) rfl ?_
          refine g_iload_n (i := 1) (t := 85) dX5_readWord_84 rfl rfl rfl ?_
          refine gm_putI (o := 1) (ci := 5) (k := 3) (t := 88) l6_1 l9_1 s_1 gp_X5_32 rfl rfl rfl dX5_readWord_85 rfl ?_
          refine g_iload_n (i := 2) (t := 89) dX5_readWord_88 rfl rfl rfl ?_
          exact g_retI dX5_readWord_89 rfl rfl (by
    refine Or.inl ⟨by rw [hk]; omega, by rw [hk]; exact hz, by rw [hk], ?_⟩
    rw [hk, ← h4]
    rfl)
      refine g_istore_n (i := 3) (t := 55) (L1 := [_, _, _, _]) dX5_readWord_54 rfl (by decide) rfl rfl rfl ?_
      refine g_iload_n (i := 3) (t := 56) dX5_readWord_55 rfl rfl rfl ?_
      refine g_if_eq (t1 := 90) (t2 := 59) dX5_readWord_56 (by decide) rfl (fun h56 => ?_) (fun h56 => ?_)
      · exact T90 (fun z => absurd z.2 (by rw [bI_0 h56]; decide))
      · refine g_aload_n (i := 0) (r := 1) (t := 60) dX5_readWord_59 rfl rfl (Or.inl l9_1) rfl ?_
        refine g_iload_n (i := 2) (t := 61) dX5_readWord_60 rfl rfl rfl ?_
        refine g_callS mX5_word k_X5_65 smX5_word (x5_word (by omega)) rfl rfl (Nat.le_refl _) (by decide) (by decide) (Nat.le_of_ble_eq_true rfl) dX5_readWord_61 rfl (fun r σ' q _ => ?_)
        obtain ⟨rfl, rfl⟩ := q
        exact T64 (bI_n0 h56)
    refine g_iload_n (i := 2) (t := 33) dX5_readWord_32 rfl rfl rfl ?_
    refine g_bipush (t := 35) dX5_readWord_33 c_bipush_10 rfl ?_
    refine g_icmp_ge_n (t1 := 96) (t2 := 38) dX5_readWord_35 (by decide) rfl (by omega) (by omega) (fun h35 => ?_) (fun h35 => ?_)
    · exfalso; omega
    · refine g_aload_n (i := 0) (r := 1) (t := 39) dX5_readWord_38 rfl rfl (Or.inl l9_1) rfl ?_
      refine gm_getI (o := 1) (ci := 5) (k := 4) (t := 42) l6_1 l9_1 s_1 gf_X5_35 rfl dX5_readWord_39 rfl ?_
      rw [h4]
      refine g_iload_n (i := 2) (t := 43) dX5_readWord_42 rfl rfl rfl ?_
      refine g_ishr (t := 44) dX5_readWord_43 rfl ?_
      refine g_iconst (t := 45) dX5_readWord_44 c_iconst_1 rfl ?_
      refine g_iand (t := 46) dX5_readWord_45 rfl ?_
      refine g_if_ne (t1 := 53) (t2 := 49) dX5_readWord_46 (by decide) rfl (fun h46 => ?_) (fun h46 => ?_)
      · refine g_iconst (t := 54) dX5_readWord_53 c_iconst_0 rfl ?_
        first
        | exact T54 true ⟨fun _ => h46, fun _ => rfl⟩
        | exact T54 false ⟨fun q => absurd q (by decide), fun q => absurd q h46⟩
      · refine g_iconst (t := 50) dX5_readWord_49 c_iconst_1 rfl ?_
        refine g_goto (t := 54) dX5_readWord_50 (by decide) ?_
        first
        | exact T54 true ⟨fun _ => h46, fun _ => rfl⟩
        | exact T54 false ⟨fun q => absurd q (by decide), fun q => absurd q h46⟩
theorem x5_readWord {T : tT} {j : Nat} {sd : Int32} (hT : tX I T) (h3 : I 1 3 = nI j) (hj : j ≤ T.1) (h4 : I 1 4 = sd) : gQI E fX5_readWord [.ref 1] I h (pW T j sd I) := by
  refine gEv.of rfl (Nat.le_refl _) (Nat.le_of_ble_eq_true rfl) (L := [.ref 1, .null, .null, .null]) rfl ?_
  have T30 : Wp E fX5_readWord (gn h) 30 [.ref 1, .int (nI (ltE T j)), .null, .null] [] (gM I h) (gRet fX5_readWord (gn h) (fun r σ' => ∃ (v : Int32) (I' : Nat → Nat → Int32), r = some (.int v) ∧ σ' = gM I' h ∧ pW T j sd I v I')) := by
    refine g_iconst (t := 31) dX5_readWord_30 c_iconst_1 rfl ?_
    refine g_istore_n (i := 2) (t := 32) (L1 := [_, _, _, _]) dX5_readWord_31 rfl (by decide) rfl rfl rfl ?_
    exact x5_rw_loop hT h3 hj h4 9 0 _ rfl (fun k hk => absurd hk (Nat.not_lt_zero _))
  refine g_aload_n (i := 0) (r := 1) (t := 1) dX5_readWord_0 rfl rfl (Or.inl l9_1) rfl ?_
  refine gm_getI (o := 1) (ci := 5) (k := 3) (t := 4) l6_1 l9_1 s_1 gf_X5_32 rfl dX5_readWord_1 rfl ?_
  rw [h3]
  refine g_istore_n (i := 1) (t := 5) (L1 := [_, _, _, _]) dX5_readWord_4 rfl (by decide) rfl rfl rfl ?_
  exact x5_rw_end hT (T.1 - j) j (by omega) rfl T30
end X5C

