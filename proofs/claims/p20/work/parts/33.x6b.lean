/-! FlexRows: the changing steps -/
theorem bd_0 {n : Nat} {x : Int32} (h : x < 0) : bdI n x := Or.inl h
theorem bd_gt {k : Nat} {x : Int32} (hk : k < 1000) (h : ¬ x ≤ nI k) : bdI (k + 1) x := by
  by_cases q : x < 0
  · exact Or.inl q
  · obtain ⟨j, hj, rfl⟩ := nI_of q
    refine Or.inr ((nI_leI (by omega) hj).mpr ?_)
    apply Classical.byContradiction
    intro z
    exact h ((nI_leI hj (by omega)).mpr (by omega))
theorem bd_ge {k : Nat} {x : Int32} (h : nI k ≤ x) : bdI k x := Or.inr h
theorem bd_nge {k : Nat} {x : Int32} (h : ¬ x < nI k) : bdI k x := Or.inr (Int32.not_lt.mp h)
theorem bd_le {k : Nat} {x : Int32} (hk : k < 999) (h1 : ¬ x < 0) (h : x ≤ nI k) : ¬ bdI (k + 1) x := by
  obtain ⟨j, hj, rfl⟩ := nI_of h1
  have := (nI_leI hj (by omega)).mp h
  exact bd_nI (by omega) (by omega)
theorem bd_lt {k : Nat} {x : Int32} (h1 : ¬ x < 0) (h : x < nI k) : ¬ bdI k x := fun q => q.elim h1 (fun z => absurd h (Int32.not_lt.mpr z))
theorem hS_len {S : sT} (h : S.2.1.length ≤ 8) : (hS S).length = min (S.2.1.length + 1) 8 := by
  unfold hS
  rw [List.length_take, List.length_cons]
  omega
abbrev CL : List Nat := List.range 41
theorem rX_of {I : Nat → Nat → Int32} {n : Nat} {H : List sS} {T : tT} (hn : n ≤ 16) (h4 : I 4 0 = nI n) (hH : hX I H) (hT : tX I T) (h0 : I 0 7 = nI 0) : rX I ((n, xP I, I 5), H, T) := ⟨hn, h4, rfl, rfl, hH, hT, Or.inl h0⟩
section X6B
variable {E : gE} {I : Nat → Nat → Int32} {h : gX} {S : sT}
theorem x6_before (hX0 : rX I S) : gQV E fX6_beforeChange [.ref 0] I h (fun I' => gSame [0, 7, 8, 9, 10] I I' ∧ hX I' (hS S) ∧ I' 0 7 = nI 0) := by
  refine gEv.of rfl (Nat.le_refl _) (Nat.le_of_ble_eq_true rfl) (L := [.ref 0]) rfl ?_
  obtain ⟨hn, h4, hP, hB, ⟨g1, g2, k, g3, g4, g5⟩, hT, hl⟩ := hX0
  refine g_aload_n (i := 0) (r := 0) (t := 1) dX6_beforeChange_0 rfl rfl (Or.inl l9_0) rfl ?_
  refine gm_getR (o := 0) (ci := 6) (k := 2) (r := 7) (t := 4) l6_0 l9_0 s_0 gf_X6_26 rfl r_0_2 l9_7 dX6_beforeChange_1 rfl ?_
  refine g_aload_n (i := 0) (r := 0) (t := 5) dX6_beforeChange_4 rfl rfl (Or.inl l9_0) rfl ?_
  refine gm_getR (o := 0) (ci := 6) (k := 1) (r := 4) (t := 8) l6_0 l9_0 s_0 gf_X6_19 rfl r_0_1 l9_4 dX6_beforeChange_5 rfl ?_
  refine g_cVv (o := 7) (t := 11) mX0_record k_X6_181 imX0_record seX0_record l6_7 l9_7 s_7 rfl dX6_beforeChange_8 (x0_record g3 g1 g4 g2) rfl rfl (by decide) (by decide) (Nat.le_of_ble_eq_true rfl) rfl (Nat.le_refl _) (fun J q => ?_)
  refine g_aload_n (i := 0) (r := 0) (t := 12) dX6_beforeChange_11 rfl rfl (Or.inl l9_0) rfl ?_
  refine g_iconst (t := 13) dX6_beforeChange_12 c_iconst_0 rfl ?_
  refine gm_putI (o := 0) (ci := 6) (k := 7) (t := 16) l6_0 l9_0 s_0 gp_X6_60 rfl (by decide +kernel) (by decide +kernel) dX6_beforeChange_13 rfl ?_
  exact g_retV dX6_beforeChange_16 rfl (by
    obtain ⟨r1, r2, r3, r4, r5, r6⟩ := q
    refine ⟨(r1.wk rfl).up rfl, ⟨?_, ?_, (k + 1) % 8, Nat.mod_lt _ (by decide), ?_, ?_⟩, gup_self _ _ _ _⟩
    · rw [hS_len g1]; omega
    · rw [gup_o _ _ _ _ (by decide), r2, hS_len g1]
    · rw [gup_o _ _ _ _ (by decide), r3]
    · intro u s hu
      have hu8 : u < 8 := by
        apply Classical.byContradiction
        intro z
        rw [hS, List.getElem?_eq_none (by rw [List.length_take, List.length_cons]; omega)] at hu
        exact absurd hu (by simp)
      have hu' : (S.1 :: S.2.1)[u]? = some s := by rw [hS, List.getElem?_take, if_pos hu8] at hu; exact hu
      rw [gup_o _ _ _ _ (by decide)]
      cases u with
      | zero =>
        cases hu'
        have e : ((k + 1) % 8 + 7 - 0) % 8 = k := by omega
        rw [e]
        refine ⟨hn, by rw [r4, if_pos rfl, h4], fun w hw => ?_, fun i w hi hw => ?_⟩
        · rw [gup_o _ _ _ _ (by decide), r5 _ _ hw, if_pos rfl, hB]
        · rw [gup_o _ _ _ _ (by decide), r6 _ _ (by omega), if_pos rfl, ← hP]
      | succ u =>
        have hu'' : S.2.1[u]? = some s := hu'
        have e : ((k + 1) % 8 + 7 - (u + 1)) % 8 = (k + 7 - u) % 8 := by omega
        have ne : (k + 7 - u) % 8 ≠ k := by omega
        obtain ⟨p1, p2, p3, p4⟩ := g5 u s hu''
        rw [e]
        refine ⟨p1, by rw [r4, if_neg ne, p2], fun w hw => ?_, fun i w hi hw => ?_⟩
        · rw [gup_o _ _ _ _ (by decide), r5 _ _ hw, if_neg ne, p3 w hw]
        · rw [gup_o _ _ _ _ (by decide), r6 _ _ (by omega), if_neg ne, p4 i w hi hw])
theorem x6_type {x : Int32} (hX0 : rX I S) : gQI E fX6_type [.ref 0, .int x] I h (fun v I' => gSame CL I I' ∧ ∃ S', oType S x v S' ∧ rX I' S') := by
  refine gEv.of rfl (Nat.le_refl _) (Nat.le_of_ble_eq_true rfl) (L := [.ref 0, .int x]) rfl ?_
  have hX := hX0
  obtain ⟨hn, h4, hP, hB, hH, hT, hl⟩ := hX0
  have h80 := hT.2.1
  refine g_iload_n (i := 1) (t := 1) dX6_type_0 rfl rfl rfl ?_
  refine g_if_lt (t1 := 10) (t2 := 4) dX6_type_1 (by decide) rfl (fun h1 => ?_) (fun h1 => ?_)
  · refine g_sipush (t := 13) dX6_type_10 c_sipush_m1002 rfl ?_
    exact g_retI dX6_type_13 rfl rfl (⟨gSame.rf, S, Or.inl ⟨by first | exact bd_0 h1 | exact bd_gt (k := 127) (by decide) h7, rfl, rfl⟩, hX⟩)
  · refine g_iload_n (i := 1) (t := 5) dX6_type_4 rfl rfl rfl ?_
    refine g_bipush (t := 7) dX6_type_5 c_bipush_127 rfl ?_
    refine g_icmp_le (t1 := 14) (t2 := 10) dX6_type_7 (by decide) rfl (fun h7 => ?_) (fun h7 => ?_)
    · obtain ⟨k, hk, rfl⟩ := bd_no (by decide) (bd_le (k := 127) (by decide) h1 h7)
      refine g_aload_n (i := 0) (r := 0) (t := 15) dX6_type_14 rfl rfl (Or.inl l9_0) rfl ?_
      refine gm_getR (o := 0) (ci := 6) (k := 0) (r := 1) (t := 18) l6_0 l9_0 s_0 gf_X6_10 rfl r_0_0 l9_1 dX6_type_15 rfl ?_
      refine g_iload_n (i := 1) (t := 19) dX6_type_18 rfl rfl rfl ?_
      refine g_cVi (o := 1) (t := 22) mX5_append k_X6_64 imX5_append seX5_append l6_1 l9_1 s_1 rfl dX6_type_19 (x5_append hT hk) rfl rfl (by decide) (by decide) (Nat.le_of_ble_eq_true rfl) rfl (Nat.le_refl _) (fun v J q => ?_)
      refine g_if_eq (t1 := 35) (t2 := 25) dX6_type_22 (by decide) rfl (fun h22 => ?_) (fun h22 => ?_)
      · refine g_sipush (t := 38) dX6_type_35 c_sipush_m1004 rfl ?_
        exact g_retI dX6_type_38 rfl rfl (by
    rcases Nat.lt_or_ge S.2.2.1 80 with z | z
    · obtain ⟨rfl, rfl⟩ := q.1 z
      first
      | exact absurd h22 (by decide)
      | (have hs : gSame [1, 2] I (gup (gup I 2 S.2.2.1 (nI k)) 1 2 (nI (S.2.2.1 + 1))) := (gSame.rf.up rfl).up rfl
         refine ⟨hs.wk rfl, _, Or.inr ⟨k, hk, rfl, Or.inl ⟨z, gup_self _ _ _ _, rfl⟩⟩, hn, by rw [hs.at 4 rfl]; exact h4, by rw [← hP]; funext i w; show _ = I 6 _; rw [← hs.at 6 rfl], by rw [hs.at 5 rfl]; exact hB, hH.keep hs rfl, ⟨gup_self _ _ _ _, by show S.2.2.1 + 1 ≤ 80; omega, ?_⟩, ?_⟩
         · rw [gup_rowo _ _ _ (by decide), gup_row, hT.2.2]
         · rw [hs.at 0 rfl]; exact hl.imp id (fun y => ⟨y.1, y.2.keep hs rfl⟩))
    · obtain ⟨rfl, rfl⟩ := q.2 (by omega)
      first
      | exact absurd rfl h22
      | exact ⟨gSame.rf, S, Or.inr ⟨k, hk, rfl, Or.inr ⟨by omega, rfl, rfl⟩⟩, hX⟩)
      · refine g_aload_n (i := 0) (r := 0) (t := 26) dX6_type_25 rfl rfl (Or.inl l9_0) rfl ?_
        refine gm_getR (o := 0) (ci := 6) (k := 0) (r := 1) (t := 29) l6_0 l9_0 s_0 gf_X6_10 rfl r_0_0 l9_1 dX6_type_26 rfl ?_
        refine gm_getI (o := 1) (ci := 5) (k := 2) (t := 32) l6_1 l9_1 s_1 gf_X6_68 rfl dX6_type_29 rfl ?_
        refine g_goto (t := 38) dX6_type_32 (by decide) ?_
        exact g_retI dX6_type_38 rfl rfl (by
    rcases Nat.lt_or_ge S.2.2.1 80 with z | z
    · obtain ⟨rfl, rfl⟩ := q.1 z
      first
      | exact absurd h22 (by decide)
      | (have hs : gSame [1, 2] I (gup (gup I 2 S.2.2.1 (nI k)) 1 2 (nI (S.2.2.1 + 1))) := (gSame.rf.up rfl).up rfl
         refine ⟨hs.wk rfl, _, Or.inr ⟨k, hk, rfl, Or.inl ⟨z, gup_self _ _ _ _, rfl⟩⟩, hn, by rw [hs.at 4 rfl]; exact h4, by rw [← hP]; funext i w; show _ = I 6 _; rw [← hs.at 6 rfl], by rw [hs.at 5 rfl]; exact hB, hH.keep hs rfl, ⟨gup_self _ _ _ _, by show S.2.2.1 + 1 ≤ 80; omega, ?_⟩, ?_⟩
         · rw [gup_rowo _ _ _ (by decide), gup_row, hT.2.2]
         · rw [hs.at 0 rfl]; exact hl.imp id (fun y => ⟨y.1, y.2.keep hs rfl⟩))
    · obtain ⟨rfl, rfl⟩ := q.2 (by omega)
      first
      | exact absurd rfl h22
      | exact ⟨gSame.rf, S, Or.inr ⟨k, hk, rfl, Or.inr ⟨by omega, rfl, rfl⟩⟩, hX⟩)
    · refine g_sipush (t := 13) dX6_type_10 c_sipush_m1002 rfl ?_
      exact g_retI dX6_type_13 rfl rfl (⟨gSame.rf, S, Or.inl ⟨by first | exact bd_0 h1 | exact bd_gt (k := 127) (by decide) h7, rfl, rfl⟩, hX⟩)
theorem x6_clear (hX0 : rX I S) : gQI E fX6_clear [.ref 0] I h (fun v I' => gSame CL I I' ∧ ∃ S', oClear S v S' ∧ rX I' S') := by
  refine gEv.of rfl (Nat.le_refl _) (Nat.le_of_ble_eq_true rfl) (L := [.ref 0, .null]) rfl ?_
  obtain ⟨hn, h4, hP, hB, hH, hT, hl⟩ := hX0
  have hs : gSame [1] I (gup I 1 2 (nI 0)) := gSame.rf.up rfl
  refine g_aload_n (i := 0) (r := 0) (t := 1) dX6_clear_0 rfl rfl (Or.inl l9_0) rfl ?_
  refine gm_getR (o := 0) (ci := 6) (k := 0) (r := 1) (t := 4) l6_0 l9_0 s_0 gf_X6_10 rfl r_0_0 l9_1 dX6_clear_1 rfl ?_
  refine gm_getI (o := 1) (ci := 5) (k := 2) (t := 7) l6_1 l9_1 s_1 gf_X6_68 rfl dX6_clear_4 rfl ?_
  refine g_istore_n (i := 1) (t := 8) (L1 := [_, _]) dX6_clear_7 rfl (by decide) rfl rfl rfl ?_
  refine g_aload_n (i := 0) (r := 0) (t := 9) dX6_clear_8 rfl rfl (Or.inl l9_0) rfl ?_
  refine gm_getR (o := 0) (ci := 6) (k := 0) (r := 1) (t := 12) l6_0 l9_0 s_0 gf_X6_10 rfl r_0_0 l9_1 dX6_clear_9 rfl ?_
  refine g_iconst (t := 13) dX6_clear_12 c_iconst_0 rfl ?_
  refine gm_putI (o := 1) (ci := 5) (k := 2) (t := 16) l6_1 l9_1 s_1 gp_X6_68 rfl rfl rfl dX6_clear_13 rfl ?_
  refine g_iload_n (i := 1) (t := 17) dX6_clear_16 rfl rfl rfl ?_
  exact g_retI dX6_clear_17 rfl rfl (⟨hs.wk rfl, _, ⟨hT.1, rfl⟩, hn, by rw [hs.at 4 rfl]; exact h4, by rw [← hP]; funext i w; show _ = I 6 _; rw [← hs.at 6 rfl], by rw [hs.at 5 rfl]; exact hB, hH.keep hs rfl, ⟨gup_self _ _ _ _, Nat.zero_le _, by rw [hs.at 2 rfl]; exact hT.2.2⟩, by rw [hs.at 0 rfl]; exact hl.imp id (fun y => ⟨y.1, y.2.keep hs rfl⟩)⟩)
theorem x6_change {x y z : Int32} (hX : rX I S) : gQI E fX6_change [.ref 0, .int x, .int y, .int z] I h (fun v I' => gSame CL I I' ∧ ∃ S', oChange S x y z v S' ∧ rX I' S') := by
  refine gEv.of rfl (Nat.le_refl _) (Nat.le_of_ble_eq_true rfl) (L := [.ref 0, .int x, .int y, .int z, .null]) rfl ?_
  have ⟨hn, h4, hP, hB, hH, hT, hl⟩ := hX
  by_cases hx : bdI S.1.1 x
  · refine g_aload_n (i := 0) (r := 0) (t := 1) dX6_change_0 rfl rfl (Or.inl l9_0) rfl ?_
    refine gm_getR (o := 0) (ci := 6) (k := 1) (r := 4) (t := 4) l6_0 l9_0 s_0 gf_X6_19 rfl r_0_1 l9_4 dX6_change_1 rfl ?_
    refine g_iload_n (i := 1) (t := 5) dX6_change_4 rfl rfl rfl ?_
    refine g_cVp (o := 4) (t := 8) mX4_has k_X6_93 imX4_has seX4_has l6_4 l9_4 s_4 rfl dX6_change_5 (x4_has_f h4 hx) rfl rfl (by decide) (by decide) (Nat.le_of_ble_eq_true rfl) rfl (Nat.le_refl _) ?_
    refine g_if_eq (t1 := 21) (t2 := 11) dX6_change_8 (by decide) rfl (fun h8 => ?_) (fun h8 => ?_)
    · refine g_sipush (t := 24) dX6_change_21 c_sipush_m1002 rfl ?_
      exact g_retI dX6_change_24 rfl rfl (⟨gSame.rf, S, Or.inl ⟨Or.inl hx, rfl, rfl⟩, hX⟩)
    · exact absurd rfl h8
  · obtain ⟨it, hit, rfl⟩ := bd_no (by omega) hx
    refine g_aload_n (i := 0) (r := 0) (t := 1) dX6_change_0 rfl rfl (Or.inl l9_0) rfl ?_
    refine gm_getR (o := 0) (ci := 6) (k := 1) (r := 4) (t := 4) l6_0 l9_0 s_0 gf_X6_19 rfl r_0_1 l9_4 dX6_change_1 rfl ?_
    refine g_iload_n (i := 1) (t := 5) dX6_change_4 rfl rfl rfl ?_
    refine g_cVp (o := 4) (t := 8) mX4_has k_X6_93 imX4_has seX4_has l6_4 l9_4 s_4 rfl dX6_change_5 (x4_has_t h4 hit (by omega)) rfl rfl (by decide) (by decide) (Nat.le_of_ble_eq_true rfl) rfl (Nat.le_refl _) ?_
    refine g_if_eq (t1 := 21) (t2 := 11) dX6_change_8 (by decide) rfl (fun h8 => ?_) (fun h8 => ?_)
    · exact absurd h8 (by decide)
    · refine g_iload_n (i := 2) (t := 12) dX6_change_11 rfl rfl rfl ?_
      refine g_if_lt (t1 := 21) (t2 := 15) dX6_change_12 (by decide) rfl (fun h12 => ?_) (fun h12 => ?_)
      · refine g_sipush (t := 24) dX6_change_21 c_sipush_m1002 rfl ?_
        exact g_retI dX6_change_24 rfl rfl (⟨gSame.rf, S, Or.inl ⟨Or.inr (Or.inl (by first | exact bd_0 h12 | exact bd_nge h18)), rfl, rfl⟩, hX⟩)
      · refine g_iload_n (i := 2) (t := 16) dX6_change_15 rfl rfl rfl ?_
        refine g_bipush (t := 18) dX6_change_16 c_bipush_10 rfl ?_
        refine g_icmp_lt (t1 := 25) (t2 := 21) dX6_change_18 (by decide) rfl (fun h18 => ?_) (fun h18 => ?_)
        · obtain ⟨k, hk, rfl⟩ := bd_no (by decide) (bd_lt h12 h18)
          refine g_iload_n (i := 3) (t := 26) dX6_change_25 rfl rfl rfl ?_
          refine g_gets (j := 0) (r := 1001) (t := 29) rfl rfl kf_X6_103 dX6_change_26 rfl ?_
          refine g_iload_n (i := 2) (t := 30) dX6_change_29 rfl rfl rfl ?_
          refine gm_tld_n (j := 0) (t := 31) rfl rfl dX6_change_30 (show k < 10 from hk) (by decide) rfl ?_
          refine g_icmp_lt (t1 := 43) (t2 := 34) dX6_change_31 (by decide) rfl (fun h31 => ?_) (fun h31 => ?_)
          · refine g_sipush (t := 46) dX6_change_43 c_sipush_m1002 rfl ?_
            exact g_retI dX6_change_46 rfl rfl (⟨gSame.rf, S, Or.inl ⟨Or.inr (Or.inr ⟨k, hk, rfl, by first | exact Or.inl h31 | exact Or.inr (Int32.not_le.mp h40)⟩), rfl, rfl⟩, hX⟩)
          · refine g_iload_n (i := 3) (t := 35) dX6_change_34 rfl rfl rfl ?_
            refine g_gets (j := 1) (r := 1002) (t := 38) rfl rfl kf_X6_106 dX6_change_35 rfl ?_
            refine g_iload_n (i := 2) (t := 39) dX6_change_38 rfl rfl rfl ?_
            refine gm_tld_n (j := 1) (t := 40) rfl rfl dX6_change_39 (show k < 10 from hk) (by decide) rfl ?_
            refine g_icmp_le (t1 := 47) (t2 := 43) dX6_change_40 (by decide) rfl (fun h40 => ?_) (fun h40 => ?_)
            · refine g_aload_n (i := 0) (r := 0) (t := 48) dX6_change_47 rfl rfl (Or.inl l9_0) rfl ?_
              refine g_cVv (o := 0) (t := 51) mX6_beforeChange k_X6_79 imX6_beforeChange seX6_beforeChange l6_0 l9_0 s_0 rfl dX6_change_48 (x6_before hX) rfl rfl (by decide) (by decide) (Nat.le_of_ble_eq_true rfl) rfl (Nat.le_refl _) (fun J q => ?_)
              refine g_aload_n (i := 0) (r := 0) (t := 52) dX6_change_51 rfl rfl (Or.inl l9_0) rfl ?_
              refine gm_getR (o := 0) (ci := 6) (k := 1) (r := 4) (t := 55) l6_0 l9_0 s_0 gf_X6_19 rfl r_0_1 l9_4 dX6_change_52 rfl ?_
              refine g_iload_n (i := 1) (t := 56) dX6_change_55 rfl rfl rfl ?_
              refine g_iload_n (i := 2) (t := 57) dX6_change_56 rfl rfl rfl ?_
              refine g_cVp (o := 4) (t := 60) mX4_property k_X6_109 imX4_property seX4_property l6_4 l9_4 s_4 rfl dX6_change_57 (x4_property (by omega) (by omega)) rfl rfl (by decide) (by decide) (Nat.le_of_ble_eq_true rfl) rfl (Nat.le_refl _) ?_
              refine g_istore (i := 4) (t := 62) (L1 := [_, _, _, _, _]) dX6_change_60 (by decide) rfl rfl rfl ?_
              refine g_aload_n (i := 0) (r := 0) (t := 63) dX6_change_62 rfl rfl (Or.inl l9_0) rfl ?_
              refine gm_getR (o := 0) (ci := 6) (k := 1) (r := 4) (t := 66) l6_0 l9_0 s_0 gf_X6_19 rfl r_0_1 l9_4 dX6_change_63 rfl ?_
              refine g_iload_n (i := 1) (t := 67) dX6_change_66 rfl rfl rfl ?_
              refine g_iload_n (i := 2) (t := 68) dX6_change_67 rfl rfl rfl ?_
              refine g_iload_n (i := 3) (t := 69) dX6_change_68 rfl rfl rfl ?_
              refine g_cVd (o := 4) (t := 72) mX4_put k_X6_113 imX4_put seX4_put l6_4 l9_4 s_4 rfl dX6_change_69 (x4_put (by omega) (by omega)) rfl rfl (by decide) (by decide) (Nat.le_of_ble_eq_true rfl) rfl (Nat.le_refl _) ?_
              refine g_iload (i := 4) (t := 74) dX6_change_72 rfl rfl ?_
              exact g_retI dX6_change_74 rfl rfl (by
    have e6 : J 6 = I 6 := q.1.at 6 rfl
    have hs : gSame [0, 6, 7, 8, 9, 10] I (gup J 6 (11 * it + k) z) := (q.1.wk rfl).up rfl
    have hs1 : gSame [6] J (gup J 6 (11 * it + k) z) := gSame.rf.up rfl
    refine ⟨hs.wk rfl, ((S.1.1, xP (gup J 6 (11 * it + k) z), (gup J 6 (11 * it + k) z) 5), hS S, S.2.2), Or.inr ⟨it, k, hit, rfl, hk, rfl, h31, Int32.not_lt.mpr h40, ?_, rfl, ?_, rfl, fun i w hi hw => ?_⟩, rX_of (H := hS S) (T := S.2.2) hn ?_ (q.2.1.keep hs1 rfl) (hT.keep hs rfl) ?_⟩
    · rw [e6, ← hP]
    · show gup J 6 (11 * it + k) z 5 = _; rw [hs.at 5 rfl, hB]
    · show gup J 6 (11 * it + k) z 6 (11 * i + w) = _
      rw [gup_at, e6, ← hP]
      by_cases y : i = it ∧ w = k
      · rw [if_pos y, if_pos (by omega)]
      · rw [if_neg y, if_neg (by omega)]
    · rw [hs.at 4 rfl]; exact h4
    · rw [gup_o _ _ _ _ (by decide)]; exact q.2.2)
            · refine g_sipush (t := 46) dX6_change_43 c_sipush_m1002 rfl ?_
              exact g_retI dX6_change_46 rfl rfl (⟨gSame.rf, S, Or.inl ⟨Or.inr (Or.inr ⟨k, hk, rfl, by first | exact Or.inl h31 | exact Or.inr (Int32.not_le.mp h40)⟩), rfl, rfl⟩, hX⟩)
        · refine g_sipush (t := 24) dX6_change_21 c_sipush_m1002 rfl ?_
          exact g_retI dX6_change_24 rfl rfl (⟨gSame.rf, S, Or.inl ⟨Or.inr (Or.inl (by first | exact bd_0 h12 | exact bd_nge h18)), rfl, rfl⟩, hX⟩)
theorem x6_hide {x : Int32} (hX : rX I S) : gQI E fX6_hide [.ref 0, .int x] I h (fun v I' => gSame CL I I' ∧ ∃ S', oHide S x v S' ∧ rX I' S') := by
  refine gEv.of rfl (Nat.le_refl _) (Nat.le_of_ble_eq_true rfl) (L := [.ref 0, .int x, .null]) rfl ?_
  have ⟨hn, h4, hP, hB, hH, hT, hl⟩ := hX
  by_cases hx : bdI S.1.1 x
  · refine g_aload_n (i := 0) (r := 0) (t := 1) dX6_hide_0 rfl rfl (Or.inl l9_0) rfl ?_
    refine gm_getR (o := 0) (ci := 6) (k := 1) (r := 4) (t := 4) l6_0 l9_0 s_0 gf_X6_19 rfl r_0_1 l9_4 dX6_hide_1 rfl ?_
    refine g_iload_n (i := 1) (t := 5) dX6_hide_4 rfl rfl rfl ?_
    refine g_cVp (o := 4) (t := 8) mX4_has k_X6_93 imX4_has seX4_has l6_4 l9_4 s_4 rfl dX6_hide_5 (x4_has_f h4 hx) rfl rfl (by decide) (by decide) (Nat.le_of_ble_eq_true rfl) rfl (Nat.le_refl _) ?_
    refine g_if_ne (t1 := 15) (t2 := 11) dX6_hide_8 (by decide) rfl (fun h8 => ?_) (fun h8 => ?_)
    · exact absurd rfl h8
    · refine g_sipush (t := 14) dX6_hide_11 c_sipush_m1002 rfl ?_
      exact g_retI dX6_hide_14 rfl rfl (⟨gSame.rf, S, Or.inl ⟨hx, rfl, rfl⟩, hX⟩)
  · obtain ⟨it, hit, rfl⟩ := bd_no (by omega) hx
    refine g_aload_n (i := 0) (r := 0) (t := 1) dX6_hide_0 rfl rfl (Or.inl l9_0) rfl ?_
    refine gm_getR (o := 0) (ci := 6) (k := 1) (r := 4) (t := 4) l6_0 l9_0 s_0 gf_X6_19 rfl r_0_1 l9_4 dX6_hide_1 rfl ?_
    refine g_iload_n (i := 1) (t := 5) dX6_hide_4 rfl rfl rfl ?_
    refine g_cVp (o := 4) (t := 8) mX4_has k_X6_93 imX4_has seX4_has l6_4 l9_4 s_4 rfl dX6_hide_5 (x4_has_t h4 hit (by omega)) rfl rfl (by decide) (by decide) (Nat.le_of_ble_eq_true rfl) rfl (Nat.le_refl _) ?_
    refine g_if_ne (t1 := 15) (t2 := 11) dX6_hide_8 (by decide) rfl (fun h8 => ?_) (fun h8 => ?_)
    · refine g_aload_n (i := 0) (r := 0) (t := 16) dX6_hide_15 rfl rfl (Or.inl l9_0) rfl ?_
      refine g_cVv (o := 0) (t := 19) mX6_beforeChange k_X6_79 imX6_beforeChange seX6_beforeChange l6_0 l9_0 s_0 rfl dX6_hide_16 (x6_before hX) rfl rfl (by decide) (by decide) (Nat.le_of_ble_eq_true rfl) rfl (Nat.le_refl _) (fun J q => ?_)
      refine g_iconst (t := 20) dX6_hide_19 c_iconst_1 rfl ?_
      refine g_aload_n (i := 0) (r := 0) (t := 21) dX6_hide_20 rfl rfl (Or.inl l9_0) rfl ?_
      refine gm_getR (o := 0) (ci := 6) (k := 1) (r := 4) (t := 24) l6_0 l9_0 s_0 gf_X6_19 rfl r_0_1 l9_4 dX6_hide_21 rfl ?_
      refine g_iload_n (i := 1) (t := 25) dX6_hide_24 rfl rfl rfl ?_
      refine g_bipush (t := 27) dX6_hide_25 c_bipush_10 rfl ?_
      refine g_cVp (o := 4) (t := 30) mX4_property k_X6_109 imX4_property seX4_property l6_4 l9_4 s_4 rfl dX6_hide_27 (x4_property (by omega) (by omega)) rfl rfl (by decide) (by decide) (Nat.le_of_ble_eq_true rfl) rfl (Nat.le_refl _) ?_
      refine g_isub (t := 31) dX6_hide_30 rfl ?_
      refine g_istore_n (i := 2) (t := 32) (L1 := [_, _, _]) dX6_hide_31 rfl (by decide) rfl rfl rfl ?_
      refine g_aload_n (i := 0) (r := 0) (t := 33) dX6_hide_32 rfl rfl (Or.inl l9_0) rfl ?_
      refine gm_getR (o := 0) (ci := 6) (k := 1) (r := 4) (t := 36) l6_0 l9_0 s_0 gf_X6_19 rfl r_0_1 l9_4 dX6_hide_33 rfl ?_
      refine g_iload_n (i := 1) (t := 37) dX6_hide_36 rfl rfl rfl ?_
      refine g_bipush (t := 39) dX6_hide_37 c_bipush_10 rfl ?_
      refine g_iload_n (i := 2) (t := 40) dX6_hide_39 rfl rfl rfl ?_
      refine g_cVd (o := 4) (t := 43) mX4_put k_X6_113 imX4_put seX4_put l6_4 l9_4 s_4 rfl dX6_hide_40 (x4_put (by omega) (by omega)) rfl rfl (by decide) (by decide) (Nat.le_of_ble_eq_true rfl) rfl (Nat.le_refl _) ?_
      refine g_iload_n (i := 2) (t := 44) dX6_hide_43 rfl rfl rfl ?_
      exact g_retI dX6_hide_44 rfl rfl (by
    have e6 : J 6 = I 6 := q.1.at 6 rfl
    have eP : J 6 (11 * it + 10) = S.1.2.1 it 10 := by rw [e6, ← hP]
    rw [eP]
    have hs : gSame [0, 6, 7, 8, 9, 10] I (gup J 6 (11 * it + 10) (nI 1 - S.1.2.1 it 10)) := (q.1.wk rfl).up rfl
    have hs1 : gSame [6] J (gup J 6 (11 * it + 10) (nI 1 - S.1.2.1 it 10)) := gSame.rf.up rfl
    refine ⟨hs.wk rfl, ((S.1.1, xP (gup J 6 (11 * it + 10) (nI 1 - S.1.2.1 it 10)), (gup J 6 (11 * it + 10) (nI 1 - S.1.2.1 it 10)) 5), hS S, S.2.2), Or.inr ⟨it, hit, rfl, rfl, rfl, ?_, rfl, fun i w hi hw => ?_⟩, rX_of (H := hS S) (T := S.2.2) hn ?_ (q.2.1.keep hs1 rfl) (hT.keep hs rfl) ?_⟩
    · show gup J 6 (11 * it + 10) (nI 1 - S.1.2.1 it 10) 5 = _; rw [hs.at 5 rfl, hB]
    · show gup J 6 (11 * it + 10) (nI 1 - S.1.2.1 it 10) 6 (11 * i + w) = _
      rw [gup_at, e6]
      by_cases y : i = it ∧ w = 10
      · rw [if_pos y, if_pos (by omega)]
      · rw [if_neg y, if_neg (by omega), ← hP]
    · rw [hs.at 4 rfl]; exact h4
    · rw [gup_o _ _ _ _ (by decide)]; exact q.2.2)
    · exact absurd h8 (by decide)
theorem x6_set {y z : Int32} (hX : rX I S) : gQI E fX6_set [.ref 0, .int y, .int z] I h (fun v I' => gSame CL I I' ∧ ∃ S', oSet S y z v S' ∧ rX I' S') := by
  refine gEv.of rfl (Nat.le_refl _) (Nat.le_of_ble_eq_true rfl) (L := [.ref 0, .int y, .int z, .null]) rfl ?_
  have ⟨hn, h4, hP, hB, hH, hT, hl⟩ := hX
  refine g_iload_n (i := 1) (t := 1) dX6_set_0 rfl rfl rfl ?_
  refine g_if_lt (t1 := 10) (t2 := 4) dX6_set_1 (by decide) rfl (fun h1 => ?_) (fun h1 => ?_)
  · refine g_sipush (t := 13) dX6_set_10 c_sipush_m1002 rfl ?_
    exact g_retI dX6_set_13 rfl rfl (⟨gSame.rf, S, Or.inl ⟨Or.inl (by first | exact bd_0 h1 | exact bd_nge h7), rfl, rfl⟩, hX⟩)
  · refine g_iload_n (i := 1) (t := 5) dX6_set_4 rfl rfl rfl ?_
    refine g_bipush (t := 7) dX6_set_5 c_bipush_7 rfl ?_
    refine g_icmp_lt (t1 := 14) (t2 := 10) dX6_set_7 (by decide) rfl (fun h7 => ?_) (fun h7 => ?_)
    · obtain ⟨k, hk, rfl⟩ := bd_no (by decide) (bd_lt h1 h7)
      refine g_iload_n (i := 2) (t := 15) dX6_set_14 rfl rfl rfl ?_
      refine g_gets (j := 3) (r := 1004) (t := 18) rfl rfl kf_X6_117 dX6_set_15 rfl ?_
      refine g_iload_n (i := 1) (t := 19) dX6_set_18 rfl rfl rfl ?_
      refine gm_tld_n (j := 3) (t := 20) rfl rfl dX6_set_19 (show k < 7 from hk) (by decide) rfl ?_
      refine g_icmp_lt (t1 := 32) (t2 := 23) dX6_set_20 (by decide) rfl (fun h20 => ?_) (fun h20 => ?_)
      · refine g_sipush (t := 35) dX6_set_32 c_sipush_m1002 rfl ?_
        exact g_retI dX6_set_35 rfl rfl (⟨gSame.rf, S, Or.inl ⟨Or.inr ⟨k, hk, rfl, by first | exact Or.inl h20 | exact Or.inr (Int32.not_le.mp h29)⟩, rfl, rfl⟩, hX⟩)
      · refine g_iload_n (i := 2) (t := 24) dX6_set_23 rfl rfl rfl ?_
        refine g_gets (j := 4) (r := 1005) (t := 27) rfl rfl kf_X6_120 dX6_set_24 rfl ?_
        refine g_iload_n (i := 1) (t := 28) dX6_set_27 rfl rfl rfl ?_
        refine gm_tld_n (j := 4) (t := 29) rfl rfl dX6_set_28 (show k < 7 from hk) (by decide) rfl ?_
        refine g_icmp_le (t1 := 36) (t2 := 32) dX6_set_29 (by decide) rfl (fun h29 => ?_) (fun h29 => ?_)
        · refine g_aload_n (i := 0) (r := 0) (t := 37) dX6_set_36 rfl rfl (Or.inl l9_0) rfl ?_
          refine g_cVv (o := 0) (t := 40) mX6_beforeChange k_X6_79 imX6_beforeChange seX6_beforeChange l6_0 l9_0 s_0 rfl dX6_set_37 (x6_before hX) rfl rfl (by decide) (by decide) (Nat.le_of_ble_eq_true rfl) rfl (Nat.le_refl _) (fun J q => ?_)
          refine g_aload_n (i := 0) (r := 0) (t := 41) dX6_set_40 rfl rfl (Or.inl l9_0) rfl ?_
          refine gm_getR (o := 0) (ci := 6) (k := 1) (r := 4) (t := 44) l6_0 l9_0 s_0 gf_X6_19 rfl r_0_1 l9_4 dX6_set_41 rfl ?_
          refine g_iload_n (i := 1) (t := 45) dX6_set_44 rfl rfl rfl ?_
          refine g_cVp (o := 4) (t := 48) mX4_number k_X6_123 imX4_number seX4_number l6_4 l9_4 s_4 rfl dX6_set_45 (x4_number (by omega)) rfl rfl (by decide) (by decide) (Nat.le_of_ble_eq_true rfl) rfl (Nat.le_refl _) ?_
          refine g_istore_n (i := 3) (t := 49) (L1 := [_, _, _, _]) dX6_set_48 rfl (by decide) rfl rfl rfl ?_
          refine g_aload_n (i := 0) (r := 0) (t := 50) dX6_set_49 rfl rfl (Or.inl l9_0) rfl ?_
          refine gm_getR (o := 0) (ci := 6) (k := 1) (r := 4) (t := 53) l6_0 l9_0 s_0 gf_X6_19 rfl r_0_1 l9_4 dX6_set_50 rfl ?_
          refine g_iload_n (i := 1) (t := 54) dX6_set_53 rfl rfl rfl ?_
          refine g_iload_n (i := 2) (t := 55) dX6_set_54 rfl rfl rfl ?_
          refine g_cVd (o := 4) (t := 58) mX4_setNumber k_X6_126 imX4_setNumber seX4_setNumber l6_4 l9_4 s_4 rfl dX6_set_55 (x4_setNumber (by omega)) rfl rfl (by decide) (by decide) (Nat.le_of_ble_eq_true rfl) rfl (Nat.le_refl _) ?_
          refine g_iload_n (i := 3) (t := 59) dX6_set_58 rfl rfl rfl ?_
          exact g_retI dX6_set_59 rfl rfl (by
    have e5 : J 5 = I 5 := q.1.at 5 rfl
    have hs : gSame [0, 5, 7, 8, 9, 10] I (gup J 5 k z) := (q.1.wk rfl).up rfl
    have hs1 : gSame [5] J (gup J 5 k z) := gSame.rf.up rfl
    refine ⟨hs.wk rfl, ((S.1.1, xP (gup J 5 k z), (gup J 5 k z) 5), hS S, S.2.2), Or.inr ⟨k, hk, rfl, h20, Int32.not_lt.mpr h29, ?_, rfl, ?_, rfl, fun w hw => ?_⟩, rX_of (H := hS S) (T := S.2.2) hn ?_ (q.2.1.keep hs1 rfl) (hT.keep hs rfl) ?_⟩
    · rw [e5, hB]
    · rw [← hP]; funext i w; show gup J 5 k z 6 _ = I 6 _; rw [hs.at 6 rfl]
    · show gup J 5 k z 5 w = _
      rw [gup_at, e5, hB]
    · rw [hs.at 4 rfl]; exact h4
    · rw [gup_o _ _ _ _ (by decide)]; exact q.2.2)
        · refine g_sipush (t := 35) dX6_set_32 c_sipush_m1002 rfl ?_
          exact g_retI dX6_set_35 rfl rfl (⟨gSame.rf, S, Or.inl ⟨Or.inr ⟨k, hk, rfl, by first | exact Or.inl h20 | exact Or.inr (Int32.not_le.mp h29)⟩, rfl, rfl⟩, hX⟩)
    · refine g_sipush (t := 13) dX6_set_10 c_sipush_m1002 rfl ?_
      exact g_retI dX6_set_13 rfl rfl (⟨gSame.rf, S, Or.inl ⟨Or.inl (by first | exact bd_0 h1 | exact bd_nge h7), rfl, rfl⟩, hX⟩)
end X6B

