/-! FlexRows: coming, going, moving, undoing -/
section X6C
variable {E : gE} {I : Nat → Nat → Int32} {h : gX} {S : sT}
theorem x6_remove {x : Int32} (hX : rX I S) : gQI E fX6_remove [.ref 0, .int x] I h (fun v I' => gSame CL I I' ∧ ∃ S', oRemove S x v S' ∧ rX I' S') := by
  refine gEv.of rfl (Nat.le_refl _) (Nat.le_of_ble_eq_true rfl) (L := [.ref 0, .int x]) rfl ?_
  have ⟨hn, h4, hP, hB, hH, hT, hl⟩ := hX
  by_cases hx : bdI S.1.1 x
  · refine g_aload_n (i := 0) (r := 0) (t := 1) dX6_remove_0 rfl rfl (Or.inl l9_0) rfl ?_
    refine gm_getR (o := 0) (ci := 6) (k := 1) (r := 4) (t := 4) l6_0 l9_0 s_0 gf_X6_19 rfl r_0_1 l9_4 dX6_remove_1 rfl ?_
    refine g_iload_n (i := 1) (t := 5) dX6_remove_4 rfl rfl rfl ?_
    refine g_cVp (o := 4) (t := 8) mX4_has k_X6_93 imX4_has seX4_has l6_4 l9_4 s_4 rfl dX6_remove_5 (x4_has_f h4 hx) rfl rfl (by decide) (by decide) (Nat.le_of_ble_eq_true rfl) rfl (Nat.le_refl _) ?_
    refine g_if_ne (t1 := 15) (t2 := 11) dX6_remove_8 (by decide) rfl (fun h8 => ?_) (fun h8 => ?_)
    · exact absurd rfl h8
    · refine g_sipush (t := 14) dX6_remove_11 c_sipush_m1002 rfl ?_
      exact g_retI dX6_remove_14 rfl rfl (⟨gSame.rf, S, Or.inl ⟨hx, rfl, rfl⟩, hX⟩)
  · obtain ⟨it, hit, rfl⟩ := bd_no (by omega) hx
    refine g_aload_n (i := 0) (r := 0) (t := 1) dX6_remove_0 rfl rfl (Or.inl l9_0) rfl ?_
    refine gm_getR (o := 0) (ci := 6) (k := 1) (r := 4) (t := 4) l6_0 l9_0 s_0 gf_X6_19 rfl r_0_1 l9_4 dX6_remove_1 rfl ?_
    refine g_iload_n (i := 1) (t := 5) dX6_remove_4 rfl rfl rfl ?_
    refine g_cVp (o := 4) (t := 8) mX4_has k_X6_93 imX4_has seX4_has l6_4 l9_4 s_4 rfl dX6_remove_5 (x4_has_t h4 hit (by omega)) rfl rfl (by decide) (by decide) (Nat.le_of_ble_eq_true rfl) rfl (Nat.le_refl _) ?_
    refine g_if_ne (t1 := 15) (t2 := 11) dX6_remove_8 (by decide) rfl (fun h8 => ?_) (fun h8 => ?_)
    · refine g_aload_n (i := 0) (r := 0) (t := 16) dX6_remove_15 rfl rfl (Or.inl l9_0) rfl ?_
      refine g_cVv (o := 0) (t := 19) mX6_beforeChange k_X6_79 imX6_beforeChange seX6_beforeChange l6_0 l9_0 s_0 rfl dX6_remove_16 (x6_before hX) rfl rfl (by decide) (by decide) (Nat.le_of_ble_eq_true rfl) rfl (Nat.le_refl _) (fun J q => ?_)
      refine g_aload_n (i := 0) (r := 0) (t := 20) dX6_remove_19 rfl rfl (Or.inl l9_0) rfl ?_
      refine gm_getR (o := 0) (ci := 6) (k := 1) (r := 4) (t := 23) l6_0 l9_0 s_0 gf_X6_19 rfl r_0_1 l9_4 dX6_remove_20 rfl ?_
      refine g_iload_n (i := 1) (t := 24) dX6_remove_23 rfl rfl rfl ?_
      refine g_aload_n (i := 0) (r := 0) (t := 25) dX6_remove_24 rfl rfl (Or.inl l9_0) rfl ?_
      refine gm_getR (o := 0) (ci := 6) (k := 1) (r := 4) (t := 28) l6_0 l9_0 s_0 gf_X6_19 rfl r_0_1 l9_4 dX6_remove_25 rfl ?_
      refine gm_getI (o := 4) (ci := 4) (k := 0) (t := 31) l6_4 l9_4 s_4 gf_X6_72 rfl dX6_remove_28 rfl ?_
      rw [q.1.at 4 rfl, h4]
      refine g_iconst (t := 32) dX6_remove_31 c_iconst_1 rfl ?_
      refine g_isub (t := 33) dX6_remove_32 rfl ?_
      refine g_top (y := nI (S.1.1 - 1)) (pk_sub (by omega)) ?_
      refine g_cVv (o := 4) (t := 36) mX4_carry k_X6_89 imX4_carry seX4_carry l6_4 l9_4 s_4 rfl dX6_remove_33 (x4_carry (by omega) (by omega)) rfl rfl (by decide) (by decide) (Nat.le_of_ble_eq_true rfl) rfl (Nat.le_refl _) (fun J2 q2 => ?_)
      refine g_aload_n (i := 0) (r := 0) (t := 37) dX6_remove_36 rfl rfl (Or.inl l9_0) rfl ?_
      refine gm_getR (o := 0) (ci := 6) (k := 1) (r := 4) (t := 40) l6_0 l9_0 s_0 gf_X6_19 rfl r_0_1 l9_4 dX6_remove_37 rfl ?_
      refine g_dup (t := 41) dX6_remove_40 rfl rfl ?_
      refine gm_getI (o := 4) (ci := 4) (k := 0) (t := 44) l6_4 l9_4 s_4 gf_X6_72 rfl dX6_remove_41 rfl ?_
      rw [q2.1.at 4 rfl, q.1.at 4 rfl, h4]
      refine g_iconst (t := 45) dX6_remove_44 c_iconst_1 rfl ?_
      refine g_isub (t := 46) dX6_remove_45 rfl ?_
      refine g_top (y := nI (S.1.1 - 1)) (pk_sub (by omega)) ?_
      refine gm_putI (o := 4) (ci := 4) (k := 0) (t := 49) l6_4 l9_4 s_4 gp_X6_72 rfl rfl rfl dX6_remove_46 rfl ?_
      refine g_aload_n (i := 0) (r := 0) (t := 50) dX6_remove_49 rfl rfl (Or.inl l9_0) rfl ?_
      refine gm_getR (o := 0) (ci := 6) (k := 1) (r := 4) (t := 53) l6_0 l9_0 s_0 gf_X6_19 rfl r_0_1 l9_4 dX6_remove_50 rfl ?_
      refine gm_getI (o := 4) (ci := 4) (k := 0) (t := 56) l6_4 l9_4 s_4 gf_X6_72 rfl dX6_remove_53 rfl ?_
      rw [gup_self]
      exact g_retI dX6_remove_56 rfl rfl (by
    have hs1 : gSame [4, 6] J (gup J2 4 0 (nI (S.1.1 - 1))) := (q2.1.wk rfl).up rfl
    have hs : gSame [0, 4, 6, 7, 8, 9, 10] I (gup J2 4 0 (nI (S.1.1 - 1))) := (q.1.wk rfl).trans (hs1.wk rfl)
    refine ⟨hs.wk rfl, ((S.1.1 - 1, xP (gup J2 4 0 (nI (S.1.1 - 1))), (gup J2 4 0 (nI (S.1.1 - 1))) 5), hS S, S.2.2), Or.inr ⟨it, hit, rfl, rfl, rfl, ?_, rfl, fun i w hi hw => ?_⟩, rX_of (H := hS S) (T := S.2.2) (by omega) (gup_self _ _ _ _) (q.2.1.keep hs1 rfl) (hT.keep hs rfl) ?_⟩
    · show gup J2 4 0 (nI (S.1.1 - 1)) 5 = _; rw [hs.at 5 rfl, hB]
    · show gup J2 4 0 (nI (S.1.1 - 1)) 6 (11 * i + w) = _
      rw [gup_o _ _ _ _ (by decide), q2.2 i w hi hw, q.1.at 6 rfl, ← hP]
    · rw [hs1.at 0 rfl]; exact q.2.2)
    · exact absurd h8 (by decide)
theorem mvI_lt {a b i n : Nat} (ha : a < n) (hb : b < n) (hi : i < n) : mvI a b i < n := by
  unfold mvI
  split
  · split
    · omega
    · split
      · omega
      · split <;> omega
  · split
    · omega
    · split
      · omega
      · split <;> omega
theorem x6_insert {x : Int32} (hX : rX I S) : gQI E fX6_insert [.ref 0, .int x] I h (fun v I' => gSame CL I I' ∧ ∃ S', oInsert S x v S' ∧ rX I' S') := by
  refine gEv.of rfl (Nat.le_refl _) (Nat.le_of_ble_eq_true rfl) (L := [.ref 0, .int x, .null]) rfl ?_
  have ⟨hn, h4, hP, hB, hH, hT, hl⟩ := hX
  have T27 : ∀ (it : Nat) (v : Int32) (J0 : Nat → Nat → Int32), it < S.1.1 + 1 → pR S.2.2 I v J0 → Wp E fX6_insert (gn h) 27 [.ref 0, .int (nI it), .int v] [] (gM J0 h) (gRet fX6_insert (gn h) (fun r σ' => ∃ (v : Int32) (I' : Nat → Nat → Int32), r = some (.int v) ∧ σ' = gM I' h ∧ gSame CL I I' ∧ ∃ S', oInsert S (nI it) v S' ∧ rX I' S')) := by
    intro it v J0 hit ⟨r1, r2, r3⟩
    have hXJ : rX J0 S := ⟨hn, by rw [r1.at 4 rfl]; exact h4, by rw [← hP]; funext i w; show J0 6 _ = I 6 _; rw [r1.at 6 rfl], by rw [r1.at 5 rfl]; exact hB, hH.keep r1 rfl, ⟨by rw [r2]; exact hT.1, hT.2.1, by rw [r1.at 2 rfl]; exact hT.2.2⟩, by rw [r1.at 0 rfl]; exact hl.imp id (fun y => ⟨y.1, y.2.keep r1 rfl⟩)⟩
    have ⟨_, j4, jP, jB, jH, jT, jl⟩ := hXJ
    rcases r3 with ⟨f, f80, hf, rfl⟩ | ⟨hf, rfl, hv⟩
    · refine g_iload_n (i := 2) (t := 28) dX6_insert_27 rfl rfl rfl ?_
      refine g_if_lt (t1 := 37) (t2 := 31) dX6_insert_28 (by decide) rfl (fun h28 => ?_) (fun h28 => ?_)
      · exact absurd h28 (nI_pos (by omega))
      · refine g_sipush (t := 34) dX6_insert_31 c_sipush_m2000 rfl ?_
        refine g_iload_n (i := 2) (t := 35) dX6_insert_34 rfl rfl rfl ?_
        refine g_isub (t := 36) dX6_insert_35 rfl ?_
        exact g_retI dX6_insert_36 rfl rfl (⟨r1.wk rfl, S, Or.inr ⟨it, hit, rfl, Or.inl ⟨f, f80, hf, rfl, rfl⟩⟩, hXJ⟩)
    · refine g_iload_n (i := 2) (t := 28) dX6_insert_27 rfl rfl rfl ?_
      refine g_if_lt (t1 := 37) (t2 := 31) dX6_insert_28 (by decide) rfl (fun h28 => ?_) (fun h28 => ?_)
      · refine g_aload_n (i := 0) (r := 0) (t := 38) dX6_insert_37 rfl rfl (Or.inl l9_0) rfl ?_
        refine gm_getR (o := 0) (ci := 6) (k := 1) (r := 4) (t := 41) l6_0 l9_0 s_0 gf_X6_19 rfl r_0_1 l9_4 dX6_insert_38 rfl ?_
        refine gm_getI (o := 4) (ci := 4) (k := 0) (t := 44) l6_4 l9_4 s_4 gf_X6_72 rfl dX6_insert_41 rfl ?_
        refine g_bipush (t := 46) dX6_insert_44 c_bipush_16 rfl ?_
        rw [j4]
        refine g_icmp_lt_n (t1 := 53) (t2 := 49) dX6_insert_46 (by decide) rfl (by omega) (by omega) (fun h46 => ?_) (fun h46 => ?_)
        · refine g_aload_n (i := 0) (r := 0) (t := 54) dX6_insert_53 rfl rfl (Or.inl l9_0) rfl ?_
          refine g_cVv (o := 0) (t := 57) mX6_beforeChange k_X6_79 imX6_beforeChange seX6_beforeChange l6_0 l9_0 s_0 rfl dX6_insert_54 (x6_before hXJ) rfl rfl (by decide) (by decide) (Nat.le_of_ble_eq_true rfl) rfl (Nat.le_refl _) (fun J q => ?_)
          refine g_aload_n (i := 0) (r := 0) (t := 58) dX6_insert_57 rfl rfl (Or.inl l9_0) rfl ?_
          refine gm_getR (o := 0) (ci := 6) (k := 1) (r := 4) (t := 61) l6_0 l9_0 s_0 gf_X6_19 rfl r_0_1 l9_4 dX6_insert_58 rfl ?_
          refine g_aload_n (i := 0) (r := 0) (t := 62) dX6_insert_61 rfl rfl (Or.inl l9_0) rfl ?_
          refine gm_getR (o := 0) (ci := 6) (k := 0) (r := 1) (t := 65) l6_0 l9_0 s_0 gf_X6_10 rfl r_0_0 l9_1 dX6_insert_62 rfl ?_
          refine gm_getR (o := 1) (ci := 5) (k := 1) (r := 3) (t := 68) l6_1 l9_1 s_1 gf_X6_82 rfl r_1_1 l9_3 dX6_insert_65 rfl ?_
          refine g_cVv (o := 4) (t := 71) mX4_append k_X6_86 imX4_append seX4_append l6_4 l9_4 s_4 rfl dX6_insert_68 (x4_append h46 (by rw [q.1.at 4 rfl]; exact j4)) rfl rfl (by decide) (by decide) (Nat.le_of_ble_eq_true rfl) rfl (Nat.le_refl _) (fun J2 q2 => ?_)
          refine g_aload_n (i := 0) (r := 0) (t := 72) dX6_insert_71 rfl rfl (Or.inl l9_0) rfl ?_
          refine gm_getR (o := 0) (ci := 6) (k := 1) (r := 4) (t := 75) l6_0 l9_0 s_0 gf_X6_19 rfl r_0_1 l9_4 dX6_insert_72 rfl ?_
          refine g_aload_n (i := 0) (r := 0) (t := 76) dX6_insert_75 rfl rfl (Or.inl l9_0) rfl ?_
          refine gm_getR (o := 0) (ci := 6) (k := 1) (r := 4) (t := 79) l6_0 l9_0 s_0 gf_X6_19 rfl r_0_1 l9_4 dX6_insert_76 rfl ?_
          refine gm_getI (o := 4) (ci := 4) (k := 0) (t := 82) l6_4 l9_4 s_4 gf_X6_72 rfl dX6_insert_79 rfl ?_
          rw [q2.2.1]
          refine g_iconst (t := 83) dX6_insert_82 c_iconst_1 rfl ?_
          refine g_isub (t := 84) dX6_insert_83 rfl ?_
          refine g_top (gi_p _) ?_
          refine g_iload_n (i := 1) (t := 85) dX6_insert_84 rfl rfl rfl ?_
          refine g_cVv (o := 4) (t := 88) mX4_carry k_X6_89 imX4_carry seX4_carry l6_4 l9_4 s_4 rfl dX6_insert_85 (x4_carry h46 (by omega)) rfl rfl (by decide) (by decide) (Nat.le_of_ble_eq_true rfl) rfl (Nat.le_refl _) (fun J3 q3 => ?_)
          refine g_aload_n (i := 0) (r := 0) (t := 89) dX6_insert_88 rfl rfl (Or.inl l9_0) rfl ?_
          refine gm_getR (o := 0) (ci := 6) (k := 1) (r := 4) (t := 92) l6_0 l9_0 s_0 gf_X6_19 rfl r_0_1 l9_4 dX6_insert_89 rfl ?_
          refine gm_getI (o := 4) (ci := 4) (k := 0) (t := 95) l6_4 l9_4 s_4 gf_X6_72 rfl dX6_insert_92 rfl ?_
          rw [q3.1.at 4 rfl, q2.2.1]
          exact g_retI dX6_insert_95 rfl rfl (by
    have hs1 : gSame [4, 6] J J3 := q2.1.trans (q3.1.wk rfl)
    have hs : gSame [0, 4, 6, 7, 8, 9, 10] J0 J3 := (q.1.wk rfl).trans (hs1.wk rfl)
    refine ⟨(r1.wk rfl).trans (hs.wk rfl), ((S.1.1 + 1, xP J3, J3 5), hS S, S.2.2), Or.inr ⟨it, hit, rfl, Or.inr (Or.inr ⟨hf, h46, rfl, rfl, ?_, rfl, fun i w hi hw => ?_⟩)⟩, rX_of (H := hS S) (T := S.2.2) (by omega) ?_ (q.2.1.keep hs1 rfl) (jT.keep hs rfl) ?_⟩
    · show J3 5 = _; rw [hs.at 5 rfl, jB]
    · show J3 6 (11 * i + w) = _
      have hm : mvI S.1.1 it i < 16 := mvI_lt h46 (by omega) hi
      rw [q3.2 i w hi hw, q2.2.2 _ w hm hw, q.1.at 6 rfl, q.1.at 3 rfl, ← jP]
      by_cases y : mvI S.1.1 it i = S.1.1
      · rw [if_pos y, if_pos y]
        by_cases z : w < 10
        · rw [if_pos z, if_pos z, hv w z]
        · rw [if_neg z, if_neg z]
      · rw [if_neg y, if_neg y]
    · rw [q3.1.at 4 rfl, q2.2.1]
    · rw [hs1.at 0 rfl]; exact q.2.2)
        · refine g_sipush (t := 52) dX6_insert_49 c_sipush_m1004 rfl ?_
          exact g_retI dX6_insert_52 rfl rfl (⟨r1.wk rfl, S, Or.inr ⟨it, hit, rfl, Or.inr (Or.inl ⟨hf, by omega, rfl, rfl⟩)⟩, hXJ⟩)
      · exact absurd (by decide) h28
  refine g_iload_n (i := 1) (t := 1) dX6_insert_0 rfl rfl rfl ?_
  refine g_if_lt (t1 := 15) (t2 := 4) dX6_insert_1 (by decide) rfl (fun h1 => ?_) (fun h1 => ?_)
  · refine g_sipush (t := 18) dX6_insert_15 c_sipush_m1002 rfl ?_
    exact g_retI dX6_insert_18 rfl rfl (⟨gSame.rf, S, Or.inl ⟨by first | exact bd_0 h1 | exact bd_gt (by omega) h12, rfl, rfl⟩, hX⟩)
  · refine g_iload_n (i := 1) (t := 5) dX6_insert_4 rfl rfl rfl ?_
    refine g_aload_n (i := 0) (r := 0) (t := 6) dX6_insert_5 rfl rfl (Or.inl l9_0) rfl ?_
    refine gm_getR (o := 0) (ci := 6) (k := 1) (r := 4) (t := 9) l6_0 l9_0 s_0 gf_X6_19 rfl r_0_1 l9_4 dX6_insert_6 rfl ?_
    refine gm_getI (o := 4) (ci := 4) (k := 0) (t := 12) l6_4 l9_4 s_4 gf_X6_72 rfl dX6_insert_9 rfl ?_
    rw [h4]
    refine g_icmp_le (t1 := 19) (t2 := 15) dX6_insert_12 (by decide) rfl (fun h12 => ?_) (fun h12 => ?_)
    · obtain ⟨it, hit, rfl⟩ := bd_no (by omega) (bd_le (k := S.1.1) (by omega) h1 h12)
      refine g_aload_n (i := 0) (r := 0) (t := 20) dX6_insert_19 rfl rfl (Or.inl l9_0) rfl ?_
      refine gm_getR (o := 0) (ci := 6) (k := 0) (r := 1) (t := 23) l6_0 l9_0 s_0 gf_X6_10 rfl r_0_0 l9_1 dX6_insert_20 rfl ?_
      refine g_cVi (o := 1) (t := 26) mX5_read k_X6_75 imX5_read seX5_read l6_1 l9_1 s_1 rfl dX6_insert_23 (x5_read hT) rfl rfl (by decide) (by decide) (Nat.le_of_ble_eq_true rfl) rfl (Nat.le_refl _) (fun v J0 q => ?_)
      refine g_istore_n (i := 2) (t := 27) (L1 := [_, _, _]) dX6_insert_26 rfl (by decide) rfl rfl rfl ?_
      exact T27 it v J0 hit q
    · refine g_sipush (t := 18) dX6_insert_15 c_sipush_m1002 rfl ?_
      exact g_retI dX6_insert_18 rfl rfl (⟨gSame.rf, S, Or.inl ⟨by first | exact bd_0 h1 | exact bd_gt (by omega) h12, rfl, rfl⟩, hX⟩)
theorem x6_undo (hX : rX I S) : gQI E fX6_undo [.ref 0] I h (fun v I' => gSame CL I I' ∧ ∃ S', oUndo S v S' ∧ rX I' S') := by
  refine gEv.of rfl (Nat.le_refl _) (Nat.le_of_ble_eq_true rfl) (L := [.ref 0]) rfl ?_
  have ⟨hn, h4, hP, hB, ⟨g1, g2, k, g3, g4, g5⟩, hT, hl⟩ := hX
  cases hH : S.2.1 with
  | nil =>
    rw [hH] at g2
    have g2 : I 7 0 = nI 0 := g2
    refine g_aload_n (i := 0) (r := 0) (t := 1) dX6_undo_0 rfl rfl (Or.inl l9_0) rfl ?_
    refine gm_getR (o := 0) (ci := 6) (k := 2) (r := 7) (t := 4) l6_0 l9_0 s_0 gf_X6_26 rfl r_0_2 l9_7 dX6_undo_1 rfl ?_
    refine gm_getI (o := 7) (ci := 0) (k := 0) (t := 7) l6_7 l9_7 s_7 gf_X6_129 rfl dX6_undo_4 rfl ?_
    rw [g2]
    refine g_if_ne (t1 := 14) (t2 := 10) dX6_undo_7 (by decide) rfl (fun h7 => ?_) (fun h7 => ?_)
    · exact absurd rfl h7
    · refine g_sipush (t := 13) dX6_undo_10 c_sipush_m1003 rfl ?_
      exact g_retI dX6_undo_13 rfl rfl (⟨gSame.rf, S, Or.inl ⟨hH, rfl, rfl⟩, hX⟩)
  | cons s H =>
    rw [hH] at g1 g2 g5
    have g1 : H.length + 1 ≤ 8 := g1
    have g2 : I 7 0 = nI (H.length + 1) := g2
    refine g_aload_n (i := 0) (r := 0) (t := 1) dX6_undo_0 rfl rfl (Or.inl l9_0) rfl ?_
    refine gm_getR (o := 0) (ci := 6) (k := 2) (r := 7) (t := 4) l6_0 l9_0 s_0 gf_X6_26 rfl r_0_2 l9_7 dX6_undo_1 rfl ?_
    refine gm_getI (o := 7) (ci := 0) (k := 0) (t := 7) l6_7 l9_7 s_7 gf_X6_129 rfl dX6_undo_4 rfl ?_
    rw [g2]
    refine g_if_ne (t1 := 14) (t2 := 10) dX6_undo_7 (by decide) rfl (fun h7 => ?_) (fun h7 => ?_)
    · refine g_aload_n (i := 0) (r := 0) (t := 15) dX6_undo_14 rfl rfl (Or.inl l9_0) rfl ?_
      refine gm_getR (o := 0) (ci := 6) (k := 2) (r := 7) (t := 18) l6_0 l9_0 s_0 gf_X6_26 rfl r_0_2 l9_7 dX6_undo_15 rfl ?_
      refine g_aload_n (i := 0) (r := 0) (t := 19) dX6_undo_18 rfl rfl (Or.inl l9_0) rfl ?_
      refine gm_getR (o := 0) (ci := 6) (k := 1) (r := 4) (t := 22) l6_0 l9_0 s_0 gf_X6_19 rfl r_0_1 l9_4 dX6_undo_19 rfl ?_
      refine g_cVv (o := 7) (t := 25) mX0_restore k_X6_132 imX0_restore seX0_restore l6_7 l9_7 s_7 rfl dX6_undo_22 (x0_restore g3 (by omega) g4 g2) rfl rfl (by decide) (by decide) (Nat.le_of_ble_eq_true rfl) rfl (Nat.le_refl _) (fun J q => ?_)
      refine g_aload_n (i := 0) (r := 0) (t := 26) dX6_undo_25 rfl rfl (Or.inl l9_0) rfl ?_
      refine g_iconst (t := 27) dX6_undo_26 c_iconst_0 rfl ?_
      refine gm_putI (o := 0) (ci := 6) (k := 7) (t := 30) l6_0 l9_0 s_0 gp_X6_60 rfl (by decide +kernel) (by decide +kernel) dX6_undo_27 rfl ?_
      refine g_aload_n (i := 0) (r := 0) (t := 31) dX6_undo_30 rfl rfl (Or.inl l9_0) rfl ?_
      refine gm_getR (o := 0) (ci := 6) (k := 2) (r := 7) (t := 34) l6_0 l9_0 s_0 gf_X6_26 rfl r_0_2 l9_7 dX6_undo_31 rfl ?_
      refine gm_getI (o := 7) (ci := 0) (k := 0) (t := 37) l6_7 l9_7 s_7 gf_X6_129 rfl dX6_undo_34 rfl ?_
      rw [gup_o _ _ _ _ (by decide), q.2.1]
      exact g_retI dX6_undo_37 rfl rfl (by
    obtain ⟨r1, r2, r3, r4, r5, r6⟩ := q
    have hs1 : gSame [0] J (gup J 0 7 (nI 0)) := gSame.rf.up rfl
    have hs : gSame [0, 4, 5, 6, 7] I (gup J 0 7 (nI 0)) := (r1.wk rfl).up rfl
    have hu := g5 0 s rfl
    rw [show (k + 7 - 0) % 8 = (k + 7) % 8 from rfl] at hu
    obtain ⟨u1, u2, u3, u4⟩ := hu
    refine ⟨hs.wk rfl, ((s.1, xP (gup J 0 7 (nI 0)), (gup J 0 7 (nI 0)) 5), H, S.2.2), Or.inr ⟨s, H, hH, rfl, rfl, rfl, fun i w hi hw => ?_, fun w hw => ?_⟩, rX_of (H := H) (T := S.2.2) u1 ?_ ⟨by omega, ?_, (k + 7) % 8, Nat.mod_lt _ (by decide), ?_, fun u t hu => ?_⟩ (hT.keep hs rfl) (gup_self _ _ _ _)⟩
    · show gup J 0 7 (nI 0) 6 (11 * i + w) = _
      rw [hs1.at 6 rfl, r6 _ (by omega), u4 i w hi hw]
    · show gup J 0 7 (nI 0) 5 w = _
      rw [hs1.at 5 rfl, r5 _ hw, u3 w hw]
    · rw [hs1.at 4 rfl, r4, u2]
    · rw [hs1.at 7 rfl, r2]
    · rw [hs1.at 7 rfl, r3]
    · have hu8 : u + 1 < 8 + 1 := by
        apply Classical.byContradiction
        intro z
        rw [List.getElem?_eq_none (by omega)] at hu
        exact absurd hu (by simp)
      have hul : u < H.length := by
        apply Classical.byContradiction
        intro z
        rw [List.getElem?_eq_none (by omega)] at hu
        exact absurd hu (by simp)
      have e : ((k + 7) % 8 + 7 - u) % 8 = (k + 7 - (u + 1)) % 8 := by omega
      rw [hs.at 8 rfl, hs.at 9 rfl, hs.at 10 rfl, e]
      exact g5 (u + 1) t hu)
    · exact absurd h7 (nI_ne0 (by omega) (by omega))
end X6C

