/-! FlexRowsModel: the words, the item -/
section X7E
variable {E : gE} {I : Nat → Nat → Int32} {h : Int64}
def wcO (c : Int64) (i : Nat) : Prop := ∀ k, k < (wds i).length → ((c >>> ((nI (8 * ((wds i).length - 1 - k))).toInt64 &&& 63)) &&& 127).toInt32 = (wds i).getD k 0
theorem x7_isWord {T : tT} {j e i L : Nat} {c : Int64} (hT : tM I T) (h5 : I 41 5 = nI e) (hj : j ≤ e) (he : e ≤ T.1) (hi : i < 9) (hL : L = (wds i).length) (hc : wcO c i) : gPI E fX7_isWord [.ref 41, .int (nI j), .long c, .int (nI L)] I h (bI (mtc T j e i)) := by
  subst hL
  refine gEv.of rfl (Nat.le_refl _) (Nat.le_of_ble_eq_true rfl) (L := [.ref 41, .int (nI j), .long c, .null, .int (nI (wds i).length), .null, .null]) rfl ?_
  have hn := hT.2.1
  have hl7 := wds_len i hi
  have T75 : ∀ (b : Bool) (v6 : Value), (b = mtc T j e i) → Wp E fX7_isWord 62 75 [.ref 41, .int (nI j), .long c, .null, .int (nI (wds i).length), .int (bI b), v6] [] (gM I h) (gRet fX7_isWord 62 (fun r σ' => r = some (.int (bI (mtc T j e i))) ∧ σ' = gM I h)) := by
    intro b v6 hb
    refine g_iload (i := 5) (t := 77) dX7_isWord_75 rfl rfl ?_
    exact g_retP dX7_isWord_77 rfl (by cases b <;> decide +kernel) (by rw [hb])
  have T21 : mtc T j e i = false → ∀ (k : Int32), Wp E fX7_isWord 62 21 [.ref 41, .int (nI j), .long c, .null, .int (nI (wds i).length), .int (nI 0), .int k] [] (gM I h) (gRet fX7_isWord 62 (fun r σ' => r = some (.int (bI (mtc T j e i))) ∧ σ' = gM I h)) := by
    intro hf k
    refine g_iload (i := 6) (t := 23) dX7_isWord_21 rfl rfl ?_
    refine g_iload (i := 4) (t := 25) dX7_isWord_23 rfl rfl ?_
    refine g_icmp_ge (t1 := 75) (t2 := 28) dX7_isWord_25 (by decide) rfl (fun h25 => ?_) (fun h25 => ?_)
    · exact T75 false _ hf.symm
    · refine g_iload (i := 5) (t := 30) dX7_isWord_28 rfl rfl ?_
      refine g_if_eq (t1 := 75) (t2 := 33) dX7_isWord_30 (by decide) rfl (fun h30 => ?_) (fun h30 => ?_)
      · exact T75 false _ hf.symm
      · exact absurd (by decide) h30
  have L21 : ∀ (d k : Nat), k + d = (wds i).length → (wds i).length = e - j → (∀ m, m < k → (wds i).getD m 0 = byt T (j + m)) → Wp E fX7_isWord 62 21 [.ref 41, .int (nI j), .long c, .null, .int (nI (wds i).length), .int (nI 1), .int (nI k)] [] (gM I h) (gRet fX7_isWord 62 (fun r σ' => r = some (.int (bI (mtc T j e i))) ∧ σ' = gM I h)) := by
    intro d
    induction d with
    | zero =>
      intro k hk hl hm
      have hk : k = (wds i).length := by omega
      subst hk
      refine g_iload (i := 6) (t := 23) dX7_isWord_21 rfl rfl ?_
      refine g_iload (i := 4) (t := 25) dX7_isWord_23 rfl rfl ?_
      refine g_icmp_ge_n (t1 := 75) (t2 := 28) dX7_isWord_25 (by decide) rfl (by omega) (by omega) (fun h25 => ?_) (fun h25 => ?_)
      · exact T75 true _ ((mtc_iff _ _ _ _).mpr ⟨hl, hm⟩).symm
      · exfalso; omega
    | succ d ih =>
      intro k hk hl hm
      have hb : I 44 (j + k) = byt T (j + k) := by rw [byt, if_pos (by omega)]; exact hT.2.2 _ (by omega)
      refine g_iload (i := 6) (t := 23) dX7_isWord_21 rfl rfl ?_
      refine g_iload (i := 4) (t := 25) dX7_isWord_23 rfl rfl ?_
      refine g_icmp_ge_n (t1 := 75) (t2 := 28) dX7_isWord_25 (by decide) rfl (by omega) (by omega) (fun h25 => ?_) (fun h25 => ?_)
      · exfalso; omega
      · refine g_iload (i := 5) (t := 30) dX7_isWord_28 rfl rfl ?_
        refine g_if_eq (t1 := 75) (t2 := 33) dX7_isWord_30 (by decide) rfl (fun h30 => ?_) (fun h30 => ?_)
        · exact absurd h30 (by decide)
        · refine g_aload_n (i := 0) (r := 41) (t := 34) dX7_isWord_33 rfl rfl (Or.inl l9_41) rfl ?_
          refine gm_getR (o := 41) (ci := 7) (k := 3) (r := 44) (t := 37) l6_41 l9_41 s_41 gf_X7_16 rfl r_41_3 l9_44 dX7_isWord_34 rfl ?_
          refine g_iload_n (i := 1) (t := 38) dX7_isWord_37 rfl rfl rfl ?_
          refine g_iload (i := 6) (t := 40) dX7_isWord_38 rfl rfl ?_
          refine g_iadd (t := 41) dX7_isWord_40 rfl ?_
          refine g_top (nI_add _ _) ?_
          refine gm_iald_n (a := 44) (n := 80) (t := 42) l6_44 l9_44 s_44 dX7_isWord_41 (by omega) (by decide) rfl ?_
          rw [hb]
          refine g_lload_n (i := 2) (t := 43) dX7_isWord_42 rfl rfl rfl ?_
          refine g_bipush (t := 45) dX7_isWord_43 c_bipush_8 rfl ?_
          refine g_iload (i := 4) (t := 47) dX7_isWord_45 rfl rfl ?_
          refine g_iconst (t := 48) dX7_isWord_47 c_iconst_1 rfl ?_
          refine g_isub (t := 49) dX7_isWord_48 rfl ?_
          refine g_top (y := nI ((wds i).length - 1)) (pk_sub (by omega)) ?_
          refine g_iload (i := 6) (t := 51) dX7_isWord_49 rfl rfl ?_
          refine g_isub (t := 52) dX7_isWord_51 rfl ?_
          refine g_top (y := nI ((wds i).length - 1 - k)) (pk_sub (by omega)) ?_
          refine g_imul (t := 53) dX7_isWord_52 rfl ?_
          refine g_top (y := nI (8 * ((wds i).length - 1 - k))) (pk_mul _ _) ?_
          refine g_lshr (t := 54) dX7_isWord_53 rfl ?_
          refine g_ldc2 (v := 127) (t := 57) kc_X7_110 dX7_isWord_54 rfl ?_
          refine g_land (t := 58) dX7_isWord_57 rfl ?_
          refine g_l2i (t := 59) dX7_isWord_58 rfl ?_
          rw [hc k (by omega)]
          refine g_icmp_ne (t1 := 66) (t2 := 62) dX7_isWord_59 (by decide) rfl (fun h59 => ?_) (fun h59 => ?_)
          · refine g_iconst (t := 67) dX7_isWord_66 c_iconst_0 rfl ?_
            refine g_istore (i := 5) (t := 69) (L1 := [_, _, _, _, _, _, _]) dX7_isWord_67 (by decide) rfl rfl rfl ?_
            refine g_iinc (i := 6) (t := 72) (L1 := [_, _, _, _, _, _, _]) dX7_isWord_69 rfl (gi_1 _) (by decide) rfl rfl rfl ?_
            refine g_goto (t := 21) dX7_isWord_72 (by decide) ?_
            first
            | exact ih (k + 1) (by omega) hl (fun m hm2 => by
                by_cases y : m = k
                · subst y; exact h59.symm
                · exact hm m (by omega))
            | (have hf : mtc T j e i = false := by
                 cases q : mtc T j e i with
                 | false => rfl
                 | true => exact absurd (((mtc_iff _ _ _ _).mp q).2 k (by omega)).symm h59
               exact T21 hf _)
          · refine g_iconst (t := 63) dX7_isWord_62 c_iconst_1 rfl ?_
            refine g_goto (t := 67) dX7_isWord_63 (by decide) ?_
            refine g_istore (i := 5) (t := 69) (L1 := [_, _, _, _, _, _, _]) dX7_isWord_67 (by decide) rfl rfl rfl ?_
            refine g_iinc (i := 6) (t := 72) (L1 := [_, _, _, _, _, _, _]) dX7_isWord_69 rfl (gi_1 _) (by decide) rfl rfl rfl ?_
            refine g_goto (t := 21) dX7_isWord_72 (by decide) ?_
            first
            | exact ih (k + 1) (by omega) hl (fun m hm2 => by
                by_cases y : m = k
                · subst y; exact h59.symm
                · exact hm m (by omega))
            | (have hf : mtc T j e i = false := by
                 cases q : mtc T j e i with
                 | false => rfl
                 | true => exact absurd (((mtc_iff _ _ _ _).mp q).2 k (by omega)).symm h59
               exact T21 hf _)
  refine g_aload_n (i := 0) (r := 41) (t := 1) dX7_isWord_0 rfl rfl (Or.inl l9_41) rfl ?_
  refine gm_getI (o := 41) (ci := 7) (k := 5) (t := 4) l6_41 l9_41 s_41 gf_X7_82 rfl dX7_isWord_1 rfl ?_
  refine g_iload_n (i := 1) (t := 5) dX7_isWord_4 rfl rfl rfl ?_
  rw [h5]
  refine g_isub (t := 6) dX7_isWord_5 rfl ?_
  refine g_top (y := nI (e - j)) (pk_sub hj) ?_
  refine g_iload (i := 4) (t := 8) dX7_isWord_6 rfl rfl ?_
  refine g_icmp_ne_n (t1 := 15) (t2 := 11) dX7_isWord_8 (by decide) rfl (by omega) (by omega) (fun h8 => ?_) (fun h8 => ?_)
  · refine g_iconst (t := 16) dX7_isWord_15 c_iconst_0 rfl ?_
    refine g_istore (i := 5) (t := 18) (L1 := [_, _, _, _, _, _, _]) dX7_isWord_16 (by decide) rfl rfl rfl ?_
    refine g_iconst (t := 19) dX7_isWord_18 c_iconst_0 rfl ?_
    refine g_istore (i := 6) (t := 21) (L1 := [_, _, _, _, _, _, _]) dX7_isWord_19 (by decide) rfl rfl rfl ?_
    first
    | exact L21 _ 0 (Nat.zero_add _) h8.symm (fun m hm => absurd hm (Nat.not_lt_zero _))
    | (have hf : mtc T j e i = false := by
         cases q : mtc T j e i with
         | false => rfl
         | true => exact absurd ((mtc_iff _ _ _ _).mp q).1.symm h8
       exact T21 hf _)
  · refine g_iconst (t := 12) dX7_isWord_11 c_iconst_1 rfl ?_
    refine g_goto (t := 16) dX7_isWord_12 (by decide) ?_
    refine g_istore (i := 5) (t := 18) (L1 := [_, _, _, _, _, _, _]) dX7_isWord_16 (by decide) rfl rfl rfl ?_
    refine g_iconst (t := 19) dX7_isWord_18 c_iconst_0 rfl ?_
    refine g_istore (i := 6) (t := 21) (L1 := [_, _, _, _, _, _, _]) dX7_isWord_19 (by decide) rfl rfl rfl ?_
    first
    | exact L21 _ 0 (Nat.zero_add _) h8.symm (fun m hm => absurd hm (Nat.not_lt_zero _))
    | (have hf : mtc T j e i = false := by
         cases q : mtc T j e i with
         | false => rfl
         | true => exact absurd ((mtc_iff _ _ _ _).mp q).1.symm h8
       exact T21 hf _)
theorem wc0 : wcO 1735552887 0 := by unfold wcO; decide +kernel
theorem wc1 : wcO 126892433305195 1 := by unfold wcO; decide +kernel
theorem wc2 : wcO 7170414 2 := by unfold wcO; decide +kernel
theorem wc3 : wcO 7168376 3 := by unfold wcO; decide +kernel
theorem wc4 : wcO 120265298635118 4 := by unfold wcO; decide +kernel
theorem wc5 : wcO 1918987883 5 := by unfold wcO; decide +kernel
theorem wc6 : wcO 114784769370228 6 := by unfold wcO; decide +kernel
theorem wc7 : wcO 431198598248 7 := by unfold wcO; decide +kernel
theorem wc8 : wcO 107079749563251 8 := by unfold wcO; decide +kernel
theorem x7_wordOf {T : tT} {j e : Nat} (hT : tM I T) (h5 : I 41 5 = nI e) (hj : j ≤ e) (he : e ≤ T.1) : gPI E fX7_wordOf [.ref 41, .int (nI j)] I h (nI (wdO T j e 9 0)) := by
  refine gEv.of rfl (Nat.le_refl _) (Nat.le_of_ble_eq_true rfl) (L := [.ref 41, .int (nI j)]) rfl ?_
  refine g_aload_n (i := 0) (r := 41) (t := 1) dX7_wordOf_0 rfl rfl (Or.inl l9_41) rfl ?_
  refine g_iload_n (i := 1) (t := 2) dX7_wordOf_1 rfl rfl rfl ?_
  refine g_ldc2 (v := 1735552887) (t := 5) kc_X7_112 dX7_wordOf_2 rfl ?_
  refine g_iconst (t := 6) dX7_wordOf_5 c_iconst_4 rfl ?_
  refine g_cVp (o := 41) (t := 9) mX7_isWord k_X7_114 imX7_isWord seX7_isWord l6_41 l9_41 s_41 rfl dX7_wordOf_6 (x7_isWord hT h5 hj he (i := 0) (by decide) (by decide) wc0) rfl rfl (by decide) (by decide) (Nat.le_of_ble_eq_true rfl) rfl ?_
  refine g_if_eq (t1 := 14) (t2 := 12) dX7_wordOf_9 (by decide) rfl (fun h9 => ?_) (fun h9 => ?_)
  · have n0 : mtc T j e 0 = false := bI_0 h9
    refine g_aload_n (i := 0) (r := 41) (t := 15) dX7_wordOf_14 rfl rfl (Or.inl l9_41) rfl ?_
    refine g_iload_n (i := 1) (t := 16) dX7_wordOf_15 rfl rfl rfl ?_
    refine g_ldc2 (v := 126892433305195) (t := 19) kc_X7_118 dX7_wordOf_16 rfl ?_
    refine g_bipush (t := 21) dX7_wordOf_19 c_bipush_6 rfl ?_
    refine g_cVp (o := 41) (t := 24) mX7_isWord k_X7_114 imX7_isWord seX7_isWord l6_41 l9_41 s_41 rfl dX7_wordOf_21 (x7_isWord hT h5 hj he (i := 1) (by decide) (by decide) wc1) rfl rfl (by decide) (by decide) (Nat.le_of_ble_eq_true rfl) rfl ?_
    refine g_if_eq (t1 := 29) (t2 := 27) dX7_wordOf_24 (by decide) rfl (fun h24 => ?_) (fun h24 => ?_)
    · have n1 : mtc T j e 1 = false := bI_0 h24
      refine g_aload_n (i := 0) (r := 41) (t := 30) dX7_wordOf_29 rfl rfl (Or.inl l9_41) rfl ?_
      refine g_iload_n (i := 1) (t := 31) dX7_wordOf_30 rfl rfl rfl ?_
      refine g_ldc2 (v := 7170414) (t := 34) kc_X7_120 dX7_wordOf_31 rfl ?_
      refine g_iconst (t := 35) dX7_wordOf_34 c_iconst_3 rfl ?_
      refine g_cVp (o := 41) (t := 38) mX7_isWord k_X7_114 imX7_isWord seX7_isWord l6_41 l9_41 s_41 rfl dX7_wordOf_35 (x7_isWord hT h5 hj he (i := 2) (by decide) (by decide) wc2) rfl rfl (by decide) (by decide) (Nat.le_of_ble_eq_true rfl) rfl ?_
      refine g_if_eq (t1 := 43) (t2 := 41) dX7_wordOf_38 (by decide) rfl (fun h38 => ?_) (fun h38 => ?_)
      · have n2 : mtc T j e 2 = false := bI_0 h38
        refine g_aload_n (i := 0) (r := 41) (t := 44) dX7_wordOf_43 rfl rfl (Or.inl l9_41) rfl ?_
        refine g_iload_n (i := 1) (t := 45) dX7_wordOf_44 rfl rfl rfl ?_
        refine g_ldc2 (v := 7168376) (t := 48) kc_X7_122 dX7_wordOf_45 rfl ?_
        refine g_iconst (t := 49) dX7_wordOf_48 c_iconst_3 rfl ?_
        refine g_cVp (o := 41) (t := 52) mX7_isWord k_X7_114 imX7_isWord seX7_isWord l6_41 l9_41 s_41 rfl dX7_wordOf_49 (x7_isWord hT h5 hj he (i := 3) (by decide) (by decide) wc3) rfl rfl (by decide) (by decide) (Nat.le_of_ble_eq_true rfl) rfl ?_
        refine g_if_eq (t1 := 57) (t2 := 55) dX7_wordOf_52 (by decide) rfl (fun h52 => ?_) (fun h52 => ?_)
        · have n3 : mtc T j e 3 = false := bI_0 h52
          refine g_aload_n (i := 0) (r := 41) (t := 58) dX7_wordOf_57 rfl rfl (Or.inl l9_41) rfl ?_
          refine g_iload_n (i := 1) (t := 59) dX7_wordOf_58 rfl rfl rfl ?_
          refine g_ldc2 (v := 120265298635118) (t := 62) kc_X7_124 dX7_wordOf_59 rfl ?_
          refine g_bipush (t := 64) dX7_wordOf_62 c_bipush_6 rfl ?_
          refine g_cVp (o := 41) (t := 67) mX7_isWord k_X7_114 imX7_isWord seX7_isWord l6_41 l9_41 s_41 rfl dX7_wordOf_64 (x7_isWord hT h5 hj he (i := 4) (by decide) (by decide) wc4) rfl rfl (by decide) (by decide) (Nat.le_of_ble_eq_true rfl) rfl ?_
          refine g_if_eq (t1 := 72) (t2 := 70) dX7_wordOf_67 (by decide) rfl (fun h67 => ?_) (fun h67 => ?_)
          · have n4 : mtc T j e 4 = false := bI_0 h67
            refine g_aload_n (i := 0) (r := 41) (t := 73) dX7_wordOf_72 rfl rfl (Or.inl l9_41) rfl ?_
            refine g_iload_n (i := 1) (t := 74) dX7_wordOf_73 rfl rfl rfl ?_
            refine g_ldc2 (v := 1918987883) (t := 77) kc_X7_126 dX7_wordOf_74 rfl ?_
            refine g_iconst (t := 78) dX7_wordOf_77 c_iconst_4 rfl ?_
            refine g_cVp (o := 41) (t := 81) mX7_isWord k_X7_114 imX7_isWord seX7_isWord l6_41 l9_41 s_41 rfl dX7_wordOf_78 (x7_isWord hT h5 hj he (i := 5) (by decide) (by decide) wc5) rfl rfl (by decide) (by decide) (Nat.le_of_ble_eq_true rfl) rfl ?_
            refine g_if_eq (t1 := 87) (t2 := 84) dX7_wordOf_81 (by decide) rfl (fun h81 => ?_) (fun h81 => ?_)
            · have n5 : mtc T j e 5 = false := bI_0 h81
              refine g_aload_n (i := 0) (r := 41) (t := 88) dX7_wordOf_87 rfl rfl (Or.inl l9_41) rfl ?_
              refine g_iload_n (i := 1) (t := 89) dX7_wordOf_88 rfl rfl rfl ?_
              refine g_ldc2 (v := 114784769370228) (t := 92) kc_X7_128 dX7_wordOf_89 rfl ?_
              refine g_bipush (t := 94) dX7_wordOf_92 c_bipush_6 rfl ?_
              refine g_cVp (o := 41) (t := 97) mX7_isWord k_X7_114 imX7_isWord seX7_isWord l6_41 l9_41 s_41 rfl dX7_wordOf_94 (x7_isWord hT h5 hj he (i := 6) (by decide) (by decide) wc6) rfl rfl (by decide) (by decide) (Nat.le_of_ble_eq_true rfl) rfl ?_
              refine g_if_eq (t1 := 103) (t2 := 100) dX7_wordOf_97 (by decide) rfl (fun h97 => ?_) (fun h97 => ?_)
              · have n6 : mtc T j e 6 = false := bI_0 h97
                refine g_aload_n (i := 0) (r := 41) (t := 104) dX7_wordOf_103 rfl rfl (Or.inl l9_41) rfl ?_
                refine g_iload_n (i := 1) (t := 105) dX7_wordOf_104 rfl rfl rfl ?_
                refine g_ldc2 (v := 431198598248) (t := 108) kc_X7_130 dX7_wordOf_105 rfl ?_
                refine g_iconst (t := 109) dX7_wordOf_108 c_iconst_5 rfl ?_
                refine g_cVp (o := 41) (t := 112) mX7_isWord k_X7_114 imX7_isWord seX7_isWord l6_41 l9_41 s_41 rfl dX7_wordOf_109 (x7_isWord hT h5 hj he (i := 7) (by decide) (by decide) wc7) rfl rfl (by decide) (by decide) (Nat.le_of_ble_eq_true rfl) rfl ?_
                refine g_if_eq (t1 := 118) (t2 := 115) dX7_wordOf_112 (by decide) rfl (fun h112 => ?_) (fun h112 => ?_)
                · have n7 : mtc T j e 7 = false := bI_0 h112
                  refine g_aload_n (i := 0) (r := 41) (t := 119) dX7_wordOf_118 rfl rfl (Or.inl l9_41) rfl ?_
                  refine g_iload_n (i := 1) (t := 120) dX7_wordOf_119 rfl rfl rfl ?_
                  refine g_ldc2 (v := 107079749563251) (t := 123) kc_X7_132 dX7_wordOf_120 rfl ?_
                  refine g_bipush (t := 125) dX7_wordOf_123 c_bipush_6 rfl ?_
                  refine g_cVp (o := 41) (t := 128) mX7_isWord k_X7_114 imX7_isWord seX7_isWord l6_41 l9_41 s_41 rfl dX7_wordOf_125 (x7_isWord hT h5 hj he (i := 8) (by decide) (by decide) wc8) rfl rfl (by decide) (by decide) (Nat.le_of_ble_eq_true rfl) rfl ?_
                  refine g_if_eq (t1 := 136) (t2 := 131) dX7_wordOf_128 (by decide) rfl (fun h128 => ?_) (fun h128 => ?_)
                  · refine g_iconst (t := 137) dX7_wordOf_136 c_iconst_0 rfl ?_
                    exact g_retP dX7_wordOf_137 rfl rfl (by
    first
    | (have n8 : mtc T j e 8 = false := bI_0 h128
       have : wdO T j e 9 0 = 0 := wdO_no 9 0 fun k _ hk => by
         match k, hk with
         | 0, _ => exact n0
         | 1, _ => exact n1
         | 2, _ => exact n2
         | 3, _ => exact n3
         | 4, _ => exact n4
         | 5, _ => exact n5
         | 6, _ => exact n6
         | 7, _ => exact n7
         | 8, _ => exact n8
         | k + 9, hk => exact absurd hk (by omega)
       rw [this])
    | rw [wdO_at (bI_n0 h128) (by decide) 9 0 rfl (Nat.zero_le _)])
                  · refine g_bipush (t := 133) dX7_wordOf_131 c_bipush_9 rfl ?_
                    refine g_goto (t := 137) dX7_wordOf_133 (by decide) ?_
                    exact g_retP dX7_wordOf_137 rfl rfl (by
    first
    | (have n8 : mtc T j e 8 = false := bI_0 h128
       have : wdO T j e 9 0 = 0 := wdO_no 9 0 fun k _ hk => by
         match k, hk with
         | 0, _ => exact n0
         | 1, _ => exact n1
         | 2, _ => exact n2
         | 3, _ => exact n3
         | 4, _ => exact n4
         | 5, _ => exact n5
         | 6, _ => exact n6
         | 7, _ => exact n7
         | 8, _ => exact n8
         | k + 9, hk => exact absurd hk (by omega)
       rw [this])
    | rw [wdO_at (bI_n0 h128) (by decide) 9 0 rfl (Nat.zero_le _)])
                · refine g_bipush (t := 117) dX7_wordOf_115 c_bipush_8 rfl ?_
                  exact g_retP dX7_wordOf_117 rfl rfl (by rw [wdO_at (bI_n0 h112) (by decide) 9 0 rfl (Nat.zero_le _)])
              · refine g_bipush (t := 102) dX7_wordOf_100 c_bipush_7 rfl ?_
                exact g_retP dX7_wordOf_102 rfl rfl (by rw [wdO_at (bI_n0 h97) (by decide) 9 0 rfl (Nat.zero_le _)])
            · refine g_bipush (t := 86) dX7_wordOf_84 c_bipush_6 rfl ?_
              exact g_retP dX7_wordOf_86 rfl rfl (by rw [wdO_at (bI_n0 h81) (by decide) 9 0 rfl (Nat.zero_le _)])
          · refine g_iconst (t := 71) dX7_wordOf_70 c_iconst_5 rfl ?_
            exact g_retP dX7_wordOf_71 rfl rfl (by rw [wdO_at (bI_n0 h67) (by decide) 9 0 rfl (Nat.zero_le _)])
        · refine g_iconst (t := 56) dX7_wordOf_55 c_iconst_4 rfl ?_
          exact g_retP dX7_wordOf_56 rfl rfl (by rw [wdO_at (bI_n0 h52) (by decide) 9 0 rfl (Nat.zero_le _)])
      · refine g_iconst (t := 42) dX7_wordOf_41 c_iconst_3 rfl ?_
        exact g_retP dX7_wordOf_42 rfl rfl (by rw [wdO_at (bI_n0 h38) (by decide) 9 0 rfl (Nat.zero_le _)])
    · refine g_iconst (t := 28) dX7_wordOf_27 c_iconst_2 rfl ?_
      exact g_retP dX7_wordOf_28 rfl rfl (by rw [wdO_at (bI_n0 h24) (by decide) 9 0 rfl (Nat.zero_le _)])
  · refine g_iconst (t := 13) dX7_wordOf_12 c_iconst_1 rfl ?_
    exact g_retP dX7_wordOf_13 rfl rfl (by rw [wdO_at (bI_n0 h9) (by decide) 9 0 rfl (Nat.zero_le _)])
end X7E

