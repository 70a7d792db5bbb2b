/-! FlexRowsModel: reading the text -/
theorem and1 (x : Int32) : x &&& nI 1 = 0 ∨ x &&& nI 1 = nI 1 := by
  have h : (x &&& nI 1).toBitVec.toNat = x.toBitVec.toNat % 2 := by
    show (x.toBitVec &&& (BitVec.ofNat 32 1)).toNat = _
    rw [BitVec.toNat_and]
    exact Nat.and_one_is_mod _
  rcases Nat.mod_two_eq_zero_or_one x.toBitVec.toNat with q | q
  · refine Or.inl (Int32.toBitVec_inj.mp (BitVec.eq_of_toNat_eq ?_))
    rw [h, q]; rfl
  · refine Or.inr (Int32.toBitVec_inj.mp (BitVec.eq_of_toNat_eq ?_))
    rw [h, q]; rfl
theorem nI_nm {f : Nat} (h : f < 1000) : ¬ nI f = -1001 := fun q => by
  have := congrArg Int32.toInt q
  rw [nI_toInt (by omega), show (-1001 : Int32).toInt = -1001 by decide +kernel] at this
  omega
theorem tM.up5 {I : Nat → Nat → Int32} {T : tT} {v : Int32} (h : tM I T) : tM (gup I 41 5 v) T := h.keep (gup_k _ _ _ (by decide)) (gup_rowo _ _ _ (by decide))
section X7D
variable {E : gE} {I : Nat → Nat → Int32} {h : Int64}
theorem x7_next {T : tT} {j : Nat} (hT : tM I T) (h5 : I 41 5 = nI j) (hj : j < 1000) : gPI E fX7_next [.ref 41] I h (byt T j) := by
  refine gEv.of rfl (Nat.le_refl _) (Nat.le_of_ble_eq_true rfl) (L := [.ref 41]) rfl ?_
  obtain ⟨t1, t2, t3⟩ := hT
  refine g_aload_n (i := 0) (r := 41) (t := 1) dX7_next_0 rfl rfl (Or.inl l9_41) rfl ?_
  refine gm_getI (o := 41) (ci := 7) (k := 5) (t := 4) l6_41 l9_41 s_41 gf_X7_82 rfl dX7_next_1 rfl ?_
  rw [h5]
  refine g_aload_n (i := 0) (r := 41) (t := 5) dX7_next_4 rfl rfl (Or.inl l9_41) rfl ?_
  refine gm_getI (o := 41) (ci := 7) (k := 4) (t := 8) l6_41 l9_41 s_41 gf_X7_79 rfl dX7_next_5 rfl ?_
  rw [t1]
  refine g_icmp_ge_n (t1 := 23) (t2 := 11) dX7_next_8 (by decide) rfl (by omega) (by omega) (fun h8 => ?_) (fun h8 => ?_)
  · refine g_iconst (t := 24) dX7_next_23 c_iconst_m1 rfl ?_
    exact g_retP dX7_next_24 rfl rfl (by
    first
    | (rw [byt, if_pos h8, t3 j h8])
    | (rw [byt, if_neg (by omega)]))
  · refine g_aload_n (i := 0) (r := 41) (t := 12) dX7_next_11 rfl rfl (Or.inl l9_41) rfl ?_
    refine gm_getR (o := 41) (ci := 7) (k := 3) (r := 44) (t := 15) l6_41 l9_41 s_41 gf_X7_16 rfl r_41_3 l9_44 dX7_next_12 rfl ?_
    refine g_aload_n (i := 0) (r := 41) (t := 16) dX7_next_15 rfl rfl (Or.inl l9_41) rfl ?_
    refine gm_getI (o := 41) (ci := 7) (k := 5) (t := 19) l6_41 l9_41 s_41 gf_X7_82 rfl dX7_next_16 rfl ?_
    rw [h5]
    refine gm_iald_n (a := 44) (n := 80) (t := 20) l6_44 l9_44 s_44 dX7_next_19 (by omega) (by decide) rfl ?_
    refine g_goto (t := 24) dX7_next_20 (by decide) ?_
    exact g_retP dX7_next_24 rfl rfl (by
    first
    | (rw [byt, if_pos h8, t3 j h8])
    | (rw [byt, if_neg (by omega)]))
theorem x7_isDigit {T : tT} {j : Nat} (hT : tM I T) (h5 : I 41 5 = nI j) (hj : j < 1000) : gPI E fX7_isDigit [.ref 41] I h (bI (isD (byt T j))) := by
  refine gEv.of rfl (Nat.le_refl _) (Nat.le_of_ble_eq_true rfl) (L := [.ref 41]) rfl ?_
  have e : inI (byt T j) (nI 48) (nI 57) = isD (byt T j) := rfl
  refine g_aload_n (i := 0) (r := 41) (t := 1) dX7_isDigit_0 rfl rfl (Or.inl l9_41) rfl ?_
  refine g_cVp (o := 41) (t := 4) mX7_next k_X7_85 imX7_next seX7_next l6_41 l9_41 s_41 rfl dX7_isDigit_1 (x7_next hT h5 (by omega)) rfl rfl (by decide) (by decide) (Nat.le_of_ble_eq_true rfl) rfl ?_
  refine g_bipush (t := 6) dX7_isDigit_4 c_bipush_48 rfl ?_
  refine g_bipush (t := 8) dX7_isDigit_6 c_bipush_57 rfl ?_
  refine g_cSp (t := 11) mX7_in k_X7_75 smX7_in dX7_isDigit_8 (x7_in) rfl rfl (by decide) (by decide) (Nat.le_of_ble_eq_true rfl) rfl ?_
  exact g_retP dX7_isDigit_11 rfl (by rw [e]; cases isD (byt T j) <;> decide +kernel) (by rw [e])
theorem x7_skip_loop {T : tT} (hT : tM I T) : ∀ (d j : Nat), j + d = T.1 → Wp E fX7_skips 62 0 [.ref 41] [] (gM (gup I 41 5 (nI j)) h) (gRet fX7_skips 62 (fun r σ' => r = none ∧ σ' = gM (gup I 41 5 (nI (skp T j))) h)) := by
  have hn := hT.2.1
  intro d
  induction d with
  | zero =>
    intro j hj
    have hb : byt T j = -1 := byt_out (by omega)
    refine g_aload_n (i := 0) (r := 41) (t := 1) dX7_skips_0 rfl rfl (Or.inl l9_41) rfl ?_
    refine g_cVp (o := 41) (t := 4) mX7_next k_X7_85 imX7_next seX7_next l6_41 l9_41 s_41 rfl dX7_skips_1 (x7_next hT.up5 (gup_self _ _ _ _) (by omega)) rfl rfl (by decide) (by decide) (Nat.le_of_ble_eq_true rfl) rfl ?_
    refine g_bipush (t := 6) dX7_skips_4 c_bipush_32 rfl ?_
    rw [hb]
    refine g_icmp_ne (t1 := 22) (t2 := 9) dX7_skips_6 (by decide) rfl (fun h6 => ?_) (fun h6 => ?_)
    · exact g_retD dX7_skips_22 rfl (by rw [skp_no (by rw [hb]; decide)])
    · exact absurd h6 (by decide)
  | succ d ih =>
    intro j hj
    refine g_aload_n (i := 0) (r := 41) (t := 1) dX7_skips_0 rfl rfl (Or.inl l9_41) rfl ?_
    refine g_cVp (o := 41) (t := 4) mX7_next k_X7_85 imX7_next seX7_next l6_41 l9_41 s_41 rfl dX7_skips_1 (x7_next hT.up5 (gup_self _ _ _ _) (by omega)) rfl rfl (by decide) (by decide) (Nat.le_of_ble_eq_true rfl) rfl ?_
    refine g_bipush (t := 6) dX7_skips_4 c_bipush_32 rfl ?_
    refine g_icmp_ne (t1 := 22) (t2 := 9) dX7_skips_6 (by decide) rfl (fun h6 => ?_) (fun h6 => ?_)
    · exact g_retD dX7_skips_22 rfl (by rw [skp_no h6])
    · have hlt : j < T.1 := by omega
      refine g_aload_n (i := 0) (r := 41) (t := 10) dX7_skips_9 rfl rfl (Or.inl l9_41) rfl ?_
      refine g_dup (t := 11) dX7_skips_10 rfl rfl ?_
      refine gm_getI (o := 41) (ci := 7) (k := 5) (t := 14) l6_41 l9_41 s_41 gf_X7_82 rfl dX7_skips_11 rfl ?_
      rw [gup_self]
      refine g_iconst (t := 15) dX7_skips_14 c_iconst_1 rfl ?_
      refine g_iadd (t := 16) dX7_skips_15 rfl ?_
      refine g_top (gi_s _) ?_
      refine gm_putI (o := 41) (ci := 7) (k := 5) (t := 19) l6_41 l9_41 s_41 gp_X7_82 rfl rfl rfl dX7_skips_16 rfl ?_
      refine g_goto (t := 0) dX7_skips_19 (by decide) ?_
      have := ih (j + 1) (by omega)
      rw [skp_at h6, gup_gup]
      exact this
theorem x7_skips {T : tT} {j : Nat} (hT : tM I T) (h5 : I 41 5 = nI j) (hj : j ≤ T.1) : gDV E fX7_skips [.ref 41] I h (gup I 41 5 (nI (skp T j))) := by
  refine gEv.of rfl (Nat.le_refl _) (Nat.le_of_ble_eq_true rfl) (L := [.ref 41]) rfl ?_
  have := x7_skip_loop (E := E) (h := h) hT (T.1 - j) j (by omega)
  rw [gup_id h5] at this
  exact this
theorem x7_fails_n {x : Int32} (h6 : I 41 6 = -1001) : gDV E fX7_fails [.ref 41, .int x] I h (gup I 41 6 x) := by
  refine gEv.of rfl (Nat.le_refl _) (Nat.le_of_ble_eq_true rfl) (L := [.ref 41, .int x]) rfl ?_
  refine g_aload_n (i := 0) (r := 41) (t := 1) dX7_fails_0 rfl rfl (Or.inl l9_41) rfl ?_
  refine g_aload_n (i := 0) (r := 41) (t := 2) dX7_fails_1 rfl rfl (Or.inl l9_41) rfl ?_
  refine gm_getI (o := 41) (ci := 7) (k := 6) (t := 5) l6_41 l9_41 s_41 gf_X7_89 rfl dX7_fails_2 rfl ?_
  refine g_sipush (t := 8) dX7_fails_5 c_sipush_m1001 rfl ?_
  refine g_icmp_ne (t1 := 15) (t2 := 11) dX7_fails_8 (by decide) rfl (fun h8 => ?_) (fun h8 => ?_)
  · exact absurd h6 h8
  · refine g_iload_n (i := 1) (t := 12) dX7_fails_11 rfl rfl rfl ?_
    refine g_goto (t := 19) dX7_fails_12 (by decide) ?_
    refine gm_putI (o := 41) (ci := 7) (k := 6) (t := 22) l6_41 l9_41 s_41 gp_X7_89 rfl rfl rfl dX7_fails_19 rfl ?_
    exact g_retD dX7_fails_22 rfl (rfl)
theorem x7_fails_y {x : Int32} (h6 : ¬ I 41 6 = -1001) : gDV E fX7_fails [.ref 41, .int x] I h I := by
  refine gEv.of rfl (Nat.le_refl _) (Nat.le_of_ble_eq_true rfl) (L := [.ref 41, .int x]) rfl ?_
  refine g_aload_n (i := 0) (r := 41) (t := 1) dX7_fails_0 rfl rfl (Or.inl l9_41) rfl ?_
  refine g_aload_n (i := 0) (r := 41) (t := 2) dX7_fails_1 rfl rfl (Or.inl l9_41) rfl ?_
  refine gm_getI (o := 41) (ci := 7) (k := 6) (t := 5) l6_41 l9_41 s_41 gf_X7_89 rfl dX7_fails_2 rfl ?_
  refine g_sipush (t := 8) dX7_fails_5 c_sipush_m1001 rfl ?_
  refine g_icmp_ne (t1 := 15) (t2 := 11) dX7_fails_8 (by decide) rfl (fun h8 => ?_) (fun h8 => ?_)
  · refine g_aload_n (i := 0) (r := 41) (t := 16) dX7_fails_15 rfl rfl (Or.inl l9_41) rfl ?_
    refine gm_getI (o := 41) (ci := 7) (k := 6) (t := 19) l6_41 l9_41 s_41 gf_X7_89 rfl dX7_fails_16 rfl ?_
    refine gm_putI (o := 41) (ci := 7) (k := 6) (t := 22) l6_41 l9_41 s_41 gp_X7_89 rfl rfl rfl dX7_fails_19 rfl ?_
    exact g_retD dX7_fails_22 rfl (gup_id rfl)
  · exact absurd h8 h6
def qN (T : tT) (w j : Nat) (I I' : Nat → Nat → Int32) : Prop := gSame [41, 45] I I' ∧ (∀ k, k ≠ 5 → k ≠ 6 → I' 41 k = I 41 k) ∧ (∀ f, ftN T w j = some f → I' 41 6 = nI f) ∧ (ftN T w j = none → I' 41 6 = -1001 ∧ I' 41 5 = nI (nxN T w j) ∧ I' 45 = upd (I 45) w (vlN T w j))
theorem x7_rn_dig {T : tT} {w : Nat} {w2 w3 : Int32} {fd : Nat} (hT : tM I T) (hfd : fd ≤ T.1) {K : gK} : ∀ (d e : Nat) (v : Int32), e + d = fd + 3 → e ≤ T.1 →
    Wp E fX7_readsNumber 62 99 [.ref 41, .int (nI w), .int w2, .int w3, .int (nI fd), .int (dgs T d e v).2] [] (gM (gup I 41 5 (nI (dgs T d e v).1)) h) K →
    Wp E fX7_readsNumber 62 53 [.ref 41, .int (nI w), .int w2, .int w3, .int (nI fd), .int v] [] (gM (gup I 41 5 (nI e)) h) K := by
  have hn := hT.2.1
  intro d
  induction d with
  | zero =>
    intro e v he hl kk
    refine g_aload_n (i := 0) (r := 41) (t := 54) dX7_readsNumber_53 rfl rfl (Or.inl l9_41) rfl ?_
    refine gm_getI (o := 41) (ci := 7) (k := 5) (t := 57) l6_41 l9_41 s_41 gf_X7_82 rfl dX7_readsNumber_54 rfl ?_
    rw [gup_self]
    refine g_iload (i := 4) (t := 59) dX7_readsNumber_57 rfl rfl ?_
    refine g_iconst (t := 60) dX7_readsNumber_59 c_iconst_3 rfl ?_
    refine g_iadd (t := 61) dX7_readsNumber_60 rfl ?_
    refine g_top (nI_add _ _) ?_
    refine g_icmp_ge_n (t1 := 99) (t2 := 64) dX7_readsNumber_61 (by decide) rfl (by omega) (by omega) (fun h61 => ?_) (fun h61 => ?_)
    · exact kk
    · exfalso; omega
  | succ d ih =>
    intro e v he hl kk
    rw [dgs] at kk
    refine g_aload_n (i := 0) (r := 41) (t := 54) dX7_readsNumber_53 rfl rfl (Or.inl l9_41) rfl ?_
    refine gm_getI (o := 41) (ci := 7) (k := 5) (t := 57) l6_41 l9_41 s_41 gf_X7_82 rfl dX7_readsNumber_54 rfl ?_
    rw [gup_self]
    refine g_iload (i := 4) (t := 59) dX7_readsNumber_57 rfl rfl ?_
    refine g_iconst (t := 60) dX7_readsNumber_59 c_iconst_3 rfl ?_
    refine g_iadd (t := 61) dX7_readsNumber_60 rfl ?_
    refine g_top (nI_add _ _) ?_
    refine g_icmp_ge_n (t1 := 99) (t2 := 64) dX7_readsNumber_61 (by decide) rfl (by omega) (by omega) (fun h61 => ?_) (fun h61 => ?_)
    · exfalso; omega
    · refine g_aload_n (i := 0) (r := 41) (t := 65) dX7_readsNumber_64 rfl rfl (Or.inl l9_41) rfl ?_
      refine g_cVp (o := 41) (t := 68) mX7_isDigit k_X7_92 imX7_isDigit seX7_isDigit l6_41 l9_41 s_41 rfl dX7_readsNumber_65 (x7_isDigit hT.up5 (gup_self _ _ _ _) (by omega)) rfl rfl (by decide) (by decide) (Nat.le_of_ble_eq_true rfl) rfl ?_
      refine g_if_eq (t1 := 99) (t2 := 71) dX7_readsNumber_68 (by decide) rfl (fun h68 => ?_) (fun h68 => ?_)
      · rw [if_neg (by rw [bI_0 h68]; decide)] at kk
        exact kk
      · have hd := bI_n0 h68
        have hlt := isD_lt hd
        rw [if_pos hd] at kk
        refine g_bipush (t := 73) dX7_readsNumber_71 c_bipush_10 rfl ?_
        refine g_iload (i := 5) (t := 75) dX7_readsNumber_73 rfl rfl ?_
        refine g_imul (t := 76) dX7_readsNumber_75 rfl ?_
        refine g_aload_n (i := 0) (r := 41) (t := 77) dX7_readsNumber_76 rfl rfl (Or.inl l9_41) rfl ?_
        refine g_cVp (o := 41) (t := 80) mX7_next k_X7_85 imX7_next seX7_next l6_41 l9_41 s_41 rfl dX7_readsNumber_77 (x7_next hT.up5 (gup_self _ _ _ _) (by omega)) rfl rfl (by decide) (by decide) (Nat.le_of_ble_eq_true rfl) rfl ?_
        refine g_iadd (t := 81) dX7_readsNumber_80 rfl ?_
        refine g_bipush (t := 83) dX7_readsNumber_81 c_bipush_48 rfl ?_
        refine g_isub (t := 84) dX7_readsNumber_83 rfl ?_
        rw [Int32.mul_comm]
        refine g_istore (i := 5) (t := 86) (L1 := [_, _, _, _, _, _]) dX7_readsNumber_84 (by decide) rfl rfl rfl ?_
        refine g_aload_n (i := 0) (r := 41) (t := 87) dX7_readsNumber_86 rfl rfl (Or.inl l9_41) rfl ?_
        refine g_dup (t := 88) dX7_readsNumber_87 rfl rfl ?_
        refine gm_getI (o := 41) (ci := 7) (k := 5) (t := 91) l6_41 l9_41 s_41 gf_X7_82 rfl dX7_readsNumber_88 rfl ?_
        rw [gup_self]
        refine g_iconst (t := 92) dX7_readsNumber_91 c_iconst_1 rfl ?_
        refine g_iadd (t := 93) dX7_readsNumber_92 rfl ?_
        refine g_top (gi_s _) ?_
        refine gm_putI (o := 41) (ci := 7) (k := 5) (t := 96) l6_41 l9_41 s_41 gp_X7_82 rfl rfl rfl dX7_readsNumber_93 rfl ?_
        refine g_goto (t := 53) dX7_readsNumber_96 (by decide) ?_
        rw [gup_gup]
        exact ih (e + 1) _ (by omega) (by omega) kk
theorem x7_readsNumber {T : tT} {w j : Nat} (hT : tM I T) (h5 : I 41 5 = nI j) (hj : j ≤ T.1) (hw : w < 10) (h6 : I 41 6 = -1001) : gQV E fX7_readsNumber [.ref 41, .int (nI w)] I h (qN T w j I) := by
  refine gEv.of rfl (Nat.le_refl _) (Nat.le_of_ble_eq_true rfl) (L := [.ref 41, .int (nI w), .null, .null, .null, .null]) rfl ?_
  have hn := hT.2.1
  have b1 := fdN_le (w := w) hj
  have b2 := dgN_le (w := w) hj
  have T166 : ∀ (J : Nat → Nat → Int32), gSame [41] I J → (∀ k, k ≠ 5 → k ≠ 6 → J 41 k = I 41 k) → J 41 5 = nI (dgN T w j).1 → (∀ f, ftN T w j = some f → J 41 6 = nI f) → (ftN T w j = none → J 41 6 = -1001) → Wp E fX7_readsNumber 62 166 [.ref 41, .int (nI w), .int (nI j), .int (bI (ngN T w j)), .int (nI (fdN T w j)), .int (vlN T w j)] [] (gM J h) (gRet fX7_readsNumber 62 (fun r σ' => ∃ I', r = none ∧ σ' = gM I' h ∧ qN T w j I I')) := by
    intro J hs hk hJ5 hf hnf
    have hTJ : tM (gup J 45 w (vlN T w j)) T := hT.keep (by rw [gup_o _ _ _ _ (by decide)]; exact hk 4 (by decide) (by decide)) (by rw [gup_rowo _ _ _ (by decide)]; exact hs.at 44 rfl)
    refine g_aload_n (i := 0) (r := 41) (t := 167) dX7_readsNumber_166 rfl rfl (Or.inl l9_41) rfl ?_
    refine gm_getR (o := 41) (ci := 7) (k := 7) (r := 45) (t := 170) l6_41 l9_41 s_41 gf_X7_19 rfl r_41_7 l9_45 dX7_readsNumber_167 rfl ?_
    refine g_iload_n (i := 1) (t := 171) dX7_readsNumber_170 rfl rfl rfl ?_
    refine g_iload (i := 5) (t := 173) dX7_readsNumber_171 rfl rfl ?_
    refine gm_iast_n (a := 45) (n := 11) (t := 174) l6_45 l9_45 s_45 dX7_readsNumber_173 (by omega) (by decide) rfl ?_
    refine g_aload_n (i := 0) (r := 41) (t := 175) dX7_readsNumber_174 rfl rfl (Or.inl l9_41) rfl ?_
    refine g_cVd (o := 41) (t := 178) mX7_skips k_X7_107 imX7_skips seX7_skips l6_41 l9_41 s_41 rfl dX7_readsNumber_175 (x7_skips hTJ (by rw [gup_o _ _ _ _ (by decide)]; exact hJ5) b2.2) rfl rfl (by decide) (by decide) (Nat.le_of_ble_eq_true rfl) rfl ?_
    exact g_retV dX7_readsNumber_178 rfl (by
    refine ⟨((hs.wk rfl).up rfl).up rfl, fun k a b => ?_, fun f q => ?_, fun q => ⟨?_, ?_, ?_⟩⟩
    · rw [gup_k _ _ _ a, gup_o _ _ _ _ (by decide)]; exact hk k a b
    · rw [gup_k _ _ _ (by decide), gup_o _ _ _ _ (by decide)]; exact hf f q
    · rw [gup_k _ _ _ (by decide), gup_o _ _ _ _ (by decide)]; exact hnf q
    · rw [gup_self]; rfl
    · rw [gup_rowo _ _ _ (by decide), gup_row, hs.at 45 rfl])
  have T151 : ∀ (J : Nat → Nat → Int32), gSame [41] I J → (∀ k, k ≠ 5 → k ≠ 6 → J 41 k = I 41 k) → J 41 5 = nI (dgN T w j).1 → ((∃ f, f < 1000 ∧ ftN T w j = some f ∧ J 41 6 = nI f) ∨ (J 41 6 = -1001 ∧ ftN T w j = if isD (byt T (dgN T w j).1) then some (dgN T w j).1 else none)) → Wp E fX7_readsNumber 62 151 [.ref 41, .int (nI w), .int (nI j), .int (bI (ngN T w j)), .int (nI (fdN T w j)), .int (vlN T w j)] [] (gM J h) (gRet fX7_readsNumber 62 (fun r σ' => ∃ I', r = none ∧ σ' = gM I' h ∧ qN T w j I I')) := by
    intro J hs hk hJ5 hf
    have hTJ : tM J T := hT.keep (hk 4 (by decide) (by decide)) (hs.at 44 rfl)
    rcases hf with ⟨f, f1, f2, f3⟩ | ⟨f1, f2⟩
    · have T := T166 J hs hk hJ5 (fun g q => by rw [f2] at q; cases q; exact f3) (fun q => by rw [f2] at q; cases q)
      refine g_aload_n (i := 0) (r := 41) (t := 152) dX7_readsNumber_151 rfl rfl (Or.inl l9_41) rfl ?_
      refine g_cVp (o := 41) (t := 155) mX7_isDigit k_X7_92 imX7_isDigit seX7_isDigit l6_41 l9_41 s_41 rfl dX7_readsNumber_152 (x7_isDigit hTJ hJ5 (by omega)) rfl rfl (by decide) (by decide) (Nat.le_of_ble_eq_true rfl) rfl ?_
      refine g_if_eq (t1 := 166) (t2 := 158) dX7_readsNumber_155 (by decide) rfl (fun h155 => ?_) (fun h155 => ?_)
      · exact T
      · refine g_aload_n (i := 0) (r := 41) (t := 159) dX7_readsNumber_158 rfl rfl (Or.inl l9_41) rfl ?_
        refine g_aload_n (i := 0) (r := 41) (t := 160) dX7_readsNumber_159 rfl rfl (Or.inl l9_41) rfl ?_
        refine gm_getI (o := 41) (ci := 7) (k := 5) (t := 163) l6_41 l9_41 s_41 gf_X7_82 rfl dX7_readsNumber_160 rfl ?_
        refine g_cVd (o := 41) (t := 166) mX7_fails k_X7_96 imX7_fails seX7_fails l6_41 l9_41 s_41 rfl dX7_readsNumber_163 (x7_fails_y (by rw [f3]; exact nI_nm f1)) rfl rfl (by decide) (by decide) (Nat.le_of_ble_eq_true rfl) rfl ?_
        exact T
    · by_cases hd : isD (byt T (dgN T w j).1) = true
      · rw [if_pos hd] at f2
        refine g_aload_n (i := 0) (r := 41) (t := 152) dX7_readsNumber_151 rfl rfl (Or.inl l9_41) rfl ?_
        refine g_cVp (o := 41) (t := 155) mX7_isDigit k_X7_92 imX7_isDigit seX7_isDigit l6_41 l9_41 s_41 rfl dX7_readsNumber_152 (x7_isDigit hTJ hJ5 (by omega)) rfl rfl (by decide) (by decide) (Nat.le_of_ble_eq_true rfl) rfl ?_
        refine g_if_eq (t1 := 166) (t2 := 158) dX7_readsNumber_155 (by decide) rfl (fun h155 => ?_) (fun h155 => ?_)
        · exact absurd (bI_0 h155) (by rw [hd]; decide)
        · refine g_aload_n (i := 0) (r := 41) (t := 159) dX7_readsNumber_158 rfl rfl (Or.inl l9_41) rfl ?_
          refine g_aload_n (i := 0) (r := 41) (t := 160) dX7_readsNumber_159 rfl rfl (Or.inl l9_41) rfl ?_
          refine gm_getI (o := 41) (ci := 7) (k := 5) (t := 163) l6_41 l9_41 s_41 gf_X7_82 rfl dX7_readsNumber_160 rfl ?_
          rw [hJ5]
          refine g_cVd (o := 41) (t := 166) mX7_fails k_X7_96 imX7_fails seX7_fails l6_41 l9_41 s_41 rfl dX7_readsNumber_163 (x7_fails_n f1) rfl rfl (by decide) (by decide) (Nat.le_of_ble_eq_true rfl) rfl ?_
          refine T166 _ (hs.up rfl) (fun k a b => by rw [gup_k _ _ _ b]; exact hk k a b) (by rw [gup_k _ _ _ (by decide)]; exact hJ5) (fun g q => ?_) (fun q => ?_)
          · rw [f2] at q; cases q; exact gup_self _ _ _ _
          · rw [f2] at q; cases q
      · rw [if_neg hd] at f2
        refine g_aload_n (i := 0) (r := 41) (t := 152) dX7_readsNumber_151 rfl rfl (Or.inl l9_41) rfl ?_
        refine g_cVp (o := 41) (t := 155) mX7_isDigit k_X7_92 imX7_isDigit seX7_isDigit l6_41 l9_41 s_41 rfl dX7_readsNumber_152 (x7_isDigit hTJ hJ5 (by omega)) rfl rfl (by decide) (by decide) (Nat.le_of_ble_eq_true rfl) rfl ?_
        refine g_if_eq (t1 := 166) (t2 := 158) dX7_readsNumber_155 (by decide) rfl (fun h155 => ?_) (fun h155 => ?_)
        · exact T166 J hs hk hJ5 (fun g q => by rw [f2] at q; cases q) (fun q => f1)
        · exact absurd (bI_n0 h155) hd
  have T130 : ∀ (J : Nat → Nat → Int32), gSame [41] I J → (∀ k, k ≠ 5 → k ≠ 6 → J 41 k = I 41 k) → J 41 5 = nI (dgN T w j).1 → (((dgN T w j).1 = fdN T w j ∧ J 41 6 = nI (fdN T w j)) ∨ ((dgN T w j).1 ≠ fdN T w j ∧ J 41 6 = -1001)) → Wp E fX7_readsNumber 62 130 [.ref 41, .int (nI w), .int (nI j), .int (bI (ngN T w j)), .int (nI (fdN T w j)), .int (vlN T w j)] [] (gM J h) (gRet fX7_readsNumber 62 (fun r σ' => ∃ I', r = none ∧ σ' = gM I' h ∧ qN T w j I I')) := by
    intro J hs hk hJ5 hf
    rcases hf with ⟨f1, f2⟩ | ⟨f1, f2⟩
    · have e : ftN T w j = some (fdN T w j) := by rw [ftN, if_pos f1]
      refine g_iload (i := 5) (t := 132) dX7_readsNumber_130 rfl rfl ?_
      refine g_iload_n (i := 1) (t := 133) dX7_readsNumber_132 rfl rfl rfl ?_
      refine g_cSp (t := 136) mX7_leastOf k_X7_100 smX7_leastOf dX7_readsNumber_133 (x7_leastOf hw) rfl rfl (by decide) (by decide) (Nat.le_of_ble_eq_true rfl) rfl ?_
      refine g_iload_n (i := 1) (t := 137) dX7_readsNumber_136 rfl rfl rfl ?_
      refine g_cSp (t := 140) mX7_mostOf k_X7_104 smX7_mostOf dX7_readsNumber_137 (x7_mostOf hw) rfl rfl (by decide) (by decide) (Nat.le_of_ble_eq_true rfl) rfl ?_
      refine g_cSp (t := 143) mX7_in k_X7_75 smX7_in dX7_readsNumber_140 (x7_in) rfl rfl (by decide) (by decide) (Nat.le_of_ble_eq_true rfl) rfl ?_
      refine g_if_ne (t1 := 151) (t2 := 146) dX7_readsNumber_143 (by decide) rfl (fun h143 => ?_) (fun h143 => ?_)
      · exact T151 J hs hk hJ5 (Or.inl ⟨_, by omega, e, f2⟩)
      · refine g_aload_n (i := 0) (r := 41) (t := 147) dX7_readsNumber_146 rfl rfl (Or.inl l9_41) rfl ?_
        refine g_iload_n (i := 2) (t := 148) dX7_readsNumber_147 rfl rfl rfl ?_
        refine g_cVd (o := 41) (t := 151) mX7_fails k_X7_96 imX7_fails seX7_fails l6_41 l9_41 s_41 rfl dX7_readsNumber_148 (x7_fails_y (by rw [f2]; exact nI_nm (by omega))) rfl rfl (by decide) (by decide) (Nat.le_of_ble_eq_true rfl) rfl ?_
        exact T151 J hs hk hJ5 (Or.inl ⟨_, by omega, e, f2⟩)
    · refine g_iload (i := 5) (t := 132) dX7_readsNumber_130 rfl rfl ?_
      refine g_iload_n (i := 1) (t := 133) dX7_readsNumber_132 rfl rfl rfl ?_
      refine g_cSp (t := 136) mX7_leastOf k_X7_100 smX7_leastOf dX7_readsNumber_133 (x7_leastOf hw) rfl rfl (by decide) (by decide) (Nat.le_of_ble_eq_true rfl) rfl ?_
      refine g_iload_n (i := 1) (t := 137) dX7_readsNumber_136 rfl rfl rfl ?_
      refine g_cSp (t := 140) mX7_mostOf k_X7_104 smX7_mostOf dX7_readsNumber_137 (x7_mostOf hw) rfl rfl (by decide) (by decide) (Nat.le_of_ble_eq_true rfl) rfl ?_
      refine g_cSp (t := 143) mX7_in k_X7_75 smX7_in dX7_readsNumber_140 (x7_in) rfl rfl (by decide) (by decide) (Nat.le_of_ble_eq_true rfl) rfl ?_
      refine g_if_ne (t1 := 151) (t2 := 146) dX7_readsNumber_143 (by decide) rfl (fun h143 => ?_) (fun h143 => ?_)
      · first
        | (have hz := of_decide_eq_true (bI_n0 h143)
           refine T151 J hs hk hJ5 (Or.inr ⟨f2, ?_⟩)
           rw [ftN, if_neg f1, if_neg (fun u => u.elim (fun q => absurd q (Int32.not_lt.mpr hz.1)) (fun q => absurd q (Int32.not_lt.mpr hz.2)))])
        | (have hz := of_decide_eq_false (bI_0 h143)
           refine T151 _ (hs.up rfl) (fun k a b => by rw [gup_k _ _ _ b]; exact hk k a b) (by rw [gup_k _ _ _ (by decide)]; exact hJ5) (Or.inl ⟨j, by omega, ?_, gup_self _ _ _ _⟩)
           rw [ftN, if_neg f1, if_pos]
           apply Classical.byContradiction
           intro u
           exact hz ⟨Int32.not_lt.mp (fun q => u (Or.inl q)), Int32.not_lt.mp (fun q => u (Or.inr q))⟩)
      · refine g_aload_n (i := 0) (r := 41) (t := 147) dX7_readsNumber_146 rfl rfl (Or.inl l9_41) rfl ?_
        refine g_iload_n (i := 2) (t := 148) dX7_readsNumber_147 rfl rfl rfl ?_
        refine g_cVd (o := 41) (t := 151) mX7_fails k_X7_96 imX7_fails seX7_fails l6_41 l9_41 s_41 rfl dX7_readsNumber_148 (x7_fails_n f2) rfl rfl (by decide) (by decide) (Nat.le_of_ble_eq_true rfl) rfl ?_
        first
        | (have hz := of_decide_eq_true (bI_n0 h143)
           refine T151 J hs hk hJ5 (Or.inr ⟨f2, ?_⟩)
           rw [ftN, if_neg f1, if_neg (fun u => u.elim (fun q => absurd q (Int32.not_lt.mpr hz.1)) (fun q => absurd q (Int32.not_lt.mpr hz.2)))])
        | (have hz := of_decide_eq_false (bI_0 h143)
           refine T151 _ (hs.up rfl) (fun k a b => by rw [gup_k _ _ _ b]; exact hk k a b) (by rw [gup_k _ _ _ (by decide)]; exact hJ5) (Or.inl ⟨j, by omega, ?_, gup_self _ _ _ _⟩)
           rw [ftN, if_neg f1, if_pos]
           apply Classical.byContradiction
           intro u
           exact hz ⟨Int32.not_lt.mp (fun q => u (Or.inl q)), Int32.not_lt.mp (fun q => u (Or.inr q))⟩)
  have T111 : Wp E fX7_readsNumber 62 111 [.ref 41, .int (nI w), .int (nI j), .int (bI (ngN T w j)), .int (nI (fdN T w j)), .int (dgN T w j).2] [.int (vlN T w j)] (gM (gup I 41 5 (nI (dgN T w j).1)) h) (gRet fX7_readsNumber 62 (fun r σ' => ∃ I', r = none ∧ σ' = gM I' h ∧ qN T w j I I')) := by
    have hs : gSame [41] I (gup I 41 5 (nI (dgN T w j).1)) := gSame.rf.up rfl
    have hk : ∀ k, k ≠ 5 → k ≠ 6 → gup I 41 5 (nI (dgN T w j).1) 41 k = I 41 k := fun k a b => gup_k _ _ _ a
    have h6' : gup I 41 5 (nI (dgN T w j).1) 41 6 = -1001 := by rw [gup_k _ _ _ (by decide)]; exact h6
    refine g_istore (i := 5) (t := 113) (L1 := [_, _, _, _, _, _]) dX7_readsNumber_111 (by decide) rfl rfl rfl ?_
    refine g_aload_n (i := 0) (r := 41) (t := 114) dX7_readsNumber_113 rfl rfl (Or.inl l9_41) rfl ?_
    refine gm_getI (o := 41) (ci := 7) (k := 5) (t := 117) l6_41 l9_41 s_41 gf_X7_82 rfl dX7_readsNumber_114 rfl ?_
    rw [gup_self]
    refine g_iload (i := 4) (t := 119) dX7_readsNumber_117 rfl rfl ?_
    refine g_icmp_ne_n (t1 := 130) (t2 := 122) dX7_readsNumber_119 (by decide) rfl (by omega) (by omega) (fun h119 => ?_) (fun h119 => ?_)
    · first
      | exact T130 _ hs hk (gup_self _ _ _ _) (Or.inr ⟨h119, h6'⟩)
      | exact T130 _ (hs.up rfl) (fun k a b => by rw [gup_k _ _ _ b]; exact hk k a b) (by rw [gup_k _ _ _ (by decide)]; exact gup_self _ _ _ _) (Or.inl ⟨h119, by rw [gup_self, h119]⟩)
    · refine g_aload_n (i := 0) (r := 41) (t := 123) dX7_readsNumber_122 rfl rfl (Or.inl l9_41) rfl ?_
      refine g_aload_n (i := 0) (r := 41) (t := 124) dX7_readsNumber_123 rfl rfl (Or.inl l9_41) rfl ?_
      refine gm_getI (o := 41) (ci := 7) (k := 5) (t := 127) l6_41 l9_41 s_41 gf_X7_82 rfl dX7_readsNumber_124 rfl ?_
      rw [gup_self]
      refine g_cVd (o := 41) (t := 130) mX7_fails k_X7_96 imX7_fails seX7_fails l6_41 l9_41 s_41 rfl dX7_readsNumber_127 (x7_fails_n h6') rfl rfl (by decide) (by decide) (Nat.le_of_ble_eq_true rfl) rfl ?_
      first
      | exact T130 _ hs hk (gup_self _ _ _ _) (Or.inr ⟨h119, h6'⟩)
      | exact T130 _ (hs.up rfl) (fun k a b => by rw [gup_k _ _ _ b]; exact hk k a b) (by rw [gup_k _ _ _ (by decide)]; exact gup_self _ _ _ _) (Or.inl ⟨h119, by rw [gup_self, h119]⟩)
  have T99 : Wp E fX7_readsNumber 62 99 [.ref 41, .int (nI w), .int (nI j), .int (bI (ngN T w j)), .int (nI (fdN T w j)), .int (dgN T w j).2] [] (gM (gup I 41 5 (nI (dgN T w j).1)) h) (gRet fX7_readsNumber 62 (fun r σ' => ∃ I', r = none ∧ σ' = gM I' h ∧ qN T w j I I')) := by
    refine g_iload_n (i := 3) (t := 100) dX7_readsNumber_99 rfl rfl rfl ?_
    refine g_if_eq (t1 := 109) (t2 := 103) dX7_readsNumber_100 (by decide) rfl (fun h100 => ?_) (fun h100 => ?_)
    · refine g_iload (i := 5) (t := 111) dX7_readsNumber_109 rfl rfl ?_
      first
      | (refine g_top (y := vlN T w j) ?_ T111; rw [vlN, if_neg (by rw [bI_0 h100]; decide)])
      | (refine g_top (y := vlN T w j) ?_ T111; rw [vlN, if_pos (bI_n0 h100)])
    · refine g_iload (i := 5) (t := 105) dX7_readsNumber_103 rfl rfl ?_
      refine g_ineg (t := 106) dX7_readsNumber_105 rfl ?_
      refine g_goto (t := 111) dX7_readsNumber_106 (by decide) ?_
      first
      | (refine g_top (y := vlN T w j) ?_ T111; rw [vlN, if_neg (by rw [bI_0 h100]; decide)])
      | (refine g_top (y := vlN T w j) ?_ T111; rw [vlN, if_pos (bI_n0 h100)])
  have T44 : Wp E fX7_readsNumber 62 44 [.ref 41, .int (nI w), .int (nI j), .int (bI (ngN T w j)), .null, .null] [] (gM (gup I 41 5 (nI (fdN T w j))) h) (gRet fX7_readsNumber 62 (fun r σ' => ∃ I', r = none ∧ σ' = gM I' h ∧ qN T w j I I')) := by
    refine g_aload_n (i := 0) (r := 41) (t := 45) dX7_readsNumber_44 rfl rfl (Or.inl l9_41) rfl ?_
    refine gm_getI (o := 41) (ci := 7) (k := 5) (t := 48) l6_41 l9_41 s_41 gf_X7_82 rfl dX7_readsNumber_45 rfl ?_
    rw [gup_self]
    refine g_istore (i := 4) (t := 50) (L1 := [_, _, _, _, _, _]) dX7_readsNumber_48 (by decide) rfl rfl rfl ?_
    refine g_iconst (t := 51) dX7_readsNumber_50 c_iconst_0 rfl ?_
    refine g_istore (i := 5) (t := 53) (L1 := [_, _, _, _, _, _]) dX7_readsNumber_51 (by decide) rfl rfl rfl ?_
    exact x7_rn_dig hT b1.2 3 (fdN T w j) _ rfl b1.2 T99
  have T25 : Wp E fX7_readsNumber 62 25 [.ref 41, .int (nI w), .int (nI j), .null, .null, .null] [.int (bI (ngN T w j))] (gM I h) (gRet fX7_readsNumber 62 (fun r σ' => ∃ I', r = none ∧ σ' = gM I' h ∧ qN T w j I I')) := by
    refine g_istore_n (i := 3) (t := 26) (L1 := [_, _, _, _, _, _]) dX7_readsNumber_25 rfl (by decide) rfl rfl rfl ?_
    refine g_aload_n (i := 0) (r := 41) (t := 27) dX7_readsNumber_26 rfl rfl (Or.inl l9_41) rfl ?_
    refine g_dup (t := 28) dX7_readsNumber_27 rfl rfl ?_
    refine gm_getI (o := 41) (ci := 7) (k := 5) (t := 31) l6_41 l9_41 s_41 gf_X7_82 rfl dX7_readsNumber_28 rfl ?_
    rw [h5]
    refine g_iload_n (i := 3) (t := 32) dX7_readsNumber_31 rfl rfl rfl ?_
    refine g_if_eq (t1 := 39) (t2 := 35) dX7_readsNumber_32 (by decide) rfl (fun h32 => ?_) (fun h32 => ?_)
    · refine g_iconst (t := 40) dX7_readsNumber_39 c_iconst_0 rfl ?_
      refine g_iadd (t := 41) dX7_readsNumber_40 rfl ?_
      refine g_top (y := nI (fdN T w j)) (by
          rw [nI_add]
          unfold fdN
          first
          | (rw [if_neg (by rw [bI_0 h32]; decide)]; rfl)
          | rw [if_pos (bI_n0 h32)]) ?_
      refine gm_putI (o := 41) (ci := 7) (k := 5) (t := 44) l6_41 l9_41 s_41 gp_X7_82 rfl rfl rfl dX7_readsNumber_41 rfl ?_
      exact T44
    · refine g_iconst (t := 36) dX7_readsNumber_35 c_iconst_1 rfl ?_
      refine g_goto (t := 40) dX7_readsNumber_36 (by decide) ?_
      refine g_iadd (t := 41) dX7_readsNumber_40 rfl ?_
      refine g_top (y := nI (fdN T w j)) (by
          rw [nI_add]
          unfold fdN
          first
          | (rw [if_neg (by rw [bI_0 h32]; decide)]; rfl)
          | rw [if_pos (bI_n0 h32)]) ?_
      refine gm_putI (o := 41) (ci := 7) (k := 5) (t := 44) l6_41 l9_41 s_41 gp_X7_82 rfl rfl rfl dX7_readsNumber_41 rfl ?_
      exact T44
  refine g_aload_n (i := 0) (r := 41) (t := 1) dX7_readsNumber_0 rfl rfl (Or.inl l9_41) rfl ?_
  refine gm_getI (o := 41) (ci := 7) (k := 5) (t := 4) l6_41 l9_41 s_41 gf_X7_82 rfl dX7_readsNumber_1 rfl ?_
  rw [h5]
  refine g_istore_n (i := 2) (t := 5) (L1 := [_, _, _, _, _, _]) dX7_readsNumber_4 rfl (by decide) rfl rfl rfl ?_
  refine g_iload_n (i := 1) (t := 6) dX7_readsNumber_5 rfl rfl rfl ?_
  refine g_bipush (t := 8) dX7_readsNumber_6 c_bipush_6 rfl ?_
  refine g_icmp_ne_n (t1 := 24) (t2 := 11) dX7_readsNumber_8 (by decide) rfl (by omega) (by omega) (fun h8 => ?_) (fun h8 => ?_)
  · refine g_iconst (t := 25) dX7_readsNumber_24 c_iconst_0 rfl ?_
    first
    | (have e : ngN T w j = true := decide_eq_true ⟨h8, h17⟩
       rw [e] at T25
       exact T25)
    | (have e : ngN T w j = false := decide_eq_false (fun z => h8 z.1)
       rw [e] at T25
       exact T25)
    | (have e : ngN T w j = false := decide_eq_false (fun z => h17 z.2)
       rw [e] at T25
       exact T25)
  · refine g_aload_n (i := 0) (r := 41) (t := 12) dX7_readsNumber_11 rfl rfl (Or.inl l9_41) rfl ?_
    refine g_cVp (o := 41) (t := 15) mX7_next k_X7_85 imX7_next seX7_next l6_41 l9_41 s_41 rfl dX7_readsNumber_12 (x7_next hT h5 (by omega)) rfl rfl (by decide) (by decide) (Nat.le_of_ble_eq_true rfl) rfl ?_
    refine g_bipush (t := 17) dX7_readsNumber_15 c_bipush_45 rfl ?_
    refine g_icmp_ne (t1 := 24) (t2 := 20) dX7_readsNumber_17 (by decide) rfl (fun h17 => ?_) (fun h17 => ?_)
    · refine g_iconst (t := 25) dX7_readsNumber_24 c_iconst_0 rfl ?_
      first
      | (have e : ngN T w j = true := decide_eq_true ⟨h8, h17⟩
         rw [e] at T25
         exact T25)
      | (have e : ngN T w j = false := decide_eq_false (fun z => h8 z.1)
         rw [e] at T25
         exact T25)
      | (have e : ngN T w j = false := decide_eq_false (fun z => h17 z.2)
         rw [e] at T25
         exact T25)
    · refine g_iconst (t := 21) dX7_readsNumber_20 c_iconst_1 rfl ?_
      refine g_goto (t := 25) dX7_readsNumber_21 (by decide) ?_
      first
      | (have e : ngN T w j = true := decide_eq_true ⟨h8, h17⟩
         rw [e] at T25
         exact T25)
      | (have e : ngN T w j = false := decide_eq_false (fun z => h8 z.1)
         rw [e] at T25
         exact T25)
      | (have e : ngN T w j = false := decide_eq_false (fun z => h17 z.2)
         rw [e] at T25
         exact T25)
end X7D

