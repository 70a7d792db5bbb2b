/-! FlexRows$Order -/
section X2
variable {E : gE} {I : Nat → Nat → Int32} {h : gX}
/-- the rows while an item is entered: above the place all stand one further -/
theorem x2_enter_loop {c k : Nat} {f : Nat → Nat} (hc : c < 16) (hf : ∀ i, i < c → f i < 16) {K : gK} {I0 : Nat → Nat → Int32} {r : Int32} : ∀ (p : Nat) (I : Nat → Nat → Int32), p ≤ c → gSame [12] I0 I → (∀ i, i < p → I 12 i = nI (f i)) → (∀ i, p < i → i ≤ c → I 12 i = nI (f (i - 1))) → posn (fun i => I0 6 (11 * i + 6)) r f c = posn (fun i => I0 6 (11 * i + 6)) r f p →
    (∀ p I, p ≤ c → gSame [12] I0 I → (∀ i, i < p → I 12 i = nI (f i)) → (∀ i, p < i → i ≤ c → I 12 i = nI (f (i - 1))) → posn (fun i => I0 6 (11 * i + 6)) r f c = p → Wp E fX2_enter (gn h) 71 [.ref 11, .int (nI k), .int (nI p), .int r] [] (gM I h) K) →
    Wp E fX2_enter (gn h) 26 [.ref 11, .int (nI k), .int (nI p), .int r] [] (gM I h) K := by
  intro p
  induction p with
  | zero =>
    intro I hp hs h1 h2 hq kk
    refine g_iload_n (i := 2) (t := 27) dX2_enter_26 rfl rfl rfl ?_
    refine g_if_le (t1 := 71) (t2 := 30) dX2_enter_27 (by decide) rfl (fun h27 => ?_) (fun h27 => ?_)
    · exact kk 0 I hp hs h1 h2 hq
    · exact absurd (by decide) h27
  | succ p ih =>
    intro I hp hs h1 h2 hq kk
    have e6 : I 6 = I0 6 := hs.at 6 rfl
    have hf1 := hf p (by omega)
    refine g_iload_n (i := 2) (t := 27) dX2_enter_26 rfl rfl rfl ?_
    refine g_if_le (t1 := 71) (t2 := 30) dX2_enter_27 (by decide) rfl (fun h27 => ?_) (fun h27 => ?_)
    · exact absurd h27 (nI_nle (by omega) (by omega))
    · refine g_aload_n (i := 0) (r := 11) (t := 31) dX2_enter_30 rfl rfl (Or.inl l9_11) rfl ?_
      refine gm_getR (o := 11) (ci := 2) (k := 7) (r := 4) (t := 34) l6_11 l9_11 s_11 gf_X2_30 rfl r_11_7 l9_4 dX2_enter_31 rfl ?_
      refine g_aload_n (i := 0) (r := 11) (t := 35) dX2_enter_34 rfl rfl (Or.inl l9_11) rfl ?_
      refine gm_getR (o := 11) (ci := 2) (k := 1) (r := 12) (t := 38) l6_11 l9_11 s_11 gf_X2_9 rfl r_11_1 l9_12 dX2_enter_35 rfl ?_
      refine g_iload_n (i := 2) (t := 39) dX2_enter_38 rfl rfl rfl ?_
      refine g_iconst (t := 40) dX2_enter_39 c_iconst_1 rfl ?_
      refine g_isub (t := 41) dX2_enter_40 rfl ?_
      refine g_top (gi_p p) ?_
      refine gm_iald_n (a := 12) (n := 16) (t := 42) l6_12 l9_12 s_12 dX2_enter_41 (by omega) (by decide) rfl ?_
      rw [h1 p (by omega)]
      refine g_bipush (t := 44) dX2_enter_42 c_bipush_6 rfl ?_
      refine g_cVp (o := 4) (t := 47) mX4_property k_X2_42 imX4_property seX4_property l6_4 l9_4 s_4 rfl dX2_enter_44 (x4_property (by omega) (by omega)) rfl rfl (by decide) (by decide) (Nat.le_of_ble_eq_true rfl) rfl (Nat.le_refl _) ?_
      refine g_iload_n (i := 3) (t := 48) dX2_enter_47 rfl rfl rfl ?_
      refine g_icmp_le (t1 := 71) (t2 := 51) dX2_enter_48 (by decide) rfl (fun h48 => ?_) (fun h48 => ?_)
      · refine kk (p + 1) I hp hs h1 h2 ?_
        rw [hq, posn, if_neg]
        rw [← e6]
        exact Int32.not_lt.mpr h48
      · refine g_aload_n (i := 0) (r := 11) (t := 52) dX2_enter_51 rfl rfl (Or.inl l9_11) rfl ?_
        refine gm_getR (o := 11) (ci := 2) (k := 1) (r := 12) (t := 55) l6_11 l9_11 s_11 gf_X2_9 rfl r_11_1 l9_12 dX2_enter_52 rfl ?_
        refine g_iload_n (i := 2) (t := 56) dX2_enter_55 rfl rfl rfl ?_
        refine g_aload_n (i := 0) (r := 11) (t := 57) dX2_enter_56 rfl rfl (Or.inl l9_11) rfl ?_
        refine gm_getR (o := 11) (ci := 2) (k := 1) (r := 12) (t := 60) l6_11 l9_11 s_11 gf_X2_9 rfl r_11_1 l9_12 dX2_enter_57 rfl ?_
        refine g_iload_n (i := 2) (t := 61) dX2_enter_60 rfl rfl rfl ?_
        refine g_iconst (t := 62) dX2_enter_61 c_iconst_1 rfl ?_
        refine g_isub (t := 63) dX2_enter_62 rfl ?_
        refine g_top (gi_p p) ?_
        refine gm_iald_n (a := 12) (n := 16) (t := 64) l6_12 l9_12 s_12 dX2_enter_63 (by omega) (by decide) rfl ?_
        rw [h1 p (by omega)]
        refine gm_iast_n (a := 12) (n := 16) (t := 65) l6_12 l9_12 s_12 dX2_enter_64 (by omega) (by decide) rfl ?_
        refine g_iinc (i := 2) (t := 68) (L1 := [_, _, _, _]) dX2_enter_65 rfl (gi_m1 _) (by decide) rfl rfl rfl ?_
        refine g_goto (t := 26) dX2_enter_68 (by decide) ?_
        refine ih _ (by omega) (hs.up rfl) (fun i hi => ?_) (fun i hi1 hi2 => ?_) ?_ kk
        · rw [gup_k _ _ _ (by omega)]
          exact h1 i (by omega)
        · rw [gup_at]
          by_cases z : i = p + 1
          · subst z
            rw [if_pos rfl]
            rfl
          · rw [if_neg z]
            exact h2 i (by omega) hi2
        · rw [hq, posn, if_pos]
          rw [← e6]
          exact Int32.not_le.mp h48
theorem x2_enter_end {c k p : Nat} {f : Nat → Nat} (hc : c < 16) (hk : k < 16) {I0 : Nat → Nat → Int32} (h0 : I0 11 0 = nI c) (hp : p ≤ c) (hs : gSame [12] I0 I) (h1 : ∀ i, i < p → I 12 i = nI (f i)) (h2 : ∀ i, p < i → i ≤ c → I 12 i = nI (f (i - 1))) (hq : posn (fun i => I0 6 (11 * i + 6)) (I0 6 (11 * k + 6)) f c = p) {r : Int32} : Wp E fX2_enter (gn h) 71 [.ref 11, .int (nI k), .int (nI p), .int r] [] (gM I h) (gRet fX2_enter (gn h) (fun r σ' => ∃ I' : Nat → Nat → Int32, r = none ∧ σ' = gM I' h ∧ gSame [11, 12] I0 I' ∧ I' 11 0 = nI (c + 1) ∧ ∀ i, i ≤ c → I' 12 i = nI (insA f (posn (fun i => I0 6 (11 * i + 6)) (I0 6 (11 * k + 6)) f c) k i))) := by
  refine g_aload_n (i := 0) (r := 11) (t := 72) dX2_enter_71 rfl rfl (Or.inl l9_11) rfl ?_
  refine gm_getR (o := 11) (ci := 2) (k := 1) (r := 12) (t := 75) l6_11 l9_11 s_11 gf_X2_9 rfl r_11_1 l9_12 dX2_enter_72 rfl ?_
  refine g_iload_n (i := 2) (t := 76) dX2_enter_75 rfl rfl rfl ?_
  refine g_iload_n (i := 1) (t := 77) dX2_enter_76 rfl rfl rfl ?_
  refine gm_iast_n (a := 12) (n := 16) (t := 78) l6_12 l9_12 s_12 dX2_enter_77 (by omega) (by decide) rfl ?_
  refine g_aload_n (i := 0) (r := 11) (t := 79) dX2_enter_78 rfl rfl (Or.inl l9_11) rfl ?_
  refine g_dup (t := 80) dX2_enter_79 rfl rfl ?_
  refine gm_getI (o := 11) (ci := 2) (k := 0) (t := 83) l6_11 l9_11 s_11 gf_X2_34 rfl dX2_enter_80 rfl ?_
  rw [gup_o _ _ _ _ (by decide), hs.at 11 rfl, h0]
  refine g_iconst (t := 84) dX2_enter_83 c_iconst_1 rfl ?_
  refine g_iadd (t := 85) dX2_enter_84 rfl ?_
  refine g_top (gi_s c) ?_
  refine gm_putI (o := 11) (ci := 2) (k := 0) (t := 88) l6_11 l9_11 s_11 gp_X2_34 rfl rfl rfl dX2_enter_85 rfl ?_
  exact g_retV dX2_enter_88 rfl (by
    refine ⟨((hs.wk rfl).up rfl).up rfl, gup_self _ _ _ _, fun i hi => ?_⟩
    rw [gup_o _ _ _ _ (by decide), gup_at, hq]
    unfold insA
    by_cases z : i = p
    · rw [if_pos z, if_neg (by omega), if_pos z]
    · rw [if_neg z]
      by_cases y : i < p
      · rw [if_pos y]; exact h1 i y
      · rw [if_neg y, if_neg z]; exact h2 i (by omega) hi)
theorem x2_enter {c k : Nat} {f : Nat → Nat} (hc : c < 16) (hk : k < 16) (h0 : I 11 0 = nI c) (hf : ∀ i, i < c → f i < 16) (h1 : ∀ i, i < c → I 12 i = nI (f i)) : gQV E fX2_enter [.ref 11, .int (nI k)] I h (fun I' => gSame [11, 12] I I' ∧ I' 11 0 = nI (c + 1) ∧ ∀ i, i ≤ c → I' 12 i = nI (insA f (posn (fun i => I 6 (11 * i + 6)) (I 6 (11 * k + 6)) f c) k i)) := by
  refine gEv.of rfl (Nat.le_refl _) (Nat.le_of_ble_eq_true rfl) (L := [.ref 11, .int (nI k), .null, .null]) rfl ?_
  refine g_aload_n (i := 0) (r := 11) (t := 1) dX2_enter_0 rfl rfl (Or.inl l9_11) rfl ?_
  refine gm_getI (o := 11) (ci := 2) (k := 0) (t := 4) l6_11 l9_11 s_11 gf_X2_34 rfl dX2_enter_1 rfl ?_
  rw [h0]
  refine g_bipush (t := 6) dX2_enter_4 c_bipush_16 rfl ?_
  refine g_icmp_lt_n (t1 := 10) (t2 := 9) dX2_enter_6 (by decide) rfl (by omega) (by omega) (fun h6 => ?_) (fun h6 => ?_)
  · refine g_aload_n (i := 0) (r := 11) (t := 11) dX2_enter_10 rfl rfl (Or.inl l9_11) rfl ?_
    refine gm_getI (o := 11) (ci := 2) (k := 0) (t := 14) l6_11 l9_11 s_11 gf_X2_34 rfl dX2_enter_11 rfl ?_
    rw [h0]
    refine g_istore_n (i := 2) (t := 15) (L1 := [_, _, _, _]) dX2_enter_14 rfl (by decide) rfl rfl rfl ?_
    refine g_aload_n (i := 0) (r := 11) (t := 16) dX2_enter_15 rfl rfl (Or.inl l9_11) rfl ?_
    refine gm_getR (o := 11) (ci := 2) (k := 7) (r := 4) (t := 19) l6_11 l9_11 s_11 gf_X2_30 rfl r_11_7 l9_4 dX2_enter_16 rfl ?_
    refine g_iload_n (i := 1) (t := 20) dX2_enter_19 rfl rfl rfl ?_
    refine g_bipush (t := 22) dX2_enter_20 c_bipush_6 rfl ?_
    refine g_cVp (o := 4) (t := 25) mX4_property k_X2_42 imX4_property seX4_property l6_4 l9_4 s_4 rfl dX2_enter_22 (x4_property (by omega) (by omega)) rfl rfl (by decide) (by decide) (Nat.le_of_ble_eq_true rfl) rfl (Nat.le_refl _) ?_
    refine g_istore_n (i := 3) (t := 26) (L1 := [_, _, _, _]) dX2_enter_25 rfl (by decide) rfl rfl rfl ?_
    refine x2_enter_loop hc hf c I (Nat.le_refl _) gSame.rf h1 (fun i a b => by omega) rfl (fun p I1 hp hs h1 h2 hq => ?_)
    exact x2_enter_end hc hk h0 hp hs h1 h2 hq
  · exfalso; omega
theorem x2_sort_n {k : Nat} {v : Value} {K : gK} (kk : Wp E fX2_sort (gn h) 7 [.ref 11, .int (nI (k + 1)), v] [] (gM I h) K) : Wp E fX2_sort (gn h) 36 [.ref 11, .int (nI k), v] [] (gM I h) K := by
  refine g_iinc (i := 1) (t := 39) (L1 := [_, _, _]) dX2_sort_36 rfl (gi_1 _) (by decide) rfl rfl rfl ?_
  refine g_goto (t := 7) dX2_sort_39 (by decide) ?_
  exact kk
theorem x2_sort_loop1 {n : Nat} (hn : n ≤ 16) {K : gK} {I0 : Nat → Nat → Int32} (h4 : I0 4 0 = nI n) : ∀ (d k : Nat) (I : Nat → Nat → Int32), k + d = n → gSame [11, 12] I0 I → I 11 0 = nI (ordS (xP I0) k).1 → (∀ p, p < (ordS (xP I0) k).1 → I 12 p = nI ((ordS (xP I0) k).2 p)) →
    (∀ I, gSame [11, 12] I0 I → I 11 0 = nI (ordS (xP I0) n).1 → (∀ p, p < (ordS (xP I0) n).1 → I 12 p = nI ((ordS (xP I0) n).2 p)) → Wp E fX2_sort (gn h) 42 [.ref 11, .int (nI n), .null] [] (gM I h) K) →
    Wp E fX2_sort (gn h) 7 [.ref 11, .int (nI k), .null] [] (gM I h) K := by
  intro d
  induction d with
  | zero =>
    intro k I hk hs h0 h1 kk
    have hk : k = n := by omega
    subst hk
    refine g_iload_n (i := 1) (t := 8) dX2_sort_7 rfl rfl rfl ?_
    refine g_aload_n (i := 0) (r := 11) (t := 9) dX2_sort_8 rfl rfl (Or.inl l9_11) rfl ?_
    refine gm_getR (o := 11) (ci := 2) (k := 7) (r := 4) (t := 12) l6_11 l9_11 s_11 gf_X2_30 rfl r_11_7 l9_4 dX2_sort_9 rfl ?_
    refine gm_getI (o := 4) (ci := 4) (k := 0) (t := 15) l6_4 l9_4 s_4 gf_X2_38 rfl dX2_sort_12 rfl ?_
    rw [hs.at 4 rfl, h4]
    refine g_icmp_ge_n (t1 := 42) (t2 := 18) dX2_sort_15 (by decide) rfl (by omega) (by omega) (fun h15 => ?_) (fun h15 => ?_)
    · exact kk I hs h0 h1
    · exfalso; omega
  | succ d ih =>
    intro k I hk hs h0 h1 kk
    have hf : ∀ i, i < (ordS (xP I0) k).1 → (ordS (xP I0) k).2 i < 16 := fun i hi => Nat.lt_trans (ordS_lt _ k i hi) (by omega)
    have hle := ordS_le (xP I0) k
    have e6 : I 6 = I0 6 := hs.at 6 rfl
    refine g_iload_n (i := 1) (t := 8) dX2_sort_7 rfl rfl rfl ?_
    refine g_aload_n (i := 0) (r := 11) (t := 9) dX2_sort_8 rfl rfl (Or.inl l9_11) rfl ?_
    refine gm_getR (o := 11) (ci := 2) (k := 7) (r := 4) (t := 12) l6_11 l9_11 s_11 gf_X2_30 rfl r_11_7 l9_4 dX2_sort_9 rfl ?_
    refine gm_getI (o := 4) (ci := 4) (k := 0) (t := 15) l6_4 l9_4 s_4 gf_X2_38 rfl dX2_sort_12 rfl ?_
    rw [hs.at 4 rfl, h4]
    refine g_icmp_ge_n (t1 := 42) (t2 := 18) dX2_sort_15 (by decide) rfl (by omega) (by omega) (fun h15 => ?_) (fun h15 => ?_)
    · exfalso; omega
    · refine g_aload_n (i := 0) (r := 11) (t := 19) dX2_sort_18 rfl rfl (Or.inl l9_11) rfl ?_
      refine gm_getR (o := 11) (ci := 2) (k := 7) (r := 4) (t := 22) l6_11 l9_11 s_11 gf_X2_30 rfl r_11_7 l9_4 dX2_sort_19 rfl ?_
      refine g_iload_n (i := 1) (t := 23) dX2_sort_22 rfl rfl rfl ?_
      refine g_bipush (t := 25) dX2_sort_23 c_bipush_10 rfl ?_
      refine g_cVp (o := 4) (t := 28) mX4_property k_X2_42 imX4_property seX4_property l6_4 l9_4 s_4 rfl dX2_sort_25 (x4_property (by omega) (by omega)) rfl rfl (by decide) (by decide) (Nat.le_of_ble_eq_true rfl) rfl (Nat.le_refl _) ?_
      refine g_if_ne (t1 := 36) (t2 := 31) dX2_sort_28 (by decide) rfl (fun h28 => ?_) (fun h28 => ?_)
      · have e : ordS (xP I0) (k + 1) = ordS (xP I0) k := if_neg (by show ¬ I0 6 (11 * k + 10) = 0; rw [← e6]; exact h28)
        exact x2_sort_n (ih (k + 1) I (by omega) hs (by rw [e]; exact h0) (by rw [e]; exact h1) kk)
      · refine g_aload_n (i := 0) (r := 11) (t := 32) dX2_sort_31 rfl rfl (Or.inl l9_11) rfl ?_
        refine g_iload_n (i := 1) (t := 33) dX2_sort_32 rfl rfl rfl ?_
        refine g_cVv (o := 11) (t := 36) mX2_enter k_X2_46 imX2_enter seX2_enter l6_11 l9_11 s_11 rfl dX2_sort_33 (x2_enter (by omega) (by omega) h0 hf h1) rfl rfl (by decide) (by decide) (Nat.le_of_ble_eq_true rfl) rfl (Nat.le_refl _) (fun I33 q33 => ?_)
        obtain ⟨q1, q2, q3⟩ := q33
        have e : ordS (xP I0) (k + 1) = _ := if_pos (by show I0 6 (11 * k + 10) = 0; rw [← e6]; exact h28)
        refine x2_sort_n (ih (k + 1) I33 (by omega) (hs.trans q1) (by rw [e]; exact q2) (fun p hp => ?_) kk)
        rw [e] at hp ⊢
        have hp : p < (ordS (xP I0) k).1 + 1 := hp
        rw [q3 p (by omega), e6]
theorem x2_sort_loop2 {c : Nat} (hc : c ≤ 16) {f : Nat → Nat} (hf : ∀ i, i < c → f i < 16) {K : gK} {I0 : Nat → Nat → Int32} (h0 : I0 11 0 = nI c) (h1 : ∀ p, p < c → I0 12 p = nI (f p)) : ∀ (d k : Nat) (I : Nat → Nat → Int32) (v : Value), k + d = c → gSame [13, 14, 15, 16, 17] I0 I → (∀ p, p < k → I 13 p = xP I0 (f p) 0 ∧ I 14 p = xP I0 (f p) 3 ∧ I 15 p = grt (xP I0) (f p) ∧ I 16 p = xP I0 (f p) 5 ∧ I 17 p = wsh (xP I0) (f p)) →
    (∀ I v, gSame [13, 14, 15, 16, 17] I0 I → (∀ p, p < c → I 13 p = xP I0 (f p) 0 ∧ I 14 p = xP I0 (f p) 3 ∧ I 15 p = grt (xP I0) (f p) ∧ I 16 p = xP I0 (f p) 5 ∧ I 17 p = wsh (xP I0) (f p)) → Wp E fX2_sort (gn h) 138 [.ref 11, .int (nI c), v] [] (gM I h) K) →
    Wp E fX2_sort (gn h) 44 [.ref 11, .int (nI k), v] [] (gM I h) K := by
  intro d
  induction d with
  | zero =>
    intro k I v hk hs h2 kk
    have hk : k = c := by omega
    subst hk
    refine g_iload_n (i := 1) (t := 45) dX2_sort_44 rfl rfl rfl ?_
    refine g_aload_n (i := 0) (r := 11) (t := 46) dX2_sort_45 rfl rfl (Or.inl l9_11) rfl ?_
    refine gm_getI (o := 11) (ci := 2) (k := 0) (t := 49) l6_11 l9_11 s_11 gf_X2_34 rfl dX2_sort_46 rfl ?_
    rw [hs.at 11 rfl, h0]
    refine g_icmp_ge_n (t1 := 138) (t2 := 52) dX2_sort_49 (by decide) rfl (by omega) (by omega) (fun h49 => ?_) (fun h49 => ?_)
    · exact kk I v hs h2
    · exfalso; omega
  | succ d ih =>
    intro k I v hk hs h2 kk
    have hfk := hf k (by omega)
    have e6 : I 6 = I0 6 := hs.at 6 rfl
    have e6' : (fun i w => I 6 (11 * i + w)) = xP I0 := by rw [e6]
    refine g_iload_n (i := 1) (t := 45) dX2_sort_44 rfl rfl rfl ?_
    refine g_aload_n (i := 0) (r := 11) (t := 46) dX2_sort_45 rfl rfl (Or.inl l9_11) rfl ?_
    refine gm_getI (o := 11) (ci := 2) (k := 0) (t := 49) l6_11 l9_11 s_11 gf_X2_34 rfl dX2_sort_46 rfl ?_
    rw [hs.at 11 rfl, h0]
    refine g_icmp_ge_n (t1 := 138) (t2 := 52) dX2_sort_49 (by decide) rfl (by omega) (by omega) (fun h49 => ?_) (fun h49 => ?_)
    · exfalso; omega
    · refine g_aload_n (i := 0) (r := 11) (t := 53) dX2_sort_52 rfl rfl (Or.inl l9_11) rfl ?_
      refine gm_getR (o := 11) (ci := 2) (k := 1) (r := 12) (t := 56) l6_11 l9_11 s_11 gf_X2_9 rfl r_11_1 l9_12 dX2_sort_53 rfl ?_
      refine g_iload_n (i := 1) (t := 57) dX2_sort_56 rfl rfl rfl ?_
      refine gm_iald_n (a := 12) (n := 16) (t := 58) l6_12 l9_12 s_12 dX2_sort_57 (by omega) (by decide) rfl ?_
      rw [hs.at 12 rfl, h1 k (by omega)]
      refine g_istore_n (i := 2) (t := 59) (L1 := [_, _, _]) dX2_sort_58 rfl (by decide) rfl rfl rfl ?_
      refine g_aload_n (i := 0) (r := 11) (t := 60) dX2_sort_59 rfl rfl (Or.inl l9_11) rfl ?_
      refine gm_getR (o := 11) (ci := 2) (k := 2) (r := 13) (t := 63) l6_11 l9_11 s_11 gf_X2_15 rfl r_11_2 l9_13 dX2_sort_60 rfl ?_
      refine g_iload_n (i := 1) (t := 64) dX2_sort_63 rfl rfl rfl ?_
      refine g_aload_n (i := 0) (r := 11) (t := 65) dX2_sort_64 rfl rfl (Or.inl l9_11) rfl ?_
      refine gm_getR (o := 11) (ci := 2) (k := 7) (r := 4) (t := 68) l6_11 l9_11 s_11 gf_X2_30 rfl r_11_7 l9_4 dX2_sort_65 rfl ?_
      refine g_iload_n (i := 2) (t := 69) dX2_sort_68 rfl rfl rfl ?_
      refine g_iconst (t := 70) dX2_sort_69 c_iconst_0 rfl ?_
      refine g_cVp (o := 4) (t := 73) mX4_property k_X2_42 imX4_property seX4_property l6_4 l9_4 s_4 rfl dX2_sort_70 (x4_property (by omega) (by omega)) rfl rfl (by decide) (by decide) (Nat.le_of_ble_eq_true rfl) rfl (Nat.le_refl _) ?_
      refine gm_iast_n (a := 13) (n := 16) (t := 74) l6_13 l9_13 s_13 dX2_sort_73 (by omega) (by decide) rfl ?_
      refine g_aload_n (i := 0) (r := 11) (t := 75) dX2_sort_74 rfl rfl (Or.inl l9_11) rfl ?_
      refine gm_getR (o := 11) (ci := 2) (k := 3) (r := 14) (t := 78) l6_11 l9_11 s_11 gf_X2_18 rfl r_11_3 l9_14 dX2_sort_75 rfl ?_
      refine g_iload_n (i := 1) (t := 79) dX2_sort_78 rfl rfl rfl ?_
      refine g_aload_n (i := 0) (r := 11) (t := 80) dX2_sort_79 rfl rfl (Or.inl l9_11) rfl ?_
      refine gm_getR (o := 11) (ci := 2) (k := 7) (r := 4) (t := 83) l6_11 l9_11 s_11 gf_X2_30 rfl r_11_7 l9_4 dX2_sort_80 rfl ?_
      refine g_iload_n (i := 2) (t := 84) dX2_sort_83 rfl rfl rfl ?_
      refine g_iconst (t := 85) dX2_sort_84 c_iconst_3 rfl ?_
      refine g_cVp (o := 4) (t := 88) mX4_property k_X2_42 imX4_property seX4_property l6_4 l9_4 s_4 rfl dX2_sort_85 (x4_property (by omega) (by omega)) rfl rfl (by decide) (by decide) (Nat.le_of_ble_eq_true rfl) rfl (Nat.le_refl _) ?_
      refine gm_iast_n (a := 14) (n := 16) (t := 89) l6_14 l9_14 s_14 dX2_sort_88 (by omega) (by decide) rfl ?_
      refine g_aload_n (i := 0) (r := 11) (t := 90) dX2_sort_89 rfl rfl (Or.inl l9_11) rfl ?_
      refine gm_getR (o := 11) (ci := 2) (k := 4) (r := 15) (t := 93) l6_11 l9_11 s_11 gf_X2_21 rfl r_11_4 l9_15 dX2_sort_90 rfl ?_
      refine g_iload_n (i := 1) (t := 94) dX2_sort_93 rfl rfl rfl ?_
      refine g_aload_n (i := 0) (r := 11) (t := 95) dX2_sort_94 rfl rfl (Or.inl l9_11) rfl ?_
      refine gm_getR (o := 11) (ci := 2) (k := 7) (r := 4) (t := 98) l6_11 l9_11 s_11 gf_X2_30 rfl r_11_7 l9_4 dX2_sort_95 rfl ?_
      refine g_iload_n (i := 2) (t := 99) dX2_sort_98 rfl rfl rfl ?_
      refine g_cVp (o := 4) (t := 102) mX4_greatest k_X2_50 imX4_greatest seX4_greatest l6_4 l9_4 s_4 rfl dX2_sort_99 (x4_greatest (by omega)) rfl rfl (by decide) (by decide) (Nat.le_of_ble_eq_true rfl) rfl (Nat.le_refl _) ?_
      refine gm_iast_n (a := 15) (n := 16) (t := 103) l6_15 l9_15 s_15 dX2_sort_102 (by omega) (by decide) rfl ?_
      refine g_aload_n (i := 0) (r := 11) (t := 104) dX2_sort_103 rfl rfl (Or.inl l9_11) rfl ?_
      refine gm_getR (o := 11) (ci := 2) (k := 5) (r := 16) (t := 107) l6_11 l9_11 s_11 gf_X2_24 rfl r_11_5 l9_16 dX2_sort_104 rfl ?_
      refine g_iload_n (i := 1) (t := 108) dX2_sort_107 rfl rfl rfl ?_
      refine g_aload_n (i := 0) (r := 11) (t := 109) dX2_sort_108 rfl rfl (Or.inl l9_11) rfl ?_
      refine gm_getR (o := 11) (ci := 2) (k := 7) (r := 4) (t := 112) l6_11 l9_11 s_11 gf_X2_30 rfl r_11_7 l9_4 dX2_sort_109 rfl ?_
      refine g_iload_n (i := 2) (t := 113) dX2_sort_112 rfl rfl rfl ?_
      refine g_iconst (t := 114) dX2_sort_113 c_iconst_5 rfl ?_
      refine g_cVp (o := 4) (t := 117) mX4_property k_X2_42 imX4_property seX4_property l6_4 l9_4 s_4 rfl dX2_sort_114 (x4_property (by omega) (by omega)) rfl rfl (by decide) (by decide) (Nat.le_of_ble_eq_true rfl) rfl (Nat.le_refl _) ?_
      refine gm_iast_n (a := 16) (n := 16) (t := 118) l6_16 l9_16 s_16 dX2_sort_117 (by omega) (by decide) rfl ?_
      refine g_aload_n (i := 0) (r := 11) (t := 119) dX2_sort_118 rfl rfl (Or.inl l9_11) rfl ?_
      refine gm_getR (o := 11) (ci := 2) (k := 6) (r := 17) (t := 122) l6_11 l9_11 s_11 gf_X2_27 rfl r_11_6 l9_17 dX2_sort_119 rfl ?_
      refine g_iload_n (i := 1) (t := 123) dX2_sort_122 rfl rfl rfl ?_
      refine g_aload_n (i := 0) (r := 11) (t := 124) dX2_sort_123 rfl rfl (Or.inl l9_11) rfl ?_
      refine gm_getR (o := 11) (ci := 2) (k := 7) (r := 4) (t := 127) l6_11 l9_11 s_11 gf_X2_30 rfl r_11_7 l9_4 dX2_sort_124 rfl ?_
      refine g_iload_n (i := 2) (t := 128) dX2_sort_127 rfl rfl rfl ?_
      refine g_cVp (o := 4) (t := 131) mX4_wish k_X2_53 imX4_wish seX4_wish l6_4 l9_4 s_4 rfl dX2_sort_128 (x4_wish (by omega)) rfl rfl (by decide) (by decide) (Nat.le_of_ble_eq_true rfl) rfl (Nat.le_refl _) ?_
      refine gm_iast_n (a := 17) (n := 16) (t := 132) l6_17 l9_17 s_17 dX2_sort_131 (by omega) (by decide) rfl ?_
      refine g_iinc (i := 1) (t := 135) (L1 := [_, _, _]) dX2_sort_132 rfl (gi_1 _) (by decide) rfl rfl rfl ?_
      refine g_goto (t := 44) dX2_sort_135 (by decide) ?_
      refine ih (k + 1) _ _ (by omega) (((((hs.up rfl).up rfl).up rfl).up rfl).up rfl) (fun p hp => ?_) kk
      by_cases z : p = k
      · subst z
        simp only [gup, xP, e6, e6']
        simp
      · have := h2 p (by omega)
        simp only [gup, z, and_false, if_false]
        exact this
theorem x2_sort {n : Nat} (hn : n ≤ 16) (h4 : I 4 0 = nI n) : gQV E fX2_sort [.ref 11] I h (fun I' => gSame [11, 12, 13, 14, 15, 16, 17] I I' ∧ xO I' (xP I) (ordS (xP I) n).1 (ordS (xP I) n).2) := by
  refine gEv.of rfl (Nat.le_refl _) (Nat.le_of_ble_eq_true rfl) (L := [.ref 11, .null, .null]) rfl ?_
  have hf : ∀ i, i < (ordS (xP I) n).1 → (ordS (xP I) n).2 i < 16 := fun i hi => Nat.lt_of_lt_of_le (ordS_lt _ n i hi) hn
  have hle := ordS_le (xP I) n
  refine g_aload_n (i := 0) (r := 11) (t := 1) dX2_sort_0 rfl rfl (Or.inl l9_11) rfl ?_
  refine g_iconst (t := 2) dX2_sort_1 c_iconst_0 rfl ?_
  refine gm_putI (o := 11) (ci := 2) (k := 0) (t := 5) l6_11 l9_11 s_11 gp_X2_34 rfl rfl rfl dX2_sort_2 rfl ?_
  refine g_iconst (t := 6) dX2_sort_5 c_iconst_0 rfl ?_
  refine g_istore_n (i := 1) (t := 7) (L1 := [_, _, _]) dX2_sort_6 rfl (by decide) rfl rfl rfl ?_
  refine x2_sort_loop1 (I0 := gup I 11 0 (nI 0)) hn (by rw [gup_o _ _ _ _ (by decide)]; exact h4) n 0 _ (by omega) gSame.rf (gup_self _ _ _ _) (fun p hp => absurd hp (Nat.not_lt_zero _)) (fun I1 hs h0 h1 => ?_)
  have exP : xP (gup I 11 0 (nI 0)) = xP I := by funext i w; exact gup_o _ _ _ _ (by decide)
  rw [exP] at h0 h1
  refine g_iconst (t := 43) dX2_sort_42 c_iconst_0 rfl ?_
  refine g_istore_n (i := 1) (t := 44) (L1 := [_, _, _]) dX2_sort_43 rfl (by decide) rfl rfl rfl ?_
  refine x2_sort_loop2 (by omega) hf h0 h1 (ordS (xP I) n).1 0 I1 _ (by omega) gSame.rf (fun p hp => absurd hp (Nat.not_lt_zero _)) (fun I2 v hs2 h2 => ?_)
  have hS : gSame [11, 12] I I1 := (gSame.rf.up (o := 11) rfl).trans hs
  have e : xP I1 = xP I := by funext i w; rw [xP, hS.at 6 rfl]
  rw [e] at h2
  refine g_retV dX2_sort_138 rfl ⟨(hS.wk rfl).trans (hs2.wk rfl), by omega, by rw [hs2.at 11 rfl, h0], fun p hp => ⟨hf p hp, by rw [hs2.at 12 rfl, h1 p hp], h2 p hp⟩⟩
theorem x2_itemAt {P : dP} {c p : Nat} {f : Nat → Nat} (hO : xO I P c f) (hp : p < c) : gPI E fX2_itemAt [.ref 11, .int (nI p)] I h (nI (f p)) := by
  refine gEv.of rfl (Nat.le_refl _) (Nat.le_of_ble_eq_true rfl) (L := [.ref 11, .int (nI p)]) rfl ?_
  obtain ⟨hc, h0, hO⟩ := hO
  refine g_iload_n (i := 1) (t := 1) dX2_itemAt_0 rfl rfl rfl ?_
  refine g_if_lt (t1 := 21) (t2 := 4) dX2_itemAt_1 (by decide) rfl (fun h1 => ?_) (fun h1 => ?_)
  · exact absurd h1 (by first | decide | exact nI_pos (by omega) | exact nI_ne0 (by omega) (by omega))
  · refine g_iload_n (i := 1) (t := 5) dX2_itemAt_4 rfl rfl rfl ?_
    refine g_aload_n (i := 0) (r := 11) (t := 6) dX2_itemAt_5 rfl rfl (Or.inl l9_11) rfl ?_
    refine gm_getI (o := 11) (ci := 2) (k := 0) (t := 9) l6_11 l9_11 s_11 gf_X2_34 rfl dX2_itemAt_6 rfl ?_
    rw [h0]
    refine g_icmp_ge_n (t1 := 21) (t2 := 12) dX2_itemAt_9 (by decide) rfl (by omega) (by omega) (fun h9 => ?_) (fun h9 => ?_)
    · exfalso; omega
    · refine g_aload_n (i := 0) (r := 11) (t := 13) dX2_itemAt_12 rfl rfl (Or.inl l9_11) rfl ?_
      refine gm_getR (o := 11) (ci := 2) (k := 1) (r := 12) (t := 16) l6_11 l9_11 s_11 gf_X2_9 rfl r_11_1 l9_12 dX2_itemAt_13 rfl ?_
      refine g_iload_n (i := 1) (t := 17) dX2_itemAt_16 rfl rfl rfl ?_
      refine gm_iald_n (a := 12) (n := 16) (t := 18) l6_12 l9_12 s_12 dX2_itemAt_17 (by omega) (by decide) rfl ?_
      refine g_goto (t := 24) dX2_itemAt_18 (by decide) ?_
      exact g_retP dX2_itemAt_24 rfl rfl ((hO p hp).2.1)
/-- an item's place in the order, or NONE -/
def plcS (f : Nat → Nat) (k : Nat) : Nat → Nat → Int32
  | 0, _ => -1001
  | d + 1, p => if f p = k then nI p else plcS f k d (p + 1)
theorem plcS_at {f : Nat → Nat} {k c : Nat} {q : Nat} (hq : q < c) (hf : f q = k) (hi : ∀ p q, p < c → q < c → f p = f q → p = q) : ∀ d p, p + d = c → p ≤ q → plcS f k d p = nI q
  | 0, p, h1, h2 => by omega
  | d + 1, p, h1, h2 => by
    unfold plcS
    by_cases e : f p = k
    · rw [if_pos e, hi p q (by omega) hq (e.trans hf.symm)]
    · rw [if_neg e]
      refine plcS_at hq hf hi d (p + 1) (by omega) ?_
      have : p ≠ q := fun z => e (z ▸ hf)
      omega
theorem plcS_no {f : Nat → Nat} {k c : Nat} (hf : ∀ p, p < c → f p ≠ k) : ∀ d p, p + d = c → plcS f k d p = -1001
  | 0, p, _ => rfl
  | d + 1, p, h1 => by
    unfold plcS
    rw [if_neg (hf p (by omega))]
    exact plcS_no hf d (p + 1) (by omega)
theorem x2_placeOf_loop {P : dP} {c k : Nat} {f : Nat → Nat} (hO : xO I P c f) (hk : k < 16) : ∀ (d p : Nat), p + d = c → Wp E fX2_placeOf (gn h) 2 [.ref 11, .int (nI k), .int (nI p)] [] (gM I h) (gRet fX2_placeOf (gn h) (fun r σ' => r = some (.int (plcS f k d p)) ∧ σ' = gM I h)) := by
  obtain ⟨hc, h0, hO⟩ := hO
  intro d
  induction d with
  | zero =>
    intro p hp
    refine g_iload_n (i := 2) (t := 3) dX2_placeOf_2 rfl rfl rfl ?_
    refine g_aload_n (i := 0) (r := 11) (t := 4) dX2_placeOf_3 rfl rfl (Or.inl l9_11) rfl ?_
    refine gm_getI (o := 11) (ci := 2) (k := 0) (t := 7) l6_11 l9_11 s_11 gf_X2_34 rfl dX2_placeOf_4 rfl ?_
    rw [h0]
    refine g_icmp_ge_n (t1 := 28) (t2 := 10) dX2_placeOf_7 (by decide) rfl (by omega) (by omega) (fun h7 => ?_) (fun h7 => ?_)
    · refine g_sipush (t := 31) dX2_placeOf_28 c_sipush_m1001 rfl ?_
      exact g_retP dX2_placeOf_31 rfl rfl (rfl)
    · exfalso; omega
  | succ d ih =>
    intro p hp
    obtain ⟨hf, h1, -⟩ := hO p (by omega)
    refine g_iload_n (i := 2) (t := 3) dX2_placeOf_2 rfl rfl rfl ?_
    refine g_aload_n (i := 0) (r := 11) (t := 4) dX2_placeOf_3 rfl rfl (Or.inl l9_11) rfl ?_
    refine gm_getI (o := 11) (ci := 2) (k := 0) (t := 7) l6_11 l9_11 s_11 gf_X2_34 rfl dX2_placeOf_4 rfl ?_
    rw [h0]
    refine g_icmp_ge_n (t1 := 28) (t2 := 10) dX2_placeOf_7 (by decide) rfl (by omega) (by omega) (fun h7 => ?_) (fun h7 => ?_)
    · exfalso; omega
    · refine g_aload_n (i := 0) (r := 11) (t := 11) dX2_placeOf_10 rfl rfl (Or.inl l9_11) rfl ?_
      refine gm_getR (o := 11) (ci := 2) (k := 1) (r := 12) (t := 14) l6_11 l9_11 s_11 gf_X2_9 rfl r_11_1 l9_12 dX2_placeOf_11 rfl ?_
      refine g_iload_n (i := 2) (t := 15) dX2_placeOf_14 rfl rfl rfl ?_
      refine gm_iald_n (a := 12) (n := 16) (t := 16) l6_12 l9_12 s_12 dX2_placeOf_15 (by omega) (by decide) rfl ?_
      rw [h1]
      refine g_iload_n (i := 1) (t := 17) dX2_placeOf_16 rfl rfl rfl ?_
      refine g_icmp_ne_n (t1 := 22) (t2 := 20) dX2_placeOf_17 (by decide) rfl (by omega) (by omega) (fun h17 => ?_) (fun h17 => ?_)
      · refine g_iinc (i := 2) (t := 25) (L1 := [_, _, _]) dX2_placeOf_22 rfl (gi_1 _) (by decide) rfl rfl rfl ?_
        refine g_goto (t := 2) dX2_placeOf_25 (by decide) ?_
        have := ih (p + 1) (by omega)
        rw [plcS, if_neg h17]
        exact this
      · refine g_iload_n (i := 2) (t := 21) dX2_placeOf_20 rfl rfl rfl ?_
        exact g_retP dX2_placeOf_21 rfl rfl (by rw [plcS, if_pos h17])
theorem x2_placeOf {P : dP} {c k : Nat} {f : Nat → Nat} (hO : xO I P c f) (hk : k < 16) : gPI E fX2_placeOf [.ref 11, .int (nI k)] I h (plcS f k c 0) := by
  refine gEv.of rfl (Nat.le_refl _) (Nat.le_of_ble_eq_true rfl) (L := [.ref 11, .int (nI k), .null]) rfl ?_
  refine g_iconst (t := 1) dX2_placeOf_0 c_iconst_0 rfl ?_
  refine g_istore_n (i := 2) (t := 2) (L1 := [_, _, _]) dX2_placeOf_1 rfl (by decide) rfl rfl rfl ?_
  exact x2_placeOf_loop hO hk c 0 (by omega)
theorem x2_outerWish {P : dP} {c p : Nat} {f : Nat → Nat} (hO : xO I P c f) (hp : p < c) : gPI E fX2_outerWish [.ref 11, .int (nI p)] I h (out P (f p)) := by
  refine gEv.of rfl (Nat.le_refl _) (Nat.le_of_ble_eq_true rfl) (L := [.ref 11, .int (nI p)]) rfl ?_
  obtain ⟨hc, h0, hO⟩ := hO
  obtain ⟨h1, h2, h3, h4, h5, h6, h7⟩ := hO p hp
  refine g_aload_n (i := 0) (r := 11) (t := 1) dX2_outerWish_0 rfl rfl (Or.inl l9_11) rfl ?_
  refine gm_getR (o := 11) (ci := 2) (k := 6) (r := 17) (t := 4) l6_11 l9_11 s_11 gf_X2_27 rfl r_11_6 l9_17 dX2_outerWish_1 rfl ?_
  refine g_iload_n (i := 1) (t := 5) dX2_outerWish_4 rfl rfl rfl ?_
  refine gm_iald_n (a := 17) (n := 16) (t := 6) l6_17 l9_17 s_17 dX2_outerWish_5 (by omega) (by decide) rfl ?_
  refine g_iconst (t := 7) dX2_outerWish_6 c_iconst_2 rfl ?_
  refine g_aload_n (i := 0) (r := 11) (t := 8) dX2_outerWish_7 rfl rfl (Or.inl l9_11) rfl ?_
  refine gm_getR (o := 11) (ci := 2) (k := 5) (r := 16) (t := 11) l6_11 l9_11 s_11 gf_X2_24 rfl r_11_5 l9_16 dX2_outerWish_8 rfl ?_
  refine g_iload_n (i := 1) (t := 12) dX2_outerWish_11 rfl rfl rfl ?_
  refine gm_iald_n (a := 16) (n := 16) (t := 13) l6_16 l9_16 s_16 dX2_outerWish_12 (by omega) (by decide) rfl ?_
  refine g_imul (t := 14) dX2_outerWish_13 rfl ?_
  refine g_iadd (t := 15) dX2_outerWish_14 rfl ?_
  exact g_retP dX2_outerWish_15 rfl rfl (by rw [h6, h7]; rfl)
/-- what the room is shared by -/
def wgt (P : dP) (g : Bool) (i : Nat) : Int32 := if g then P i 1 else P i 2 * P i 0
/-- what keeps its wish at once -/
def stf (P : dP) (g : Bool) (i : Nat) : Bool := if g then decide (P i 1 = 0 ∨ wsh P i < P i 0) else decide (P i 2 = 0 ∨ P i 0 < wsh P i)
def bI (b : Bool) : Int32 := if b then nI 1 else nI 0
theorem x2_weight {c p : Nat} {f : Nat → Nat} {g : Bool} (hO : xO I (xP I) c f) (hp : p < c) : gPI E fX2_weight [.ref 11, .int (nI p), .int (bI g)] I h (wgt (xP I) g (f p)) := by
  refine gEv.of rfl (Nat.le_refl _) (Nat.le_of_ble_eq_true rfl) (L := [.ref 11, .int (nI p), .int (bI g), .null]) rfl ?_
  obtain ⟨hc, h0, hO⟩ := hO
  obtain ⟨h1, h2, h3, h4, h5, h6, h7⟩ := hO p hp
  cases g with
  | true =>
    refine g_aload_n (i := 0) (r := 11) (t := 1) dX2_weight_0 rfl rfl (Or.inl l9_11) rfl ?_
    refine gm_getR (o := 11) (ci := 2) (k := 1) (r := 12) (t := 4) l6_11 l9_11 s_11 gf_X2_9 rfl r_11_1 l9_12 dX2_weight_1 rfl ?_
    refine g_iload_n (i := 1) (t := 5) dX2_weight_4 rfl rfl rfl ?_
    refine gm_iald_n (a := 12) (n := 16) (t := 6) l6_12 l9_12 s_12 dX2_weight_5 (by omega) (by decide) rfl ?_
    rw [h2]
    refine g_istore_n (i := 3) (t := 7) (L1 := [_, _, _, _]) dX2_weight_6 rfl (by decide) rfl rfl rfl ?_
    refine g_iload_n (i := 2) (t := 8) dX2_weight_7 rfl rfl rfl ?_
    refine g_if_eq (t1 := 23) (t2 := 11) dX2_weight_8 (by decide) rfl (fun h8 => ?_) (fun h8 => ?_)
    · exact absurd h8 (by decide)
    · refine g_aload_n (i := 0) (r := 11) (t := 12) dX2_weight_11 rfl rfl (Or.inl l9_11) rfl ?_
      refine gm_getR (o := 11) (ci := 2) (k := 7) (r := 4) (t := 15) l6_11 l9_11 s_11 gf_X2_30 rfl r_11_7 l9_4 dX2_weight_12 rfl ?_
      refine g_iload_n (i := 3) (t := 16) dX2_weight_15 rfl rfl rfl ?_
      refine g_iconst (t := 17) dX2_weight_16 c_iconst_1 rfl ?_
      refine g_cVp (o := 4) (t := 20) mX4_property k_X2_42 imX4_property seX4_property l6_4 l9_4 s_4 rfl dX2_weight_17 (x4_property (by omega) (by omega)) rfl rfl (by decide) (by decide) (Nat.le_of_ble_eq_true rfl) rfl (Nat.le_refl _) ?_
      refine g_goto (t := 39) dX2_weight_20 (by decide) ?_
      exact g_retP dX2_weight_39 rfl rfl (rfl)
  | false =>
    refine g_aload_n (i := 0) (r := 11) (t := 1) dX2_weight_0 rfl rfl (Or.inl l9_11) rfl ?_
    refine gm_getR (o := 11) (ci := 2) (k := 1) (r := 12) (t := 4) l6_11 l9_11 s_11 gf_X2_9 rfl r_11_1 l9_12 dX2_weight_1 rfl ?_
    refine g_iload_n (i := 1) (t := 5) dX2_weight_4 rfl rfl rfl ?_
    refine gm_iald_n (a := 12) (n := 16) (t := 6) l6_12 l9_12 s_12 dX2_weight_5 (by omega) (by decide) rfl ?_
    rw [h2]
    refine g_istore_n (i := 3) (t := 7) (L1 := [_, _, _, _]) dX2_weight_6 rfl (by decide) rfl rfl rfl ?_
    refine g_iload_n (i := 2) (t := 8) dX2_weight_7 rfl rfl rfl ?_
    refine g_if_eq (t1 := 23) (t2 := 11) dX2_weight_8 (by decide) rfl (fun h8 => ?_) (fun h8 => ?_)
    · refine g_aload_n (i := 0) (r := 11) (t := 24) dX2_weight_23 rfl rfl (Or.inl l9_11) rfl ?_
      refine gm_getR (o := 11) (ci := 2) (k := 7) (r := 4) (t := 27) l6_11 l9_11 s_11 gf_X2_30 rfl r_11_7 l9_4 dX2_weight_24 rfl ?_
      refine g_iload_n (i := 3) (t := 28) dX2_weight_27 rfl rfl rfl ?_
      refine g_iconst (t := 29) dX2_weight_28 c_iconst_2 rfl ?_
      refine g_cVp (o := 4) (t := 32) mX4_property k_X2_42 imX4_property seX4_property l6_4 l9_4 s_4 rfl dX2_weight_29 (x4_property (by omega) (by omega)) rfl rfl (by decide) (by decide) (Nat.le_of_ble_eq_true rfl) rfl (Nat.le_refl _) ?_
      refine g_aload_n (i := 0) (r := 11) (t := 33) dX2_weight_32 rfl rfl (Or.inl l9_11) rfl ?_
      refine gm_getR (o := 11) (ci := 2) (k := 2) (r := 13) (t := 36) l6_11 l9_11 s_11 gf_X2_15 rfl r_11_2 l9_13 dX2_weight_33 rfl ?_
      refine g_iload_n (i := 1) (t := 37) dX2_weight_36 rfl rfl rfl ?_
      refine gm_iald_n (a := 13) (n := 16) (t := 38) l6_13 l9_13 s_13 dX2_weight_37 (by omega) (by decide) rfl ?_
      refine g_imul (t := 39) dX2_weight_38 rfl ?_
      exact g_retP dX2_weight_39 rfl rfl (by rw [h3]; rfl)
    · exact absurd (by decide) h8
theorem x2_isStiff {c p : Nat} {f : Nat → Nat} {g : Bool} (hO : xO I (xP I) c f) (hp : p < c) : gPI E fX2_isStiff [.ref 11, .int (nI p), .int (bI g)] I h (bI (stf (xP I) g (f p))) := by
  refine gEv.of rfl (Nat.le_refl _) (Nat.le_of_ble_eq_true rfl) (L := [.ref 11, .int (nI p), .int (bI g), .null]) rfl ?_
  obtain ⟨hc, h0, hO⟩ := hO
  obtain ⟨h1, h2, h3, h4, h5, h6, h7⟩ := hO p hp
  cases g with
  | true =>
    refine g_aload_n (i := 0) (r := 11) (t := 1) dX2_isStiff_0 rfl rfl (Or.inl l9_11) rfl ?_
    refine gm_getR (o := 11) (ci := 2) (k := 1) (r := 12) (t := 4) l6_11 l9_11 s_11 gf_X2_9 rfl r_11_1 l9_12 dX2_isStiff_1 rfl ?_
    refine g_iload_n (i := 1) (t := 5) dX2_isStiff_4 rfl rfl rfl ?_
    refine gm_iald_n (a := 12) (n := 16) (t := 6) l6_12 l9_12 s_12 dX2_isStiff_5 (by omega) (by decide) rfl ?_
    rw [h2]
    refine g_istore_n (i := 3) (t := 7) (L1 := [_, _, _, _]) dX2_isStiff_6 rfl (by decide) rfl rfl rfl ?_
    refine g_iload_n (i := 2) (t := 8) dX2_isStiff_7 rfl rfl rfl ?_
    refine g_if_eq (t1 := 44) (t2 := 11) dX2_isStiff_8 (by decide) rfl (fun h8 => ?_) (fun h8 => ?_)
    · exact absurd h8 (by decide)
    · refine g_aload_n (i := 0) (r := 11) (t := 12) dX2_isStiff_11 rfl rfl (Or.inl l9_11) rfl ?_
      refine gm_getR (o := 11) (ci := 2) (k := 7) (r := 4) (t := 15) l6_11 l9_11 s_11 gf_X2_30 rfl r_11_7 l9_4 dX2_isStiff_12 rfl ?_
      refine g_iload_n (i := 3) (t := 16) dX2_isStiff_15 rfl rfl rfl ?_
      refine g_iconst (t := 17) dX2_isStiff_16 c_iconst_1 rfl ?_
      refine g_cVp (o := 4) (t := 20) mX4_property k_X2_42 imX4_property seX4_property l6_4 l9_4 s_4 rfl dX2_isStiff_17 (x4_property (by omega) (by omega)) rfl rfl (by decide) (by decide) (Nat.le_of_ble_eq_true rfl) rfl (Nat.le_refl _) ?_
      refine g_if_eq (t1 := 38) (t2 := 23) dX2_isStiff_20 (by decide) rfl (fun h20 => ?_) (fun h20 => ?_)
      · refine g_iconst (t := 39) dX2_isStiff_38 c_iconst_1 rfl ?_
        refine g_goto (t := 43) dX2_isStiff_39 (by decide) ?_
        exact g_retP dX2_isStiff_43 rfl (by decide +kernel) (by
    have : stf (xP I) true (f p) = _ := if_pos rfl
    rw [this]
    first | (rw [decide_eq_true (Or.inl h20)]; rfl) | (rw [decide_eq_true (Or.inr (Int32.not_le.mp h35))]; rfl) | (rw [decide_eq_false (fun z => z.elim h20 (fun y => absurd h35 (Int32.not_le.mpr y)))]; rfl))
      · refine g_aload_n (i := 0) (r := 11) (t := 24) dX2_isStiff_23 rfl rfl (Or.inl l9_11) rfl ?_
        refine gm_getR (o := 11) (ci := 2) (k := 2) (r := 13) (t := 27) l6_11 l9_11 s_11 gf_X2_15 rfl r_11_2 l9_13 dX2_isStiff_24 rfl ?_
        refine g_iload_n (i := 1) (t := 28) dX2_isStiff_27 rfl rfl rfl ?_
        refine gm_iald_n (a := 13) (n := 16) (t := 29) l6_13 l9_13 s_13 dX2_isStiff_28 (by omega) (by decide) rfl ?_
        refine g_aload_n (i := 0) (r := 11) (t := 30) dX2_isStiff_29 rfl rfl (Or.inl l9_11) rfl ?_
        refine gm_getR (o := 11) (ci := 2) (k := 6) (r := 17) (t := 33) l6_11 l9_11 s_11 gf_X2_27 rfl r_11_6 l9_17 dX2_isStiff_30 rfl ?_
        refine g_iload_n (i := 1) (t := 34) dX2_isStiff_33 rfl rfl rfl ?_
        refine gm_iald_n (a := 17) (n := 16) (t := 35) l6_17 l9_17 s_17 dX2_isStiff_34 (by omega) (by decide) rfl ?_
        rw [h3, h7]
        refine g_icmp_le (t1 := 42) (t2 := 38) dX2_isStiff_35 (by decide) rfl (fun h35 => ?_) (fun h35 => ?_)
        · refine g_iconst (t := 43) dX2_isStiff_42 c_iconst_0 rfl ?_
          exact g_retP dX2_isStiff_43 rfl (by decide +kernel) (by
    have : stf (xP I) true (f p) = _ := if_pos rfl
    rw [this]
    first | (rw [decide_eq_true (Or.inl h20)]; rfl) | (rw [decide_eq_true (Or.inr (Int32.not_le.mp h35))]; rfl) | (rw [decide_eq_false (fun z => z.elim h20 (fun y => absurd h35 (Int32.not_le.mpr y)))]; rfl))
        · refine g_iconst (t := 39) dX2_isStiff_38 c_iconst_1 rfl ?_
          refine g_goto (t := 43) dX2_isStiff_39 (by decide) ?_
          exact g_retP dX2_isStiff_43 rfl (by decide +kernel) (by
    have : stf (xP I) true (f p) = _ := if_pos rfl
    rw [this]
    first | (rw [decide_eq_true (Or.inl h20)]; rfl) | (rw [decide_eq_true (Or.inr (Int32.not_le.mp h35))]; rfl) | (rw [decide_eq_false (fun z => z.elim h20 (fun y => absurd h35 (Int32.not_le.mpr y)))]; rfl))
  | false =>
    refine g_aload_n (i := 0) (r := 11) (t := 1) dX2_isStiff_0 rfl rfl (Or.inl l9_11) rfl ?_
    refine gm_getR (o := 11) (ci := 2) (k := 1) (r := 12) (t := 4) l6_11 l9_11 s_11 gf_X2_9 rfl r_11_1 l9_12 dX2_isStiff_1 rfl ?_
    refine g_iload_n (i := 1) (t := 5) dX2_isStiff_4 rfl rfl rfl ?_
    refine gm_iald_n (a := 12) (n := 16) (t := 6) l6_12 l9_12 s_12 dX2_isStiff_5 (by omega) (by decide) rfl ?_
    rw [h2]
    refine g_istore_n (i := 3) (t := 7) (L1 := [_, _, _, _]) dX2_isStiff_6 rfl (by decide) rfl rfl rfl ?_
    refine g_iload_n (i := 2) (t := 8) dX2_isStiff_7 rfl rfl rfl ?_
    refine g_if_eq (t1 := 44) (t2 := 11) dX2_isStiff_8 (by decide) rfl (fun h8 => ?_) (fun h8 => ?_)
    · refine g_aload_n (i := 0) (r := 11) (t := 45) dX2_isStiff_44 rfl rfl (Or.inl l9_11) rfl ?_
      refine gm_getR (o := 11) (ci := 2) (k := 7) (r := 4) (t := 48) l6_11 l9_11 s_11 gf_X2_30 rfl r_11_7 l9_4 dX2_isStiff_45 rfl ?_
      refine g_iload_n (i := 3) (t := 49) dX2_isStiff_48 rfl rfl rfl ?_
      refine g_iconst (t := 50) dX2_isStiff_49 c_iconst_2 rfl ?_
      refine g_cVp (o := 4) (t := 53) mX4_property k_X2_42 imX4_property seX4_property l6_4 l9_4 s_4 rfl dX2_isStiff_50 (x4_property (by omega) (by omega)) rfl rfl (by decide) (by decide) (Nat.le_of_ble_eq_true rfl) rfl (Nat.le_refl _) ?_
      refine g_if_eq (t1 := 71) (t2 := 56) dX2_isStiff_53 (by decide) rfl (fun h53 => ?_) (fun h53 => ?_)
      · refine g_iconst (t := 72) dX2_isStiff_71 c_iconst_1 rfl ?_
        refine g_goto (t := 76) dX2_isStiff_72 (by decide) ?_
        exact g_retP dX2_isStiff_76 rfl (by decide +kernel) (by
    have : stf (xP I) false (f p) = _ := if_neg (by decide)
    rw [this]
    first | (rw [decide_eq_true (Or.inl h53)]; rfl) | (rw [decide_eq_true (Or.inr (Int32.not_le.mp h68))]; rfl) | (rw [decide_eq_false (fun z => z.elim h53 (fun y => absurd h68 (Int32.not_le.mpr y)))]; rfl))
      · refine g_aload_n (i := 0) (r := 11) (t := 57) dX2_isStiff_56 rfl rfl (Or.inl l9_11) rfl ?_
        refine gm_getR (o := 11) (ci := 2) (k := 2) (r := 13) (t := 60) l6_11 l9_11 s_11 gf_X2_15 rfl r_11_2 l9_13 dX2_isStiff_57 rfl ?_
        refine g_iload_n (i := 1) (t := 61) dX2_isStiff_60 rfl rfl rfl ?_
        refine gm_iald_n (a := 13) (n := 16) (t := 62) l6_13 l9_13 s_13 dX2_isStiff_61 (by omega) (by decide) rfl ?_
        refine g_aload_n (i := 0) (r := 11) (t := 63) dX2_isStiff_62 rfl rfl (Or.inl l9_11) rfl ?_
        refine gm_getR (o := 11) (ci := 2) (k := 6) (r := 17) (t := 66) l6_11 l9_11 s_11 gf_X2_27 rfl r_11_6 l9_17 dX2_isStiff_63 rfl ?_
        refine g_iload_n (i := 1) (t := 67) dX2_isStiff_66 rfl rfl rfl ?_
        refine gm_iald_n (a := 17) (n := 16) (t := 68) l6_17 l9_17 s_17 dX2_isStiff_67 (by omega) (by decide) rfl ?_
        rw [h3, h7]
        refine g_icmp_ge (t1 := 75) (t2 := 71) dX2_isStiff_68 (by decide) rfl (fun h68 => ?_) (fun h68 => ?_)
        · refine g_iconst (t := 76) dX2_isStiff_75 c_iconst_0 rfl ?_
          exact g_retP dX2_isStiff_76 rfl (by decide +kernel) (by
    have : stf (xP I) false (f p) = _ := if_neg (by decide)
    rw [this]
    first | (rw [decide_eq_true (Or.inl h53)]; rfl) | (rw [decide_eq_true (Or.inr (Int32.not_le.mp h68))]; rfl) | (rw [decide_eq_false (fun z => z.elim h53 (fun y => absurd h68 (Int32.not_le.mpr y)))]; rfl))
        · refine g_iconst (t := 72) dX2_isStiff_71 c_iconst_1 rfl ?_
          refine g_goto (t := 76) dX2_isStiff_72 (by decide) ?_
          exact g_retP dX2_isStiff_76 rfl (by decide +kernel) (by
    have : stf (xP I) false (f p) = _ := if_neg (by decide)
    rw [this]
    first | (rw [decide_eq_true (Or.inl h53)]; rfl) | (rw [decide_eq_true (Or.inr (Int32.not_le.mp h68))]; rfl) | (rw [decide_eq_false (fun z => z.elim h53 (fun y => absurd h68 (Int32.not_le.mpr y)))]; rfl))
    · exact absurd (by decide) h8
end X2

