/-! FlexRowsModel: the order, the lines -/
/-- the order as the model keeps it -/
def mO (I : Nat → Nat → Int32) (c : Nat) (f : Nat → Nat) : Prop := I 41 9 = nI c ∧ ∀ p, p < c → I 46 p = nI (f p)
section X7I
variable {E : gE} {I : Nat → Nat → Int32} {h : Int64} {s : sS}
theorem x7_or_ins {P : dP} {c k : Nat} {f : Nat → Nat} {I0 : Nat → Nat → Int32} (hc : c < 16) (hk : k < 16) (hf : ∀ p, p < c → f p < 16) (h0 : ∀ p, p < c → I0 46 p = nI (f p)) (hP : ∀ i, i < 16 → (i = k ∨ ∃ p, p < c ∧ f p = i) → I0 42 (11 * i + 6) = P i 6) {K : gK} : ∀ (q : Nat) (I : Nat → Nat → Int32), q ≤ c → gSame [46] I0 I → (∀ p, p < c + 1 → I 46 p = if p < q then nI (f p) else if q < p then nI (f (p - 1)) else I 46 p) → posn (fun i => P i 6) (P k 6) f c = posn (fun i => P i 6) (P k 6) f q →
    (∀ I q, q = posn (fun i => P i 6) (P k 6) f c → gSame [46] I0 I → (∀ p, p < c + 1 → I 46 p = if p < q then nI (f p) else if q < p then nI (f (p - 1)) else I 46 p) → Wp E fX7_orders 62 82 [.ref 41, .int (nI k), .int (nI q)] [] (gM I h) K) →
    Wp E fX7_orders 62 34 [.ref 41, .int (nI k), .int (nI q)] [] (gM I h) K := by
  intro q
  induction q with
  | zero =>
    intro I hq hs hI hp kk
    refine g_iload_n (i := 2) (t := 35) dX7_orders_34 rfl rfl rfl ?_
    refine g_if_le (t1 := 82) (t2 := 38) dX7_orders_35 (by decide) rfl (fun h35 => ?_) (fun h35 => ?_)
    · exact kk I 0 hp.symm hs hI
    · exact absurd (by decide) h35
  | succ q ih =>
    intro I hq hs hI hp kk
    have e1 : I 46 q = nI (f q) := by rw [hI q (by omega), if_pos (by omega)]
    have fq := hf q (by omega)
    rw [posn] at hp
    have r1 : I 42 (11 * f q + 6) = P (f q) 6 := by rw [hs.at 42 rfl]; exact hP _ fq (Or.inr ⟨q, by omega, rfl⟩)
    have r2 : I 42 (11 * k + 6) = P k 6 := by rw [hs.at 42 rfl]; exact hP _ hk (Or.inl rfl)
    refine g_iload_n (i := 2) (t := 35) dX7_orders_34 rfl rfl rfl ?_
    refine g_if_le (t1 := 82) (t2 := 38) dX7_orders_35 (by decide) rfl (fun h35 => ?_) (fun h35 => ?_)
    · exact absurd h35 (nI_le0 (by omega) (by omega))
    · refine g_aload_n (i := 0) (r := 41) (t := 39) dX7_orders_38 rfl rfl (Or.inl l9_41) rfl ?_
      refine g_aload_n (i := 0) (r := 41) (t := 40) dX7_orders_39 rfl rfl (Or.inl l9_41) rfl ?_
      refine gm_getR (o := 41) (ci := 7) (k := 8) (r := 46) (t := 43) l6_41 l9_41 s_41 gf_X7_22 rfl r_41_8 l9_46 dX7_orders_40 rfl ?_
      refine g_iload_n (i := 2) (t := 44) dX7_orders_43 rfl rfl rfl ?_
      refine g_iconst (t := 45) dX7_orders_44 c_iconst_1 rfl ?_
      refine g_isub (t := 46) dX7_orders_45 rfl ?_
      refine g_top (gi_p _) ?_
      refine gm_iald_n (a := 46) (n := 16) (t := 47) l6_46 l9_46 s_46 dX7_orders_46 (by omega) (by decide) rfl ?_
      rw [e1]
      refine g_bipush (t := 49) dX7_orders_47 c_bipush_6 rfl ?_
      refine g_cVp (o := 41) (t := 52) mX7_of k_X7_157 imX7_of seX7_of l6_41 l9_41 s_41 rfl dX7_orders_49 (x7_of (by omega) (by omega)) rfl rfl (by decide) (by decide) (Nat.le_of_ble_eq_true rfl) rfl ?_
      refine g_aload_n (i := 0) (r := 41) (t := 53) dX7_orders_52 rfl rfl (Or.inl l9_41) rfl ?_
      refine g_iload_n (i := 1) (t := 54) dX7_orders_53 rfl rfl rfl ?_
      refine g_bipush (t := 56) dX7_orders_54 c_bipush_6 rfl ?_
      refine g_cVp (o := 41) (t := 59) mX7_of k_X7_157 imX7_of seX7_of l6_41 l9_41 s_41 rfl dX7_orders_56 (x7_of (by omega) (by omega)) rfl rfl (by decide) (by decide) (Nat.le_of_ble_eq_true rfl) rfl ?_
      rw [r1, r2]
      refine g_icmp_le (t1 := 82) (t2 := 62) dX7_orders_59 (by decide) rfl (fun h59 => ?_) (fun h59 => ?_)
      · rw [if_neg (Int32.not_lt.mpr h59)] at hp
        exact kk I (q + 1) hp.symm hs hI
      · rw [if_pos (Int32.not_le.mp h59)] at hp
        refine g_aload_n (i := 0) (r := 41) (t := 63) dX7_orders_62 rfl rfl (Or.inl l9_41) rfl ?_
        refine gm_getR (o := 41) (ci := 7) (k := 8) (r := 46) (t := 66) l6_41 l9_41 s_41 gf_X7_22 rfl r_41_8 l9_46 dX7_orders_63 rfl ?_
        refine g_iload_n (i := 2) (t := 67) dX7_orders_66 rfl rfl rfl ?_
        refine g_aload_n (i := 0) (r := 41) (t := 68) dX7_orders_67 rfl rfl (Or.inl l9_41) rfl ?_
        refine gm_getR (o := 41) (ci := 7) (k := 8) (r := 46) (t := 71) l6_41 l9_41 s_41 gf_X7_22 rfl r_41_8 l9_46 dX7_orders_68 rfl ?_
        refine g_iload_n (i := 2) (t := 72) dX7_orders_71 rfl rfl rfl ?_
        refine g_iconst (t := 73) dX7_orders_72 c_iconst_1 rfl ?_
        refine g_isub (t := 74) dX7_orders_73 rfl ?_
        refine g_top (gi_p _) ?_
        refine gm_iald_n (a := 46) (n := 16) (t := 75) l6_46 l9_46 s_46 dX7_orders_74 (by omega) (by decide) rfl ?_
        rw [e1]
        refine gm_iast_n (a := 46) (n := 16) (t := 76) l6_46 l9_46 s_46 dX7_orders_75 (by omega) (by decide) rfl ?_
        refine g_iinc (i := 2) (t := 79) (L1 := [_, _, _]) dX7_orders_76 rfl (gi_m1 _) (by decide) rfl rfl rfl ?_
        refine g_goto (t := 34) dX7_orders_79 (by decide) ?_
        refine ih _ (by omega) (hs.up rfl) (fun p hp2 => ?_) hp kk
        rw [gup_at]
        by_cases y : p = q + 1
        · subst y
          rw [if_pos rfl, if_neg (by omega), if_pos (by omega)]; rfl
        · rw [if_neg y]
          by_cases z : p < q
          · rw [if_pos z, hI p hp2, if_pos (by omega)]
          · rw [if_neg z]
            by_cases u : q < p
            · rw [if_pos u, hI p hp2, if_neg (by omega), if_pos (by omega)]
            · rw [if_neg u]
theorem x7_or_loop {I0 : Nat → Nat → Int32} (hC : mC I0 s) (hn : s.1 ≤ 16) : ∀ (d k : Nat) (I : Nat → Nat → Int32) (v2 : Value), k + d = s.1 → gSame [41, 46] I0 I → (∀ j, j ≠ 9 → I 41 j = I0 41 j) → mO I (ordS s.2.1 k).1 (ordS s.2.1 k).2 → Wp E fX7_orders 62 7 [.ref 41, .int (nI k), v2] [] (gM I h) (gRet fX7_orders 62 (fun r σ' => ∃ I', r = none ∧ σ' = gM I' h ∧ gSame [41, 46] I0 I' ∧ (∀ j, j ≠ 9 → I' 41 j = I0 41 j) ∧ mO I' (sC s) (sQ s).2.2.2)) := by
  intro d
  induction d with
  | zero =>
    intro k I v2 hk hs hj hO
    have hk : k = s.1 := by omega
    subst hk
    refine g_iload_n (i := 1) (t := 8) dX7_orders_7 rfl rfl rfl ?_
    refine g_aload_n (i := 0) (r := 41) (t := 9) dX7_orders_8 rfl rfl (Or.inl l9_41) rfl ?_
    refine gm_getR (o := 41) (ci := 7) (k := 0) (r := 42) (t := 12) l6_41 l9_41 s_41 gf_X7_7 rfl r_41_0 l9_42 dX7_orders_9 rfl ?_
    refine g_sipush (t := 15) dX7_orders_12 c_sipush_176 rfl ?_
    refine gm_iald_n (a := 42) (n := 184) (t := 16) l6_42 l9_42 s_42 dX7_orders_15 (by omega) (by decide) rfl ?_
    rw [hs.at 42 rfl, hC.1]
    refine g_icmp_ge_n (t1 := 105) (t2 := 19) dX7_orders_16 (by decide) rfl (by omega) (by omega) (fun h16 => ?_) (fun h16 => ?_)
    · exact g_retV dX7_orders_105 rfl (⟨hs, hj, hO⟩)
    · exfalso; omega
  | succ d ih =>
    intro k I v2 hk hs hj hO
    have hle := ordS_le s.2.1 k
    have hlt : ∀ p, p < (ordS s.2.1 k).1 → (ordS s.2.1 k).2 p < 16 := fun p hp => by have := ordS_lt s.2.1 k p hp; omega
    have r10 : I 42 (11 * k + 10) = s.2.1 k 10 := by rw [hs.at 42 rfl]; exact hC.2.1 k 10 (by omega) (by decide)
    obtain ⟨o1, o2⟩ := hO
    have T82 : s.2.1 k 10 = 0 → ∀ J q, q = posn (fun i => s.2.1 i 6) (s.2.1 k 6) (ordS s.2.1 k).2 (ordS s.2.1 k).1 → gSame [46] I J → (∀ p, p < (ordS s.2.1 k).1 + 1 → J 46 p = if p < q then nI ((ordS s.2.1 k).2 p) else if q < p then nI ((ordS s.2.1 k).2 (p - 1)) else J 46 p) → Wp E fX7_orders 62 82 [.ref 41, .int (nI k), .int (nI q)] [] (gM J h) (gRet fX7_orders 62 (fun r σ' => ∃ I', r = none ∧ σ' = gM I' h ∧ gSame [41, 46] I0 I' ∧ (∀ j, j ≠ 9 → I' 41 j = I0 41 j) ∧ mO I' (sC s) (sQ s).2.2.2)) := by
      intro hz J q hq hsJ hI
      have hql := posn_le (fun i => s.2.1 i 6) (s.2.1 k 6) (ordS s.2.1 k).2 (ordS s.2.1 k).1
      rw [← hq] at hql
      have e1 : (ordS s.2.1 (k + 1)) = ((ordS s.2.1 k).1 + 1, insA (ordS s.2.1 k).2 q k) := by rw [ordS, if_pos hz, hq]
      refine g_aload_n (i := 0) (r := 41) (t := 83) dX7_orders_82 rfl rfl (Or.inl l9_41) rfl ?_
      refine gm_getR (o := 41) (ci := 7) (k := 8) (r := 46) (t := 86) l6_41 l9_41 s_41 gf_X7_22 rfl r_41_8 l9_46 dX7_orders_83 rfl ?_
      refine g_iload_n (i := 2) (t := 87) dX7_orders_86 rfl rfl rfl ?_
      refine g_iload_n (i := 1) (t := 88) dX7_orders_87 rfl rfl rfl ?_
      refine gm_iast_n (a := 46) (n := 16) (t := 89) l6_46 l9_46 s_46 dX7_orders_88 (by omega) (by decide) rfl ?_
      refine g_aload_n (i := 0) (r := 41) (t := 90) dX7_orders_89 rfl rfl (Or.inl l9_41) rfl ?_
      refine g_dup (t := 91) dX7_orders_90 rfl rfl ?_
      refine gm_getI (o := 41) (ci := 7) (k := 9) (t := 94) l6_41 l9_41 s_41 gf_X7_176 rfl dX7_orders_91 rfl ?_
      rw [gup_o _ _ _ _ (by decide), hsJ.at 41 rfl, o1]
      refine g_iconst (t := 95) dX7_orders_94 c_iconst_1 rfl ?_
      refine g_iadd (t := 96) dX7_orders_95 rfl ?_
      refine g_top (gi_s _) ?_
      refine gm_putI (o := 41) (ci := 7) (k := 9) (t := 99) l6_41 l9_41 s_41 gp_X7_176 rfl rfl rfl dX7_orders_96 rfl ?_
      refine g_iinc (i := 1) (t := 102) (L1 := [_, _, _]) dX7_orders_99 rfl (gi_1 _) (by decide) rfl rfl rfl ?_
      refine g_goto (t := 7) dX7_orders_102 (by decide) ?_
      refine ih (k + 1) _ _ (by omega) ((((hs.trans (hsJ.wk rfl))).up rfl).up rfl) (fun j a => ?_) ⟨?_, fun p hp => ?_⟩
      · rw [gup_k _ _ _ a, gup_o _ _ _ _ (by decide), hsJ.at 41 rfl]; exact hj j a
      · rw [gup_self, e1]
      · rw [e1] at hp ⊢
        have hp : p < (ordS s.2.1 k).1 + 1 := hp
        rw [gup_o _ _ _ _ (by decide), gup_at]
        show _ = nI (insA (ordS s.2.1 k).2 q k p)
        unfold insA
        by_cases y : p = q
        · subst y
          rw [if_pos rfl, if_neg (Nat.lt_irrefl _), if_pos rfl]
        · rw [if_neg y, hI p hp]
          by_cases z : p < q
          · rw [if_pos z, if_pos z]
          · rw [if_neg z, if_neg z, if_neg y, if_pos (by omega)]
    refine g_iload_n (i := 1) (t := 8) dX7_orders_7 rfl rfl rfl ?_
    refine g_aload_n (i := 0) (r := 41) (t := 9) dX7_orders_8 rfl rfl (Or.inl l9_41) rfl ?_
    refine gm_getR (o := 41) (ci := 7) (k := 0) (r := 42) (t := 12) l6_41 l9_41 s_41 gf_X7_7 rfl r_41_0 l9_42 dX7_orders_9 rfl ?_
    refine g_sipush (t := 15) dX7_orders_12 c_sipush_176 rfl ?_
    refine gm_iald_n (a := 42) (n := 184) (t := 16) l6_42 l9_42 s_42 dX7_orders_15 (by omega) (by decide) rfl ?_
    rw [hs.at 42 rfl, hC.1]
    refine g_icmp_ge_n (t1 := 105) (t2 := 19) dX7_orders_16 (by decide) rfl (by omega) (by omega) (fun h16 => ?_) (fun h16 => ?_)
    · exfalso; omega
    · refine g_aload_n (i := 0) (r := 41) (t := 20) dX7_orders_19 rfl rfl (Or.inl l9_41) rfl ?_
      refine g_iload_n (i := 1) (t := 21) dX7_orders_20 rfl rfl rfl ?_
      refine g_bipush (t := 23) dX7_orders_21 c_bipush_10 rfl ?_
      refine g_cVp (o := 41) (t := 26) mX7_of k_X7_157 imX7_of seX7_of l6_41 l9_41 s_41 rfl dX7_orders_23 (x7_of (by omega) (by omega)) rfl rfl (by decide) (by decide) (Nat.le_of_ble_eq_true rfl) rfl ?_
      rw [r10]
      refine g_if_ne (t1 := 99) (t2 := 29) dX7_orders_26 (by decide) rfl (fun h26 => ?_) (fun h26 => ?_)
      · have e : ordS s.2.1 (k + 1) = ordS s.2.1 k := by rw [ordS, if_neg h26]
        refine g_iinc (i := 1) (t := 102) (L1 := [_, _, _]) dX7_orders_99 rfl (gi_1 _) (by decide) rfl rfl rfl ?_
        refine g_goto (t := 7) dX7_orders_102 (by decide) ?_
        refine ih (k + 1) I v2 (by omega) hs hj ?_
        rw [e]
        exact ⟨o1, o2⟩
      · refine g_aload_n (i := 0) (r := 41) (t := 30) dX7_orders_29 rfl rfl (Or.inl l9_41) rfl ?_
        refine gm_getI (o := 41) (ci := 7) (k := 9) (t := 33) l6_41 l9_41 s_41 gf_X7_176 rfl dX7_orders_30 rfl ?_
        rw [o1]
        refine g_istore_n (i := 2) (t := 34) (L1 := [_, _, _]) dX7_orders_33 rfl (by decide) rfl rfl rfl ?_
        refine x7_or_ins (P := s.2.1) (I0 := I) (by omega) (by omega) hlt o2 (fun i hi hz => ?_) (ordS s.2.1 k).1 I (Nat.le_refl _) gSame.rf (fun p hp => ?_) rfl (T82 h26)
        · rw [hs.at 42 rfl]
          refine hC.2.1 i 6 ?_ (by decide)
          rcases hz with rfl | ⟨p, p1, rfl⟩
          · omega
          · have := ordS_lt s.2.1 k p p1; omega
        · by_cases y : p < (ordS s.2.1 k).1
          · rw [if_pos y]; exact o2 p y
          · rw [if_neg y, if_neg (by omega)]
theorem x7_orders (hC : mC I s) (hn : s.1 ≤ 16) : gQV E fX7_orders [.ref 41] I h (fun I' => gSame [41, 46] I I' ∧ (∀ j, j ≠ 9 → I' 41 j = I 41 j) ∧ mO I' (sC s) (sQ s).2.2.2) := by
  refine gEv.of rfl (Nat.le_refl _) (Nat.le_of_ble_eq_true rfl) (L := [.ref 41, .null, .null]) rfl ?_
  refine g_aload_n (i := 0) (r := 41) (t := 1) dX7_orders_0 rfl rfl (Or.inl l9_41) rfl ?_
  refine g_iconst (t := 2) dX7_orders_1 c_iconst_0 rfl ?_
  refine gm_putI (o := 41) (ci := 7) (k := 9) (t := 5) l6_41 l9_41 s_41 gp_X7_176 rfl rfl rfl dX7_orders_2 rfl ?_
  refine g_iconst (t := 6) dX7_orders_5 c_iconst_0 rfl ?_
  refine g_istore_n (i := 1) (t := 7) (L1 := [_, _, _]) dX7_orders_6 rfl (by decide) rfl rfl rfl ?_
  exact x7_or_loop hC hn s.1 0 _ _ (Nat.zero_add _) ((gSame.rf (cs := [41, 46])).up rfl) (fun j a => gup_k _ _ _ a) ⟨gup_self _ _ _ _, fun p hp => absurd hp (Nat.not_lt_zero _)⟩
theorem x7_po_loop {c k : Nat} {f : Nat → Nat} (hO : mO I c f) (hc : c ≤ 16) (hf : ∀ p, p < c → f p < 16) (hk : k < 16) : ∀ (d p : Nat), p + d = c → Wp E fX7_placeOf 62 2 [.ref 41, .int (nI k), .int (nI p)] [] (gM I h) (gRet fX7_placeOf 62 (fun r σ' => r = some (.int (plcS f k d p)) ∧ σ' = gM I h)) := by
  intro d
  induction d with
  | zero =>
    intro p hp
    refine g_iload_n (i := 2) (t := 3) dX7_placeOf_2 rfl rfl rfl ?_
    refine g_aload_n (i := 0) (r := 41) (t := 4) dX7_placeOf_3 rfl rfl (Or.inl l9_41) rfl ?_
    refine gm_getI (o := 41) (ci := 7) (k := 9) (t := 7) l6_41 l9_41 s_41 gf_X7_176 rfl dX7_placeOf_4 rfl ?_
    rw [hO.1]
    refine g_icmp_ge_n (t1 := 28) (t2 := 10) dX7_placeOf_7 (by decide) rfl (by omega) (by omega) (fun h7 => ?_) (fun h7 => ?_)
    · refine g_sipush (t := 31) dX7_placeOf_28 c_sipush_m1001 rfl ?_
      exact g_retP dX7_placeOf_31 rfl rfl (rfl)
    · exfalso; omega
  | succ d ih =>
    intro p hp
    have fp := hf p (by omega)
    refine g_iload_n (i := 2) (t := 3) dX7_placeOf_2 rfl rfl rfl ?_
    refine g_aload_n (i := 0) (r := 41) (t := 4) dX7_placeOf_3 rfl rfl (Or.inl l9_41) rfl ?_
    refine gm_getI (o := 41) (ci := 7) (k := 9) (t := 7) l6_41 l9_41 s_41 gf_X7_176 rfl dX7_placeOf_4 rfl ?_
    rw [hO.1]
    refine g_icmp_ge_n (t1 := 28) (t2 := 10) dX7_placeOf_7 (by decide) rfl (by omega) (by omega) (fun h7 => ?_) (fun h7 => ?_)
    · exfalso; omega
    · refine g_aload_n (i := 0) (r := 41) (t := 11) dX7_placeOf_10 rfl rfl (Or.inl l9_41) rfl ?_
      refine gm_getR (o := 41) (ci := 7) (k := 8) (r := 46) (t := 14) l6_41 l9_41 s_41 gf_X7_22 rfl r_41_8 l9_46 dX7_placeOf_11 rfl ?_
      refine g_iload_n (i := 2) (t := 15) dX7_placeOf_14 rfl rfl rfl ?_
      refine gm_iald_n (a := 46) (n := 16) (t := 16) l6_46 l9_46 s_46 dX7_placeOf_15 (by omega) (by decide) rfl ?_
      rw [hO.2 p (by omega)]
      refine g_iload_n (i := 1) (t := 17) dX7_placeOf_16 rfl rfl rfl ?_
      refine g_icmp_ne_n (t1 := 22) (t2 := 20) dX7_placeOf_17 (by decide) rfl (by omega) (by omega) (fun h17 => ?_) (fun h17 => ?_)
      · refine g_iinc (i := 2) (t := 25) (L1 := [_, _, _]) dX7_placeOf_22 rfl (gi_1 _) (by decide) rfl rfl rfl ?_
        refine g_goto (t := 2) dX7_placeOf_25 (by decide) ?_
        have := ih (p + 1) (by omega)
        rw [plcS, if_neg h17]
        exact this
      · refine g_iload_n (i := 2) (t := 21) dX7_placeOf_20 rfl rfl rfl ?_
        exact g_retP dX7_placeOf_21 rfl rfl (by rw [plcS, if_pos h17])
theorem x7_placeOf {c k : Nat} {f : Nat → Nat} (hO : mO I c f) (hc : c ≤ 16) (hf : ∀ p, p < c → f p < 16) (hk : k < 16) : gPI E fX7_placeOf [.ref 41, .int (nI k)] I h (plcS f k c 0) := by
  refine gEv.of rfl (Nat.le_refl _) (Nat.le_of_ble_eq_true rfl) (L := [.ref 41, .int (nI k), .null]) rfl ?_
  refine g_iconst (t := 1) dX7_placeOf_0 c_iconst_0 rfl ?_
  refine g_istore_n (i := 2) (t := 2) (L1 := [_, _, _]) dX7_placeOf_1 rfl (by decide) rfl rfl rfl ?_
  exact x7_po_loop hO hc hf hk c 0 (Nat.zero_add _)
theorem x7_outerWish {c p : Nat} {f : Nat → Nat} (hC : mC I s) (hn : s.1 ≤ 16) (hO : mO I c f) (hc : c ≤ 16) (hp : p < c) (hf : f p < s.1) : gPI E fX7_outerWish [.ref 41, .int (nI p)] I h (out s.2.1 (f p)) := by
  refine gEv.of rfl (Nat.le_refl _) (Nat.le_of_ble_eq_true rfl) (L := [.ref 41, .int (nI p)]) rfl ?_
  have e := hO.2 p hp
  refine g_aload_n (i := 0) (r := 41) (t := 1) dX7_outerWish_0 rfl rfl (Or.inl l9_41) rfl ?_
  refine g_aload_n (i := 0) (r := 41) (t := 2) dX7_outerWish_1 rfl rfl (Or.inl l9_41) rfl ?_
  refine gm_getR (o := 41) (ci := 7) (k := 8) (r := 46) (t := 5) l6_41 l9_41 s_41 gf_X7_22 rfl r_41_8 l9_46 dX7_outerWish_2 rfl ?_
  refine g_iload_n (i := 1) (t := 6) dX7_outerWish_5 rfl rfl rfl ?_
  refine gm_iald_n (a := 46) (n := 16) (t := 7) l6_46 l9_46 s_46 dX7_outerWish_6 (by omega) (by decide) rfl ?_
  rw [e]
  refine g_cVp (o := 41) (t := 10) mX7_wish k_X7_179 imX7_wish seX7_wish l6_41 l9_41 s_41 rfl dX7_outerWish_7 (x7_wish hC hn hf) rfl rfl (by decide) (by decide) (Nat.le_of_ble_eq_true rfl) rfl ?_
  refine g_iconst (t := 11) dX7_outerWish_10 c_iconst_2 rfl ?_
  refine g_aload_n (i := 0) (r := 41) (t := 12) dX7_outerWish_11 rfl rfl (Or.inl l9_41) rfl ?_
  refine g_aload_n (i := 0) (r := 41) (t := 13) dX7_outerWish_12 rfl rfl (Or.inl l9_41) rfl ?_
  refine gm_getR (o := 41) (ci := 7) (k := 8) (r := 46) (t := 16) l6_41 l9_41 s_41 gf_X7_22 rfl r_41_8 l9_46 dX7_outerWish_13 rfl ?_
  refine g_iload_n (i := 1) (t := 17) dX7_outerWish_16 rfl rfl rfl ?_
  refine gm_iald_n (a := 46) (n := 16) (t := 18) l6_46 l9_46 s_46 dX7_outerWish_17 (by omega) (by decide) rfl ?_
  rw [e]
  refine g_iconst (t := 19) dX7_outerWish_18 c_iconst_5 rfl ?_
  refine g_cVp (o := 41) (t := 22) mX7_of k_X7_157 imX7_of seX7_of l6_41 l9_41 s_41 rfl dX7_outerWish_19 (x7_of (by omega) (by omega)) rfl rfl (by decide) (by decide) (Nat.le_of_ble_eq_true rfl) rfl ?_
  refine g_imul (t := 23) dX7_outerWish_22 rfl ?_
  refine g_iadd (t := 24) dX7_outerWish_23 rfl ?_
  exact g_retP dX7_outerWish_24 rfl rfl (by rw [hC.2.1 _ 5 hf (by decide)]; rfl)
end X7I

