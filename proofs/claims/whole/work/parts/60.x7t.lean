/-! FlexRowsModel: what lies at a point; the least width -/
section BND2
variable {A : lA} {s : sS}
theorem alN_eq (A : lA) : ∀ k, alN A k = smS (fun p => szA A p + nI 2 * A.1.1 (A.1.2.2.2 p) 5 + A.1.2.1 1) A.2.1 k
  | 0 => rfl
  | k + 1 => by rw [alN, smS, alN_eq A k]
theorem sz_b (hV : aV A) {p : Nat} (p1 : A.2.1 ≤ p) (p2 : p < A.2.1 + A.2.2) : bnd (szA A p) 0 400 := zV_t hV _ p p1 p2
theorem mg_b (hV : aV A) {p : Nat} (p1 : A.2.1 ≤ p) (p2 : p < A.2.1 + A.2.2) : bnd (nI 2 * A.1.1 (A.1.2.2.2 p) 5) 0 40 := (b_mul (b_nI (n := 2) (a := 0) (b := 2) (by decide) (by decide) (by decide)) (hV.2.1 p p1 p2 5 (by decide)) (by decide)).1
theorem al_b (hV : aV A) {k : Nat} (hk : k ≤ A.2.2) : bnd (alN A k) 0 7680 := by
  have h1 := hV.1
  rw [alN_eq]
  exact b_wk (smS_b16 (a := 0) (b := 480) (by decide) (by decide) (by decide) (by decide) (by omega) (fun p p1 p2 => b_wk (b_add (b_add (sz_b hV p1 (by omega)) (mg_b hV p1 (by omega)) (by decide) (by decide)) (hV.2.2.1 1 (by decide)) (by decide) (by decide)) (by decide) (by decide))) (by decide) (by decide)
theorem dv_b {a m d : Nat} (ha : a ≤ 999) (hm : m ≤ d) (hd : 0 < d) (hd2 : d ≤ 40) : bnd (fdv (nI a * nI m) (nI d)) 0 999 := by
  have hp : a * m ≤ 999 * 40 := Nat.mul_le_mul ha (by omega)
  rw [pk_mul, fdv_nat (by omega) hd (by omega)]
  have hq : a * m / d ≤ a := by
    apply Nat.div_le_of_le_mul
    rw [Nat.mul_comm d a]
    exact Nat.mul_le_mul_left a hm
  generalize a * m / d = q at hq
  exact b_nI (by omega) (by omega) (by omega)
theorem sf_b (hV : aV A) {k : Nat} (hk : k < A.2.2) : bnd (shfS (A.1.2.1 4) (reL A) k A.2.2) (-8000) 1000 := by
  have hr := re_b hV
  have h1 := hV.1
  have z0 : bnd (nI 0) (-8000) 1000 := b_nI (by decide) (by decide) (by decide)
  unfold shfS
  generalize hv : wayV (A.1.2.1 4) (reL A) A.2.2 = v
  have h3 : v = nI 3 ∨ v = nI 4 ∨ v = nI 5 → 0 ≤ (reL A).toInt ∧ 2 ≤ A.2.2 := by
    intro q
    unfold wayV at hv
    split at hv
    · split at hv
      · subst hv; rcases q with q | q | q <;> exact absurd q (by decide)
      · subst hv; rcases q with q | q | q <;> exact absurd q (by decide)
    · rename_i y
      have y3 : nI 3 ≤ A.1.2.1 4 := by rw [hv]; rcases q with q | q | q <;> (rw [q]; decide)
      have y4 : ¬ (reL A < 0 ∨ A.2.2 ≤ 1) := fun z => y ⟨y3, z⟩
      refine ⟨?_, by omega⟩
      apply Classical.byContradiction
      intro z
      exact y4 (Or.inl (t_lt.mpr (by rw [show (0 : Int32).toInt = 0 by decide +kernel]; omega)))
  unfold shfW
  split
  · exact b_wk hr (by decide) (by decide)
  · split
    · exact (down2 (b_wk hr (by decide) (by decide))).2
    · split
      · rename_i y
        obtain ⟨g1, g2⟩ := h3 (Or.inl y)
        obtain ⟨a, ha, ha2⟩ := of_b5 (b := 999) ⟨g1, hr.2⟩ (by decide)
        rw [ha2]
        exact b_wk (dv_b (by omega) (by omega) (by omega) (by omega)) (by decide) (by decide)
      · split
        · rename_i y
          obtain ⟨g1, g2⟩ := h3 (Or.inr (Or.inl y))
          obtain ⟨a, ha, ha2⟩ := of_b5 (b := 999) ⟨g1, hr.2⟩ (by decide)
          rw [ha2]
          exact b_wk (dv_b (by omega) (by omega) (by omega) (by omega)) (by decide) (by decide)
        · split
          · rename_i y
            obtain ⟨g1, g2⟩ := h3 (Or.inr (Or.inr y))
            obtain ⟨a, ha, ha2⟩ := of_b5 (b := 999) ⟨g1, hr.2⟩ (by decide)
            rw [ha2]
            exact b_wk (dv_b (by omega) (by omega) (by omega) (by omega)) (by decide) (by decide)
          · exact z0
theorem lf_b (hV : aV A) {p : Nat} (p1 : A.2.1 ≤ p) (p2 : p < A.2.1 + A.2.2) : bnd (lfA A p) (-20000) 20000 := by
  have hx : bnd (xA A (p - A.2.1)) (-8000) 8700 := by
    unfold xA
    exact b_wk (b_add (b_add (al_b hV (by omega)) (hV.2.1 _ (Nat.le_add_right _ _) (by omega) 5 (by decide)) (by decide) (by decide)) (sf_b hV (by omega)) (by decide) (by decide)) (by decide) (by decide)
  unfold lfA
  split
  · exact b_wk (b_sub (b_sub hV.2.2.2 hx (by decide) (by decide)) (sz_b hV p1 p2) (by decide) (by decide)) (by decide) (by decide)
  · exact b_wk hx (by decide) (by decide)
theorem lo_b (hV : aV A) (hn : 1 ≤ A.2.2) {p : Nat} (p1 : A.2.1 ≤ p) (p2 : p < A.2.1 + A.2.2) : bnd (loA A p) (-1000) 1000 := by
  have r := hV.2.1 p p1 p2
  obtain ⟨-, lh2, lh3⟩ := lh_m hV hn
  have g := (gt_b7 hV A.2.2 (Nat.le_refl _)).2 (p - A.2.1) (by omega)
  rw [Nat.add_sub_cancel' p1] at g
  have sp : bnd (lhA A - A.1.1 (A.1.2.2.2 p) 7) (-100) 150 := b_wk (b_sub lh2 (r 7 (by decide)) (by decide) (by decide)) (by decide) (by decide)
  unfold loA loW
  split
  · exact b_wk sp (by decide) (by decide)
  · split
    · have sp2 : bnd (lhA A - A.1.1 (A.1.2.2.2 p) 7) 0 150 := by
        have h71 : 1 ≤ (A.1.1 (A.1.2.2.2 p) 7).toInt := (r 7 (by decide)).1
        have h72 : (A.1.1 (A.1.2.2.2 p) 7).toInt ≤ 100 := (r 7 (by decide)).2
        have l1 := lh2.1
        have l2 := lh2.2
        unfold bnd
        rw [t_sub (by omega) (by omega)]
        omega
      obtain ⟨a, ha, ha2⟩ := of_b5 sp2 (by decide)
      rw [ha2, fdv_nat (by omega) (by decide) (by decide)]
      exact b_nI (by omega) (by omega) (by omega)
    · split
      · have av := abv_b r
        have ab : bnd (abA A A.2.2) (-49) 100 := by
          rcases abM_rel hV A.2.2 (Nat.le_refl _) with ⟨-, a2, -, -⟩ | ⟨-, a2, -⟩
          · rw [a2]; exact ⟨by decide +kernel, by decide +kernel⟩
          · exact a2
        exact b_wk (b_sub ab av (by decide) (by decide)) (by decide) (by decide)
      · exact b_nI (by decide) (by decide) (by decide)
theorem lt_b (hV : vS s) {w : Int32} (hw : bnd w 20 999) : ∀ l, l ≤ nln (sW s w) (sC s) → bnd (ltQ (sW s w) (sC s) l) 0 ((l : Int) * 190)
  | 0, _ => b_nI (by decide) (by decide) (by decide)
  | l + 1, hl => by
    have ih := lt_b hV hw l (by omega)
    have hnl := nln_le (sW s w) (sC s)
    have hc := sC_le hV.1
    obtain ⟨hhi, h1⟩ := lnA_hi (sW s w) (sC s) (show l < nln (sW s w) (sC s) by omega)
    obtain ⟨-, lh2, -⟩ := lh_m (aV_of (l := l) hV hw) h1
    have hb := hV.2.2 2 (by decide)
    have := b_add (b_add ih lh2 (by decide) (by omega)) hb (by decide) (by show (l : Int) * 190 + 150 + 40 < _; omega)
    exact b_wk this (by decide) (by show (l : Int) * 190 + 150 + 40 ≤ ((l + 1 : Nat) : Int) * 190; omega)
/-- the item's right and lower edges are no limits of int -/
theorem en_b (hV : vS s) {p : Nat} (hp : p < sC s) : bnd (enV s p) (-30000) 30000 ∧ bnd (tpQ (sQ s) (sC s) p + s.2.1 ((sQ s).2.2.2 p) 7) (-30000) 30000 := by
  have hc := sC_le hV.1
  have hlt := lin_lt (sQ s) hp
  have hnl := nln_le (sQ s) (sC s)
  have hA : aV (lnA (sQ s) (sC s) (lin (sQ s) p)) := aV_of (l := lin (sQ s) p) hV hV.b0
  obtain ⟨hhi, h1⟩ := lnA_hi (sQ s) (sC s) hlt
  obtain ⟨y1, y2⟩ := (frC_lin (sQ s) (c := sC s) hp).mp rfl
  have y3 : p < (lnA (sQ s) (sC s) (lin (sQ s) p)).2.1 + (lnA (sQ s) (sC s) (lin (sQ s) p)).2.2 := by rw [hhi]; exact y2
  have lt := lt_b hV hV.b0 (lin (sQ s) p) (Nat.le_of_lt hlt)
  constructor
  · exact b_wk (b_add (lf_b hA y1 y3) (sz_b hA y1 y3) (by decide) (by decide)) (by decide) (by decide)
  · have lt2 : bnd (ltQ (sQ s) (sC s) (lin (sQ s) p)) 0 3040 := b_wk lt (by decide) (by omega)
    exact b_wk (b_add (b_add lt2 (lo_b hA h1 y1 y3) (by decide) (by decide)) (hV.2.1 _ 7 (sQ_le hV.1 hp) (by decide)) (by decide) (by decide)) (by decide) (by decide)
theorem le_m1 {x e : Int32} (he : bnd e (-30000) 30000) : x ≤ e - nI 1 ↔ x < e := by
  have h1 : (nI 1).toInt = 1 := by decide +kernel
  obtain ⟨e1, e2⟩ := he
  rw [t_le, t_lt, t_sub (by omega) (by omega), h1]
  omega
end BND2
section X7T
variable {E : gE} {I : Nat → Nat → Int32} {h : Int64} {S : sT} {s : sS}
theorem x7_at_loop {x y : Int32} (hV : vS s) (hC : mC I s) (hD : dM I s (s.2.2 0)) : ∀ (d k : Nat) (v5 : Value), k + d = sC s → Wp E fX7_at 62 47 [.ref 41, .int x, .int y, .int (atV s x y k), .int (nI k), v5] [] (gM I h) (gRet fX7_at 62 (fun r σ' => r = some (.int (atV s x y (sC s))) ∧ σ' = gM I h)) := by
  have hn := hV.1
  have hc := sC_le hn
  have ⟨hO, hL, hDD⟩ := hD
  intro d
  induction d with
  | zero =>
    intro k v5 hk
    have hk : k = sC s := by omega
    subst hk
    refine g_iload (i := 4) (t := 49) dX7_at_47 rfl rfl ?_
    refine g_aload_n (i := 0) (r := 41) (t := 50) dX7_at_49 rfl rfl (Or.inl l9_41) rfl ?_
    refine gm_getI (o := 41) (ci := 7) (k := 9) (t := 53) l6_41 l9_41 s_41 gf_X7_176 rfl dX7_at_50 rfl ?_
    rw [hO.1]
    refine g_icmp_ge_n (t1 := 154) (t2 := 56) dX7_at_53 (by decide) rfl (by omega) (by omega) (fun h53 => ?_) (fun h53 => ?_)
    · refine g_iload_n (i := 3) (t := 155) dX7_at_154 rfl rfl rfl ?_
      exact g_retP dX7_at_155 rfl rfl (rfl)
    · exfalso; omega
  | succ d ih =>
    intro k v5 hk
    have hlt := lin_lt (sW s (s.2.2 0)) (c := sC s) (p := k) (by omega)
    obtain ⟨d1, d2, d3, d4⟩ := hDD.2 k (by omega) hlt
    have een : I 58 k + I 50 k = enV s k := by rw [d1, d3]; rfl
    have x1 := hO.2 k (by omega)
    have x2 := sQ_le (p := k) hn (by omega)
    have e7 : I 42 (11 * (sQ s).2.2.2 k + 7) = s.2.1 ((sQ s).2.2.2 k) 7 := hC.2.1 _ 7 x2 (by decide)
    obtain ⟨q1, q2⟩ := en_b hV (p := k) (by omega)
    have w1 := le_m1 (x := x) q1
    have w2 := le_m1 (x := y) q2
    have cX : inI x (I 58 k) (enV s k - nI 1) = true ↔ (lfQ (sQ s) (sC s) k ≤ x ∧ x < enV s k) := by
      rw [inI, decide_eq_true_iff, d3, w1]
      exact Iff.rfl
    have cY : inI y (I 59 k) (I 59 k + s.2.1 ((sQ s).2.2.2 k) 7 - nI 1) = true ↔ (tpQ (sQ s) (sC s) k ≤ y ∧ y < tpQ (sQ s) (sC s) k + s.2.1 ((sQ s).2.2.2 k) 7) := by
      rw [inI, decide_eq_true_iff, d4]
      exact and_congr Iff.rfl w2
    have T147 : ∀ (v : Int32) (v5 : Value), v = atV s x y (k + 1) → Wp E fX7_at 62 147 [.ref 41, .int x, .int y, .int (atV s x y k), .int (nI k), v5] [.int v] (gM I h) (gRet fX7_at 62 (fun r σ' => r = some (.int (atV s x y (sC s))) ∧ σ' = gM I h)) := by
      intro v v5 hv
      rw [hv]
      refine g_istore_n (i := 3) (t := 148) (L1 := [_, _, _, _, _, _]) dX7_at_147 rfl (by decide) rfl rfl rfl ?_
      refine g_iinc (i := 4) (t := 151) (L1 := [_, _, _, _, _, _]) dX7_at_148 rfl (gi_1 _) (by decide) rfl rfl rfl ?_
      refine g_goto (t := 47) dX7_at_151 (by decide) ?_
      exact ih (k + 1) _ (by omega)
    have T129 : ∀ b : Bool, b = coV s x y k → Wp E fX7_at 62 129 [.ref 41, .int x, .int y, .int (atV s x y k), .int (nI k), v5] [.int (bI b)] (gM I h) (gRet fX7_at 62 (fun r σ' => r = some (.int (atV s x y (sC s))) ∧ σ' = gM I h)) := by
      intro b hb
      have ea : atV s x y (k + 1) = if b then nI ((sQ s).2.2.2 k) else atV s x y k := by rw [hb]; rfl
      refine g_istore (i := 5) (t := 131) (L1 := [_, _, _, _, _, _]) dX7_at_129 (by decide) rfl rfl rfl ?_
      refine g_iload (i := 5) (t := 133) dX7_at_131 rfl rfl ?_
      refine g_if_eq (t1 := 146) (t2 := 136) dX7_at_133 (by decide) rfl (fun h133 => ?_) (fun h133 => ?_)
      · refine g_iload_n (i := 3) (t := 147) dX7_at_146 rfl rfl rfl ?_
        first
        | exact T147 _ _ (by rw [ea, if_neg (by rw [bI_0 h133]; decide)])
        | exact T147 _ _ (by rw [ea, if_pos (bI_n0 h133)])
      · refine g_aload_n (i := 0) (r := 41) (t := 137) dX7_at_136 rfl rfl (Or.inl l9_41) rfl ?_
        refine gm_getR (o := 41) (ci := 7) (k := 8) (r := 46) (t := 140) l6_41 l9_41 s_41 gf_X7_22 rfl r_41_8 l9_46 dX7_at_137 rfl ?_
        refine g_iload (i := 4) (t := 142) dX7_at_140 rfl rfl ?_
        refine gm_iald_n (a := 46) (n := 16) (t := 143) l6_46 l9_46 s_46 dX7_at_142 (by omega) (by decide) rfl ?_
        rw [x1]
        refine g_goto (t := 147) dX7_at_143 (by decide) ?_
        first
        | exact T147 _ _ (by rw [ea, if_neg (by rw [bI_0 h133]; decide)])
        | exact T147 _ _ (by rw [ea, if_pos (bI_n0 h133)])
    refine g_iload (i := 4) (t := 49) dX7_at_47 rfl rfl ?_
    refine g_aload_n (i := 0) (r := 41) (t := 50) dX7_at_49 rfl rfl (Or.inl l9_41) rfl ?_
    refine gm_getI (o := 41) (ci := 7) (k := 9) (t := 53) l6_41 l9_41 s_41 gf_X7_176 rfl dX7_at_50 rfl ?_
    rw [hO.1]
    refine g_icmp_ge_n (t1 := 154) (t2 := 56) dX7_at_53 (by decide) rfl (by omega) (by omega) (fun h53 => ?_) (fun h53 => ?_)
    · exfalso; omega
    · refine g_iload_n (i := 1) (t := 57) dX7_at_56 rfl rfl rfl ?_
      refine g_aload_n (i := 0) (r := 41) (t := 58) dX7_at_57 rfl rfl (Or.inl l9_41) rfl ?_
      refine gm_getR (o := 41) (ci := 7) (k := 22) (r := 58) (t := 61) l6_41 l9_41 s_41 gf_X7_59 rfl r_41_22 l9_58 dX7_at_58 rfl ?_
      refine g_iload (i := 4) (t := 63) dX7_at_61 rfl rfl ?_
      refine gm_iald_n (a := 58) (n := 16) (t := 64) l6_58 l9_58 s_58 dX7_at_63 (by omega) (by decide) rfl ?_
      refine g_aload_n (i := 0) (r := 41) (t := 65) dX7_at_64 rfl rfl (Or.inl l9_41) rfl ?_
      refine gm_getR (o := 41) (ci := 7) (k := 22) (r := 58) (t := 68) l6_41 l9_41 s_41 gf_X7_59 rfl r_41_22 l9_58 dX7_at_65 rfl ?_
      refine g_iload (i := 4) (t := 70) dX7_at_68 rfl rfl ?_
      refine gm_iald_n (a := 58) (n := 16) (t := 71) l6_58 l9_58 s_58 dX7_at_70 (by omega) (by decide) rfl ?_
      refine g_aload_n (i := 0) (r := 41) (t := 72) dX7_at_71 rfl rfl (Or.inl l9_41) rfl ?_
      refine gm_getR (o := 41) (ci := 7) (k := 14) (r := 50) (t := 75) l6_41 l9_41 s_41 gf_X7_34 rfl r_41_14 l9_50 dX7_at_72 rfl ?_
      refine g_iload (i := 4) (t := 77) dX7_at_75 rfl rfl ?_
      refine gm_iald_n (a := 50) (n := 16) (t := 78) l6_50 l9_50 s_50 dX7_at_77 (by omega) (by decide) rfl ?_
      refine g_iadd (t := 79) dX7_at_78 rfl ?_
      refine g_top een ?_
      refine g_iconst (t := 80) dX7_at_79 c_iconst_1 rfl ?_
      refine g_isub (t := 81) dX7_at_80 rfl ?_
      refine g_cSp (t := 84) mX7_in k_X7_75 smX7_in dX7_at_81 (x7_in) rfl rfl (by decide) (by decide) (Nat.le_of_ble_eq_true rfl) rfl ?_
      refine g_if_eq (t1 := 128) (t2 := 87) dX7_at_84 (by decide) rfl (fun h84 => ?_) (fun h84 => ?_)
      · refine g_iconst (t := 129) dX7_at_128 c_iconst_0 rfl ?_
        first
        | exact T129 true (decide_eq_true ⟨cX.mp (bI_n0 h84), cY.mp (bI_n0 h121)⟩).symm
        | exact T129 false (decide_eq_false (fun u => by rw [cX.mpr u.1] at h84; exact absurd h84 (by decide))).symm
        | exact T129 false (decide_eq_false (fun u => by rw [cY.mpr u.2] at h121; exact absurd h121 (by decide))).symm
      · refine g_iload_n (i := 2) (t := 88) dX7_at_87 rfl rfl rfl ?_
        refine g_aload_n (i := 0) (r := 41) (t := 89) dX7_at_88 rfl rfl (Or.inl l9_41) rfl ?_
        refine gm_getR (o := 41) (ci := 7) (k := 23) (r := 59) (t := 92) l6_41 l9_41 s_41 gf_X7_62 rfl r_41_23 l9_59 dX7_at_89 rfl ?_
        refine g_iload (i := 4) (t := 94) dX7_at_92 rfl rfl ?_
        refine gm_iald_n (a := 59) (n := 16) (t := 95) l6_59 l9_59 s_59 dX7_at_94 (by omega) (by decide) rfl ?_
        refine g_aload_n (i := 0) (r := 41) (t := 96) dX7_at_95 rfl rfl (Or.inl l9_41) rfl ?_
        refine gm_getR (o := 41) (ci := 7) (k := 23) (r := 59) (t := 99) l6_41 l9_41 s_41 gf_X7_62 rfl r_41_23 l9_59 dX7_at_96 rfl ?_
        refine g_iload (i := 4) (t := 101) dX7_at_99 rfl rfl ?_
        refine gm_iald_n (a := 59) (n := 16) (t := 102) l6_59 l9_59 s_59 dX7_at_101 (by omega) (by decide) rfl ?_
        refine g_aload_n (i := 0) (r := 41) (t := 103) dX7_at_102 rfl rfl (Or.inl l9_41) rfl ?_
        refine g_aload_n (i := 0) (r := 41) (t := 104) dX7_at_103 rfl rfl (Or.inl l9_41) rfl ?_
        refine gm_getR (o := 41) (ci := 7) (k := 8) (r := 46) (t := 107) l6_41 l9_41 s_41 gf_X7_22 rfl r_41_8 l9_46 dX7_at_104 rfl ?_
        refine g_iload (i := 4) (t := 109) dX7_at_107 rfl rfl ?_
        refine gm_iald_n (a := 46) (n := 16) (t := 110) l6_46 l9_46 s_46 dX7_at_109 (by omega) (by decide) rfl ?_
        rw [x1]
        refine g_bipush (t := 112) dX7_at_110 c_bipush_7 rfl ?_
        refine g_cVp (o := 41) (t := 115) mX7_of k_X7_157 imX7_of seX7_of l6_41 l9_41 s_41 rfl dX7_at_112 (x7_of (by omega) (by omega)) rfl rfl (by decide) (by decide) (Nat.le_of_ble_eq_true rfl) rfl ?_
        rw [e7]
        refine g_iadd (t := 116) dX7_at_115 rfl ?_
        refine g_iconst (t := 117) dX7_at_116 c_iconst_1 rfl ?_
        refine g_isub (t := 118) dX7_at_117 rfl ?_
        refine g_cSp (t := 121) mX7_in k_X7_75 smX7_in dX7_at_118 (x7_in) rfl rfl (by decide) (by decide) (Nat.le_of_ble_eq_true rfl) rfl ?_
        refine g_if_eq (t1 := 128) (t2 := 124) dX7_at_121 (by decide) rfl (fun h121 => ?_) (fun h121 => ?_)
        · refine g_iconst (t := 129) dX7_at_128 c_iconst_0 rfl ?_
          first
          | exact T129 true (decide_eq_true ⟨cX.mp (bI_n0 h84), cY.mp (bI_n0 h121)⟩).symm
          | exact T129 false (decide_eq_false (fun u => by rw [cX.mpr u.1] at h84; exact absurd h84 (by decide))).symm
          | exact T129 false (decide_eq_false (fun u => by rw [cY.mpr u.2] at h121; exact absurd h121 (by decide))).symm
        · refine g_iconst (t := 125) dX7_at_124 c_iconst_1 rfl ?_
          refine g_goto (t := 129) dX7_at_125 (by decide) ?_
          first
          | exact T129 true (decide_eq_true ⟨cX.mp (bI_n0 h84), cY.mp (bI_n0 h121)⟩).symm
          | exact T129 false (decide_eq_false (fun u => by rw [cX.mpr u.1] at h84; exact absurd h84 (by decide))).symm
          | exact T129 false (decide_eq_false (fun u => by rw [cY.mpr u.2] at h121; exact absurd h121 (by decide))).symm
theorem x7_at {x y v : Int32} (hR : rM I S) (hV : vT S) (ho : vAt S x y v) : gQI E fX7_at [.ref 41, .int x, .int y] I h (fun v' I' => gSame ML I I' ∧ v' = v ∧ rM I' S) := by
  refine gEv.of rfl (Nat.le_refl _) (Nat.le_of_ble_eq_true rfl) (L := [.ref 41, .int x, .int y, .null, .null, .null]) rfl ?_
  have ⟨hn, hC, hH, hT⟩ := hR
  have e177 : I 42 177 = S.1.2.2 0 := hC.2.2 0 (by decide)
  have ex : inI x (-2000) (nI 2000) = true ↔ ¬ (x < -2000 ∨ 2000 < x) := by
    rw [show nI 2000 = 2000 by decide +kernel, inI, decide_eq_true_iff]
    exact ⟨fun u w => w.elim (fun q => absurd q (Int32.not_lt.mpr u.1)) (fun q => absurd q (Int32.not_lt.mpr u.2)), fun u => ⟨Int32.not_lt.mp (fun q => u (Or.inl q)), Int32.not_lt.mp (fun q => u (Or.inr q))⟩⟩
  have ey : inI y (nI 0) (nI 5000) = true ↔ ¬ (y < 0 ∨ 5000 < y) := by
    rw [show nI 5000 = 5000 by decide +kernel, inI, decide_eq_true_iff, nI_0]
    exact ⟨fun u w => w.elim (fun q => absurd q (Int32.not_lt.mpr u.1)) (fun q => absurd q (Int32.not_lt.mpr u.2)), fun u => ⟨Int32.not_lt.mp (fun q => u (Or.inl q)), Int32.not_lt.mp (fun q => u (Or.inr q))⟩⟩
  rcases ho with ⟨hb, rfl⟩ | ⟨hb, rfl⟩
  · have hb2 : inI x (-2000) (nI 2000) = false ∨ inI y (nI 0) (nI 5000) = false := by
      rcases hb with q | q | q | q
      · exact Or.inl (Bool.eq_false_iff.mpr fun u => ex.mp u (Or.inl q))
      · exact Or.inl (Bool.eq_false_iff.mpr fun u => ex.mp u (Or.inr q))
      · exact Or.inr (Bool.eq_false_iff.mpr fun u => ey.mp u (Or.inl q))
      · exact Or.inr (Bool.eq_false_iff.mpr fun u => ey.mp u (Or.inr q))
    by_cases hx : inI x (-2000) (nI 2000) = true
    · have hy := hb2.resolve_left (fun u => by rw [hx] at u; exact absurd u (by decide))
      refine g_iload_n (i := 1) (t := 1) dX7_at_0 rfl rfl rfl ?_
      refine g_sipush (t := 4) dX7_at_1 c_sipush_m2000 rfl ?_
      refine g_sipush (t := 7) dX7_at_4 c_sipush_2000 rfl ?_
      refine g_cSp (t := 10) mX7_in k_X7_75 smX7_in dX7_at_7 (x7_in) rfl rfl (by decide) (by decide) (Nat.le_of_ble_eq_true rfl) rfl ?_
      rw [hx]
      refine g_if_eq (t1 := 24) (t2 := 13) dX7_at_10 (by decide) rfl (fun h10 => ?_) (fun h10 => ?_)
      · exact absurd h10 (by decide)
      · refine g_iload_n (i := 2) (t := 14) dX7_at_13 rfl rfl rfl ?_
        refine g_iconst (t := 15) dX7_at_14 c_iconst_0 rfl ?_
        refine g_sipush (t := 18) dX7_at_15 c_sipush_5000 rfl ?_
        refine g_cSp (t := 21) mX7_in k_X7_75 smX7_in dX7_at_18 (x7_in) rfl rfl (by decide) (by decide) (Nat.le_of_ble_eq_true rfl) rfl ?_
        rw [hy]
        refine g_if_ne (t1 := 28) (t2 := 24) dX7_at_21 (by decide) rfl (fun h21 => ?_) (fun h21 => ?_)
        · exact absurd rfl h21
        · refine g_sipush (t := 27) dX7_at_24 c_sipush_m1002 rfl ?_
          exact g_retI dX7_at_27 rfl rfl (⟨gSame.rf, rfl, hR⟩)
    · refine g_iload_n (i := 1) (t := 1) dX7_at_0 rfl rfl rfl ?_
      refine g_sipush (t := 4) dX7_at_1 c_sipush_m2000 rfl ?_
      refine g_sipush (t := 7) dX7_at_4 c_sipush_2000 rfl ?_
      refine g_cSp (t := 10) mX7_in k_X7_75 smX7_in dX7_at_7 (x7_in) rfl rfl (by decide) (by decide) (Nat.le_of_ble_eq_true rfl) rfl ?_
      refine g_if_eq (t1 := 24) (t2 := 13) dX7_at_10 (by decide) rfl (fun h10 => ?_) (fun h10 => ?_)
      · refine g_sipush (t := 27) dX7_at_24 c_sipush_m1002 rfl ?_
        exact g_retI dX7_at_27 rfl rfl (⟨gSame.rf, rfl, hR⟩)
      · exact absurd (bI_n0 h10) hx
  · have hx : inI x (-2000) (nI 2000) = true := ex.mpr (fun u => hb (u.elim Or.inl (fun q => Or.inr (Or.inl q))))
    have hy : inI y (nI 0) (nI 5000) = true := ey.mpr (fun u => hb (u.elim (fun q => Or.inr (Or.inr (Or.inl q))) (fun q => Or.inr (Or.inr (Or.inr q)))))
    refine g_iload_n (i := 1) (t := 1) dX7_at_0 rfl rfl rfl ?_
    refine g_sipush (t := 4) dX7_at_1 c_sipush_m2000 rfl ?_
    refine g_sipush (t := 7) dX7_at_4 c_sipush_2000 rfl ?_
    refine g_cSp (t := 10) mX7_in k_X7_75 smX7_in dX7_at_7 (x7_in) rfl rfl (by decide) (by decide) (Nat.le_of_ble_eq_true rfl) rfl ?_
    rw [hx]
    refine g_if_eq (t1 := 24) (t2 := 13) dX7_at_10 (by decide) rfl (fun h10 => ?_) (fun h10 => ?_)
    · exact absurd h10 (by decide)
    · refine g_iload_n (i := 2) (t := 14) dX7_at_13 rfl rfl rfl ?_
      refine g_iconst (t := 15) dX7_at_14 c_iconst_0 rfl ?_
      refine g_sipush (t := 18) dX7_at_15 c_sipush_5000 rfl ?_
      refine g_cSp (t := 21) mX7_in k_X7_75 smX7_in dX7_at_18 (x7_in) rfl rfl (by decide) (by decide) (Nat.le_of_ble_eq_true rfl) rfl ?_
      rw [hy]
      refine g_if_ne (t1 := 28) (t2 := 24) dX7_at_21 (by decide) rfl (fun h21 => ?_) (fun h21 => ?_)
      · refine g_aload_n (i := 0) (r := 41) (t := 29) dX7_at_28 rfl rfl (Or.inl l9_41) rfl ?_
        refine g_aload_n (i := 0) (r := 41) (t := 30) dX7_at_29 rfl rfl (Or.inl l9_41) rfl ?_
        refine gm_getR (o := 41) (ci := 7) (k := 0) (r := 42) (t := 33) l6_41 l9_41 s_41 gf_X7_7 rfl r_41_0 l9_42 dX7_at_30 rfl ?_
        refine g_sipush (t := 36) dX7_at_33 c_sipush_177 rfl ?_
        refine gm_iald_n (a := 42) (n := 184) (t := 37) l6_42 l9_42 s_42 dX7_at_36 (by omega) (by decide) rfl ?_
        rw [e177]
        refine g_cVv (o := 41) (t := 40) mX7_draws k_X7_161 imX7_draws seX7_draws l6_41 l9_41 s_41 rfl dX7_at_37 (x7_draws hV.1 hV.1.b0 hC) rfl rfl (by decide) (by decide) (Nat.le_of_ble_eq_true rfl) rfl (fun J q => ?_)
        refine g_sipush (t := 43) dX7_at_40 c_sipush_m1001 rfl ?_
        refine g_istore_n (i := 3) (t := 44) (L1 := [_, _, _, _, _, _]) dX7_at_43 rfl (by decide) rfl rfl rfl ?_
        refine g_iconst (t := 45) dX7_at_44 c_iconst_0 rfl ?_
        refine g_istore (i := 4) (t := 47) (L1 := [_, _, _, _, _, _]) dX7_at_45 (by decide) rfl rfl rfl ?_
        refine (x7_at_loop (x := x) (y := y) hV.1 (hC.keep (q.1.at 42 rfl)) q.2.2 (sC S.1) 0 _ (Nat.zero_add _)).mono (fun pc' L' st' σ' z => ⟨z.1, ?_⟩)
        rcases z.2 with ⟨d1, v, ty, d2, d3, d4, e1, e2⟩ | ⟨d1, d2, d3, e1, e2⟩ | ⟨d1, v, d2, d3, e1, e2⟩ | ⟨d1, r, nm, d2, d3, e1, e2⟩
        · exact Or.inl ⟨d1, v, ty, d2, d3, d4, _, _, e1, e2, q.1.wk rfl, rfl, hR.drawn q.1 q.2.1⟩
        · cases e1
        · cases e1
        · cases e1
      · exact absurd h21 (by decide)
theorem x7_fits_t {k w : Nat} (hn : s.1 ≤ 16) (hD : dM I s (nI w)) (hk : k ≤ 16) : gPI E fX7_fits [.ref 41, .int (nI 0), .int (nI k)] I h (bI (ftV s true k w)) := by
  refine gEv.of rfl (Nat.le_refl _) (Nat.le_of_ble_eq_true rfl) (L := [.ref 41, .int (nI 0), .int (nI k), .null, .null]) rfl ?_
  have hc := sC_le hn
  have hnl := nln_le (sW s (nI w)) (sC s)
  have l1 : I 41 13 = nI (nln (sW s (nI w)) (sC s)) := hD.2.1.1
  have T19 : ∀ b : Bool, b = ftV s true k w → Wp E fX7_fits 62 19 [.ref 41, .int (nI 0), .int (nI k), .int (bI b), .null] [] (gM I h) (gRet fX7_fits 62 (fun r σ' => r = some (.int (bI (ftV s true k w))) ∧ σ' = gM I h)) := by
    intro b hb
    refine g_iconst (t := 20) dX7_fits_19 c_iconst_0 rfl ?_
    refine g_istore (i := 4) (t := 22) (L1 := [_, _, _, _, _]) dX7_fits_20 (by decide) rfl rfl rfl ?_
    refine g_iload (i := 4) (t := 24) dX7_fits_22 rfl rfl ?_
    refine g_aload_n (i := 0) (r := 41) (t := 25) dX7_fits_24 rfl rfl (Or.inl l9_41) rfl ?_
    refine gm_getI (o := 41) (ci := 7) (k := 13) (t := 28) l6_41 l9_41 s_41 gf_X7_182 rfl dX7_fits_25 rfl ?_
    rw [l1]
    refine g_icmp_ge (t1 := 62) (t2 := 31) dX7_fits_28 (by decide) rfl (fun h28 => ?_) (fun h28 => ?_)
    · refine g_iload_n (i := 3) (t := 63) dX7_fits_62 rfl rfl rfl ?_
      exact g_retP dX7_fits_63 rfl (by cases b <;> decide +kernel) (by rw [hb])
    · refine g_iload_n (i := 1) (t := 32) dX7_fits_31 rfl rfl rfl ?_
      refine g_iconst (t := 33) dX7_fits_32 c_iconst_1 rfl ?_
      refine g_icmp_ne (t1 := 62) (t2 := 36) dX7_fits_33 (by decide) rfl (fun h33 => ?_) (fun h33 => ?_)
      · refine g_iload_n (i := 3) (t := 63) dX7_fits_62 rfl rfl rfl ?_
        exact g_retP dX7_fits_63 rfl (by cases b <;> decide +kernel) (by rw [hb])
      · exact absurd h33 (by decide)
  refine g_iload_n (i := 1) (t := 1) dX7_fits_0 rfl rfl rfl ?_
  refine g_iconst (t := 2) dX7_fits_1 c_iconst_1 rfl ?_
  refine g_icmp_eq (t1 := 13) (t2 := 5) dX7_fits_2 (by decide) rfl (fun h2 => ?_) (fun h2 => ?_)
  · exact absurd h2 (by decide)
  · refine g_aload_n (i := 0) (r := 41) (t := 6) dX7_fits_5 rfl rfl (Or.inl l9_41) rfl ?_
    refine gm_getI (o := 41) (ci := 7) (k := 13) (t := 9) l6_41 l9_41 s_41 gf_X7_182 rfl dX7_fits_6 rfl ?_
    refine g_iload_n (i := 2) (t := 10) dX7_fits_9 rfl rfl rfl ?_
    rw [l1]
    refine g_icmp_gt_n (t1 := 17) (t2 := 13) dX7_fits_10 (by decide) rfl (by omega) (by omega) (fun h10 => ?_) (fun h10 => ?_)
    · refine g_iconst (t := 18) dX7_fits_17 c_iconst_0 rfl ?_
      refine g_istore_n (i := 3) (t := 19) (L1 := [_, _, _, _, _]) dX7_fits_18 rfl (by decide) rfl rfl rfl ?_
      first
      | exact T19 true (decide_eq_true (by omega)).symm
      | exact T19 false (decide_eq_false (by omega)).symm
    · refine g_iconst (t := 14) dX7_fits_13 c_iconst_1 rfl ?_
      refine g_goto (t := 18) dX7_fits_14 (by decide) ?_
      refine g_istore_n (i := 3) (t := 19) (L1 := [_, _, _, _, _]) dX7_fits_18 rfl (by decide) rfl rfl rfl ?_
      first
      | exact T19 true (decide_eq_true (by omega)).symm
      | exact T19 false (decide_eq_false (by omega)).symm
theorem x7_fits_f {w : Nat} (hn : s.1 ≤ 16) (hD : dM I s (nI w)) : gPI E fX7_fits [.ref 41, .int (nI 1), .int (nI 0)] I h (bI (ftV s false 0 w)) := by
  refine gEv.of rfl (Nat.le_refl _) (Nat.le_of_ble_eq_true rfl) (L := [.ref 41, .int (nI 1), .int (nI 0), .null, .null]) rfl ?_
  have hc := sC_le hn
  have hnl := nln_le (sW s (nI w)) (sC s)
  have l1 : I 41 13 = nI (nln (sW s (nI w)) (sC s)) := hD.2.1.1
  have dD := hD.2.2
  have L : ∀ (d l : Nat) (b : Bool), l + d = nln (sW s (nI w)) (sC s) → (b = true ↔ ∀ j, j < l → 0 ≤ reL (lnA (sW s (nI w)) (sC s) j)) → Wp E fX7_fits 62 22 [.ref 41, .int (nI 1), .int (nI 0), .int (bI b), .int (nI l)] [] (gM I h) (gRet fX7_fits 62 (fun r σ' => r = some (.int (bI (ftV s false 0 w))) ∧ σ' = gM I h)) := by
    intro d
    induction d with
    | zero =>
      intro l b hl hb
      have hl : l = nln (sW s (nI w)) (sC s) := by omega
      subst hl
      have e : b = allR (sW s (nI w)) (sC s) := by
        cases y : allR (sW s (nI w)) (sC s) with
        | true => exact hb.mpr ((allR_iff _ _).mp y)
        | false =>
          cases b with
          | false => rfl
          | true => rw [(allR_iff _ _).mpr (hb.mp rfl)] at y; exact y
      refine g_iload (i := 4) (t := 24) dX7_fits_22 rfl rfl ?_
      refine g_aload_n (i := 0) (r := 41) (t := 25) dX7_fits_24 rfl rfl (Or.inl l9_41) rfl ?_
      refine gm_getI (o := 41) (ci := 7) (k := 13) (t := 28) l6_41 l9_41 s_41 gf_X7_182 rfl dX7_fits_25 rfl ?_
      rw [l1]
      refine g_icmp_ge_n (t1 := 62) (t2 := 31) dX7_fits_28 (by decide) rfl (by omega) (by omega) (fun h28 => ?_) (fun h28 => ?_)
      · refine g_iload_n (i := 3) (t := 63) dX7_fits_62 rfl rfl rfl ?_
        exact g_retP dX7_fits_63 rfl (by cases b <;> decide +kernel) (by rw [e]; rfl)
      · exfalso; omega
    | succ d ih =>
      intro l b hl hb
      have d1 := (dD.1 l (by omega)).1
      refine g_iload (i := 4) (t := 24) dX7_fits_22 rfl rfl ?_
      refine g_aload_n (i := 0) (r := 41) (t := 25) dX7_fits_24 rfl rfl (Or.inl l9_41) rfl ?_
      refine gm_getI (o := 41) (ci := 7) (k := 13) (t := 28) l6_41 l9_41 s_41 gf_X7_182 rfl dX7_fits_25 rfl ?_
      rw [l1]
      refine g_icmp_ge_n (t1 := 62) (t2 := 31) dX7_fits_28 (by decide) rfl (by omega) (by omega) (fun h28 => ?_) (fun h28 => ?_)
      · exfalso; omega
      · refine g_iload_n (i := 1) (t := 32) dX7_fits_31 rfl rfl rfl ?_
        refine g_iconst (t := 33) dX7_fits_32 c_iconst_1 rfl ?_
        refine g_icmp_ne (t1 := 62) (t2 := 36) dX7_fits_33 (by decide) rfl (fun h33 => ?_) (fun h33 => ?_)
        · exact absurd rfl h33
        · refine g_iload_n (i := 3) (t := 37) dX7_fits_36 rfl rfl rfl ?_
          refine g_if_eq (t1 := 54) (t2 := 40) dX7_fits_37 (by decide) rfl (fun h37 => ?_) (fun h37 => ?_)
          · refine g_iconst (t := 55) dX7_fits_54 c_iconst_0 rfl ?_
            refine g_istore_n (i := 3) (t := 56) (L1 := [_, _, _, _, _]) dX7_fits_55 rfl (by decide) rfl rfl rfl ?_
            refine g_iinc (i := 4) (t := 59) (L1 := [_, _, _, _, _]) dX7_fits_56 rfl (gi_1 _) (by decide) rfl rfl rfl ?_
            refine g_goto (t := 22) dX7_fits_59 (by decide) ?_
            first
            | (refine ih (l + 1) true (by omega) ⟨fun _ j hj => ?_, fun _ => rfl⟩
               by_cases y : j = l
               · subst y; exact Int32.not_lt.mp h47
               · exact hb.mp (bI_n0 h37) j (by omega))
            | (refine ih (l + 1) false (by omega) ⟨fun q => absurd q (by decide), fun q => ?_⟩
               first
               | (have := hb.mpr (fun j hj => q j (by omega)); rw [bI_0 h37] at this; exact absurd this (by decide))
               | exact absurd h47 (Int32.not_lt.mpr (q l (by omega))))
          · refine g_aload_n (i := 0) (r := 41) (t := 41) dX7_fits_40 rfl rfl (Or.inl l9_41) rfl ?_
            refine gm_getR (o := 41) (ci := 7) (k := 19) (r := 55) (t := 44) l6_41 l9_41 s_41 gf_X7_50 rfl r_41_19 l9_55 dX7_fits_41 rfl ?_
            refine g_iload (i := 4) (t := 46) dX7_fits_44 rfl rfl ?_
            refine gm_iald_n (a := 55) (n := 16) (t := 47) l6_55 l9_55 s_55 dX7_fits_46 (by omega) (by decide) rfl ?_
            rw [d1]
            refine g_if_lt (t1 := 54) (t2 := 50) dX7_fits_47 (by decide) rfl (fun h47 => ?_) (fun h47 => ?_)
            · refine g_iconst (t := 55) dX7_fits_54 c_iconst_0 rfl ?_
              refine g_istore_n (i := 3) (t := 56) (L1 := [_, _, _, _, _]) dX7_fits_55 rfl (by decide) rfl rfl rfl ?_
              refine g_iinc (i := 4) (t := 59) (L1 := [_, _, _, _, _]) dX7_fits_56 rfl (gi_1 _) (by decide) rfl rfl rfl ?_
              refine g_goto (t := 22) dX7_fits_59 (by decide) ?_
              first
              | (refine ih (l + 1) true (by omega) ⟨fun _ j hj => ?_, fun _ => rfl⟩
                 by_cases y : j = l
                 · subst y; exact Int32.not_lt.mp h47
                 · exact hb.mp (bI_n0 h37) j (by omega))
              | (refine ih (l + 1) false (by omega) ⟨fun q => absurd q (by decide), fun q => ?_⟩
                 first
                 | (have := hb.mpr (fun j hj => q j (by omega)); rw [bI_0 h37] at this; exact absurd this (by decide))
                 | exact absurd h47 (Int32.not_lt.mpr (q l (by omega))))
            · refine g_iconst (t := 51) dX7_fits_50 c_iconst_1 rfl ?_
              refine g_goto (t := 55) dX7_fits_51 (by decide) ?_
              refine g_istore_n (i := 3) (t := 56) (L1 := [_, _, _, _, _]) dX7_fits_55 rfl (by decide) rfl rfl rfl ?_
              refine g_iinc (i := 4) (t := 59) (L1 := [_, _, _, _, _]) dX7_fits_56 rfl (gi_1 _) (by decide) rfl rfl rfl ?_
              refine g_goto (t := 22) dX7_fits_59 (by decide) ?_
              first
              | (refine ih (l + 1) true (by omega) ⟨fun _ j hj => ?_, fun _ => rfl⟩
                 by_cases y : j = l
                 · subst y; exact Int32.not_lt.mp h47
                 · exact hb.mp (bI_n0 h37) j (by omega))
              | (refine ih (l + 1) false (by omega) ⟨fun q => absurd q (by decide), fun q => ?_⟩
                 first
                 | (have := hb.mpr (fun j hj => q j (by omega)); rw [bI_0 h37] at this; exact absurd this (by decide))
                 | exact absurd h47 (Int32.not_lt.mpr (q l (by omega))))
  refine g_iload_n (i := 1) (t := 1) dX7_fits_0 rfl rfl rfl ?_
  refine g_iconst (t := 2) dX7_fits_1 c_iconst_1 rfl ?_
  refine g_icmp_eq (t1 := 13) (t2 := 5) dX7_fits_2 (by decide) rfl (fun h2 => ?_) (fun h2 => ?_)
  · refine g_iconst (t := 14) dX7_fits_13 c_iconst_1 rfl ?_
    refine g_goto (t := 18) dX7_fits_14 (by decide) ?_
    refine g_istore_n (i := 3) (t := 19) (L1 := [_, _, _, _, _]) dX7_fits_18 rfl (by decide) rfl rfl rfl ?_
    refine g_iconst (t := 20) dX7_fits_19 c_iconst_0 rfl ?_
    refine g_istore (i := 4) (t := 22) (L1 := [_, _, _, _, _]) dX7_fits_20 (by decide) rfl rfl rfl ?_
    exact L _ 0 true (Nat.zero_add _) ⟨fun _ j hj => absurd hj (Nat.not_lt_zero _), fun _ => rfl⟩
  · exact absurd rfl h2
theorem x7_lw_loop {a : Bool} {k : Nat} (hV : vT S) (hk : k ≤ 16) (hka : a = false → k = 0) {I0 : Nat → Nat → Int32} : ∀ (d w : Nat) (I : Nat → Nat → Int32), w + d = 1000 → 20 ≤ w → rM I S → gSame ML I0 I → lwV S.1 a k d w = lwV S.1 a k 980 20 → Wp E fX7_leastWidth 62 42 [.ref 41, .int (nI (if a then 0 else 1)), .int (nI k), .int (nI w)] [] (gM I h) (gRet fX7_leastWidth 62 (fun r σ' => ∃ (v : Int32) (I' : Nat → Nat → Int32), r = some (.int v) ∧ σ' = gM I' h ∧ gSame ML I0 I' ∧ v = lwV S.1 a k 980 20 ∧ rM I' S)) := by
  intro d
  induction d with
  | zero =>
    intro w I hw hw2 hR hs hv
    have hw : w = 1000 := by omega
    subst hw
    refine g_iload_n (i := 3) (t := 43) dX7_leastWidth_42 rfl rfl rfl ?_
    refine g_sipush (t := 46) dX7_leastWidth_43 c_sipush_999 rfl ?_
    refine g_icmp_gt_n (t1 := 71) (t2 := 49) dX7_leastWidth_46 (by decide) rfl (by omega) (by omega) (fun h46 => ?_) (fun h46 => ?_)
    · refine g_sipush (t := 74) dX7_leastWidth_71 c_sipush_m1001 rfl ?_
      exact g_retI dX7_leastWidth_74 rfl rfl (⟨hs, hv, hR⟩)
    · exfalso; omega
  | succ d ih =>
    intro w I hw hw2 hR hs hv
    have ⟨hn, hC, hH, hT⟩ := hR
    rw [lwV] at hv
    cases a with
    | true =>
      refine g_iload_n (i := 3) (t := 43) dX7_leastWidth_42 rfl rfl rfl ?_
      refine g_sipush (t := 46) dX7_leastWidth_43 c_sipush_999 rfl ?_
      refine g_icmp_gt_n (t1 := 71) (t2 := 49) dX7_leastWidth_46 (by decide) rfl (by omega) (by omega) (fun h46 => ?_) (fun h46 => ?_)
      · exfalso; omega
      · refine g_aload_n (i := 0) (r := 41) (t := 50) dX7_leastWidth_49 rfl rfl (Or.inl l9_41) rfl ?_
        refine g_iload_n (i := 3) (t := 51) dX7_leastWidth_50 rfl rfl rfl ?_
        refine g_cVv (o := 41) (t := 54) mX7_draws k_X7_161 imX7_draws seX7_draws l6_41 l9_41 s_41 rfl dX7_leastWidth_51 (x7_draws hV.1 (b_nI (n := w) (a := 20) (b := 999) (by omega) (by omega) (by omega)) hC) rfl rfl (by decide) (by decide) (Nat.le_of_ble_eq_true rfl) rfl (fun J q => ?_)
        refine g_aload_n (i := 0) (r := 41) (t := 55) dX7_leastWidth_54 rfl rfl (Or.inl l9_41) rfl ?_
        refine g_iload_n (i := 1) (t := 56) dX7_leastWidth_55 rfl rfl rfl ?_
        refine g_iload_n (i := 2) (t := 57) dX7_leastWidth_56 rfl rfl rfl ?_
        refine g_cVp (o := 41) (t := 60) mX7_fits k_X7_237 imX7_fits seX7_fits l6_41 l9_41 s_41 rfl dX7_leastWidth_57 (x7_fits_t hn q.2.2 hk) rfl rfl (by decide) (by decide) (Nat.le_of_ble_eq_true rfl) rfl ?_
        refine g_if_eq (t1 := 65) (t2 := 63) dX7_leastWidth_60 (by decide) rfl (fun h60 => ?_) (fun h60 => ?_)
        · refine g_iinc (i := 3) (t := 68) (L1 := [_, _, _, _]) dX7_leastWidth_65 rfl (gi_1 _) (by decide) rfl rfl rfl ?_
          refine g_goto (t := 42) dX7_leastWidth_68 (by decide) ?_
          rw [if_neg (by rw [bI_0 h60]; decide)] at hv
          exact ih (w + 1) J (by omega) (by omega) (hR.drawn q.1 q.2.1) (hs.trans (q.1.wk rfl)) hv
        · refine g_iload_n (i := 3) (t := 64) dX7_leastWidth_63 rfl rfl rfl ?_
          exact g_retI dX7_leastWidth_64 rfl rfl (⟨hs.trans (q.1.wk rfl), by rw [← hv, if_pos (bI_n0 h60)], hR.drawn q.1 q.2.1⟩)
    | false =>
      have hk0 := hka rfl
      subst hk0
      refine g_iload_n (i := 3) (t := 43) dX7_leastWidth_42 rfl rfl rfl ?_
      refine g_sipush (t := 46) dX7_leastWidth_43 c_sipush_999 rfl ?_
      refine g_icmp_gt_n (t1 := 71) (t2 := 49) dX7_leastWidth_46 (by decide) rfl (by omega) (by omega) (fun h46 => ?_) (fun h46 => ?_)
      · exfalso; omega
      · refine g_aload_n (i := 0) (r := 41) (t := 50) dX7_leastWidth_49 rfl rfl (Or.inl l9_41) rfl ?_
        refine g_iload_n (i := 3) (t := 51) dX7_leastWidth_50 rfl rfl rfl ?_
        refine g_cVv (o := 41) (t := 54) mX7_draws k_X7_161 imX7_draws seX7_draws l6_41 l9_41 s_41 rfl dX7_leastWidth_51 (x7_draws hV.1 (b_nI (n := w) (a := 20) (b := 999) (by omega) (by omega) (by omega)) hC) rfl rfl (by decide) (by decide) (Nat.le_of_ble_eq_true rfl) rfl (fun J q => ?_)
        refine g_aload_n (i := 0) (r := 41) (t := 55) dX7_leastWidth_54 rfl rfl (Or.inl l9_41) rfl ?_
        refine g_iload_n (i := 1) (t := 56) dX7_leastWidth_55 rfl rfl rfl ?_
        refine g_iload_n (i := 2) (t := 57) dX7_leastWidth_56 rfl rfl rfl ?_
        refine g_cVp (o := 41) (t := 60) mX7_fits k_X7_237 imX7_fits seX7_fits l6_41 l9_41 s_41 rfl dX7_leastWidth_57 (x7_fits_f hn q.2.2) rfl rfl (by decide) (by decide) (Nat.le_of_ble_eq_true rfl) rfl ?_
        refine g_if_eq (t1 := 65) (t2 := 63) dX7_leastWidth_60 (by decide) rfl (fun h60 => ?_) (fun h60 => ?_)
        · refine g_iinc (i := 3) (t := 68) (L1 := [_, _, _, _]) dX7_leastWidth_65 rfl (gi_1 _) (by decide) rfl rfl rfl ?_
          refine g_goto (t := 42) dX7_leastWidth_68 (by decide) ?_
          rw [if_neg (by rw [bI_0 h60]; decide)] at hv
          exact ih (w + 1) J (by omega) (by omega) (hR.drawn q.1 q.2.1) (hs.trans (q.1.wk rfl)) hv
        · refine g_iload_n (i := 3) (t := 64) dX7_leastWidth_63 rfl rfl rfl ?_
          exact g_retI dX7_leastWidth_64 rfl rfl (⟨hs.trans (q.1.wk rfl), by rw [← hv, if_pos (bI_n0 h60)], hR.drawn q.1 q.2.1⟩)
end X7T

