/-! the order by ranks, as the law finds it -/
/-- an item comes ahead of the rank r and the number k -/
def keL (P : dP) (i : Nat) (r : Int) (k : Nat) : Prop := (P i 6).toInt < r ∨ ((P i 6).toInt = r ∧ i < k)
theorem posn_hi (rk : Nat → Int32) (r : Int32) (f : Nat → Nat) : ∀ c i, posn rk r f c ≤ i → i < c → r < rk (f i)
  | 0, i, _, h => absurd h (Nat.not_lt_zero _)
  | c + 1, i, h1, h2 => by
    unfold posn at h1
    by_cases q : r < rk (f c)
    · rw [if_pos q] at h1
      by_cases y : i = c
      · rw [y]; exact q
      · exact posn_hi rk r f c i h1 (by omega)
    · rw [if_neg q] at h1
      omega
theorem posn_lo (rk : Nat → Int32) (r : Int32) (f : Nat → Nat) : ∀ c j, posn rk r f c = j + 1 → ¬ r < rk (f j)
  | 0, j, h => by cases h
  | c + 1, j, h => by
    unfold posn at h
    by_cases q : r < rk (f c)
    · rw [if_pos q] at h
      exact posn_lo rk r f c j h
    · rw [if_neg q] at h
      have : c = j := by omega
      rw [← this]
      exact q
theorem ordS_sorted (P : dP) : ∀ n p q, p < q → q < (ordS P n).1 → keL P ((ordS P n).2 p) ((P ((ordS P n).2 q) 6).toInt) ((ordS P n).2 q)
  | 0, p, q, _, h => absurd h (Nat.not_lt_zero _)
  | n + 1, p, q, h1, h2 => by
    have ih := ordS_sorted P n
    have lt := ordS_lt P n
    have hp := posn_le (fun i => P i 6) (P n 6) (ordS P n).2 (ordS P n).1
    have hh := posn_hi (fun i => P i 6) (P n 6) (ordS P n).2 (ordS P n).1
    have hl := posn_lo (fun i => P i 6) (P n 6) (ordS P n).2 (ordS P n).1
    unfold ordS at h2 ⊢
    by_cases hz : P n 10 = 0
    · rw [if_pos hz] at h2 ⊢
      have h2 : q < (ordS P n).1 + 1 := h2
      show keL P (insA (ordS P n).2 (posn (fun i => P i 6) (P n 6) (ordS P n).2 (ordS P n).1) n p) ((P (insA (ordS P n).2 (posn (fun i => P i 6) (P n 6) (ordS P n).2 (ordS P n).1) n q) 6).toInt) (insA (ordS P n).2 (posn (fun i => P i 6) (P n 6) (ordS P n).2 (ordS P n).1) n q)
      generalize posn (fun i => P i 6) (P n 6) (ordS P n).2 (ordS P n).1 = j at hp hh hl ⊢
      unfold insA
      rcases Nat.lt_trichotomy q j with y | y | y
      · rw [if_pos y, if_pos (show p < j by omega)]
        exact ih p q h1 (by omega)
      · subst y
        rw [if_neg (Nat.lt_irrefl _), if_pos rfl, if_pos h1]
        obtain ⟨j, rfl⟩ : ∃ u, q = u + 1 := ⟨q - 1, by omega⟩
        have k1 := hl j rfl
        rw [t_lt] at k1
        have k2 := lt p (by omega)
        by_cases z : p = j
        · subst z
          unfold keL
          omega
        · have := ih p j (by omega) (by omega)
          unfold keL at this ⊢
          omega
      · have k1 := hh (q - 1) (by omega) (by omega)
        rw [t_lt] at k1
        rw [if_neg (show ¬ q < j by omega), if_neg (show ¬ q = j by omega)]
        rcases Nat.lt_trichotomy p j with z | z | z
        · rw [if_pos z]
          exact ih p (q - 1) (by omega) (by omega)
        · rw [if_neg (by omega), if_pos z]
          exact Or.inl k1
        · rw [if_neg (by omega), if_neg (by omega)]
          exact ih (p - 1) (q - 1) (by omega) (by omega)
    · rw [if_neg hz] at h2 ⊢
      exact ih p q h1 h2
/-- the first m places are those ahead of r and k -/
def cutX (P : dP) (n : Nat) (r : Int) (k m : Nat) : Prop := m ≤ (ordS P n).1 ∧ ∀ p, p < (ordS P n).1 → (p < m ↔ keL P ((ordS P n).2 p) r k)
theorem cutX.yes {P : dP} {n k m : Nat} {r : Int} (h : cutX P n r k m) (hk : k < n) (hz : P k 10 = 0) (hr : (P k 6).toInt = r) : m < (ordS P n).1 ∧ (ordS P n).2 m = k ∧ cutX P n r (k + 1) (m + 1) := by
  obtain ⟨h1, h2⟩ := h
  obtain ⟨p0, e1, e2⟩ := ordS_all P n k hk hz
  have g0 : ¬ p0 < m := by
    rw [h2 p0 e1, e2]
    unfold keL
    omega
  have g1 : m = p0 := by
    apply Classical.byContradiction
    intro y
    have := ordS_sorted P n m p0 (by omega) e1
    rw [e2, hr] at this
    have := (h2 m (by omega)).mpr this
    omega
  subst g1
  refine ⟨e1, e2, by omega, fun p hp => ?_⟩
  rcases Nat.lt_trichotomy p m with y | y | y
  · have := (h2 p hp).mp y
    unfold keL at this ⊢
    omega
  · subst y
    rw [e2]
    unfold keL
    omega
  · have := ordS_sorted P n m p y hp
    rw [e2] at this
    unfold keL at this ⊢
    omega
theorem cutX.no {P : dP} {n k m : Nat} {r : Int} (h : cutX P n r k m) (hno : ¬ (P k 10 = 0 ∧ (P k 6).toInt = r)) : cutX P n r (k + 1) m := by
  obtain ⟨h1, h2⟩ := h
  refine ⟨h1, fun p hp => ?_⟩
  rw [h2 p hp]
  have hs := ordS_shown P n p hp
  by_cases y : (ordS P n).2 p = k
  · rw [y] at hs ⊢
    have : ¬ (P k 6).toInt = r := fun z => hno ⟨hs, z⟩
    unfold keL
    omega
  · unfold keL
    omega
theorem cutX.up {P : dP} {n m : Nat} {r : Int} (h : cutX P n r n m) : cutX P n (r + 1) 0 m := by
  obtain ⟨h1, h2⟩ := h
  refine ⟨h1, fun p hp => ?_⟩
  rw [h2 p hp]
  have := ordS_lt P n p hp
  unfold keL
  omega
def rkI (t : Nat) : Int32 := nI t - nI 9
theorem rkI_k : ∀ t, t < 20 → (rkI t).toInt = (t : Int) - 9 ∧ (nI 10 ≤ rkI t ↔ t = 19) ∧ (t < 19 → rkI t + Int32.ofInt 1 = rkI (t + 1)) := by decide +kernel
def lnK (Q : lQ) : Nat → Int32
  | 0 => -1
  | p + 1 => nI (lin Q p)
theorem lnK_1 (Q : lQ) : ∀ c, lnK Q c + nI 1 = nI (nln Q c)
  | 0 => by show (-1 : Int32) + nI 1 = nI 0; decide +kernel
  | c + 1 => nI_add _ _
theorem lnS_in {Q : lQ} {p : Nat} (h3 : Q.2.1 3 = nI 1) (hlt : ¬ lsa Q (p + 1) + Q.2.1 1 + ob Q (p + 1) ≤ Q.2.2.1) : nI (lin Q p + 1) = nI (lin Q (p + 1)) ∧ ob Q (p + 1) = lsm Q (p + 1) := by
  have e : lnS Q (p + 1) = (ob Q (p + 1), (lnS Q p).2 + 1) := by
    rw [lnS, if_pos ⟨h3, Int32.not_le.mp hlt⟩]
  unfold lin lsm
  rw [e]
  exact ⟨rfl, rfl⟩
theorem lnS_out {Q : lQ} {p : Nat} (hno : ¬ Q.2.1 3 = nI 1 ∨ lsa Q (p + 1) + Q.2.1 1 + ob Q (p + 1) ≤ Q.2.2.1) : nI (lin Q p) = nI (lin Q (p + 1)) ∧ lsa Q (p + 1) + Q.2.1 1 + ob Q (p + 1) = lsm Q (p + 1) := by
  have e : lnS Q (p + 1) = ((lnS Q p).1 + Q.2.1 1 + ob Q (p + 1), (lnS Q p).2) := by
    rw [lnS, if_neg (fun z => hno.elim (fun y => y z.1) (fun y => absurd z.2 (Int32.not_lt.mpr y)))]
  unfold lin
  refine ⟨by rw [e], ?_⟩
  unfold lsm
  rw [e]
  rfl
/-- what the law keeps of the order -/
def orX (J : Nat → Nat → Int32) (S : sT) : Prop := (∀ p, p < sC S.1 → J 43 p = nI ((sQ S.1).2.2.2 p) ∧ J 43 (8 + p) = nI (lin (sQ S.1) p)) ∧ J 43 16 = nI (sC S.1) ∧ J 43 17 = nI (nln (sQ S.1) (sC S.1))
theorem orX.keep {I J : Nat → Nat → Int32} {S : sT} (h : orX I S) (e : J 43 = I 43) : orX J S := by
  unfold orX
  rw [e]
  exact h
section ORD
variable {E : gE} {I : Nat → Nat → Int32} {h : gX} {S : sT} {K : gK}
theorem ord_in {t : Nat} {v6 v7 : Value} (hA : aX I S) (ht : t < 19) (hK : ∀ (m : Nat) (J : Nat → Nat → Int32), cutX S.1.2.1 S.1.1 ((t : Int) - 9) S.1.1 m → gSame [43] I J → (∀ p, p < m → J 43 p = nI ((ordS S.1.2.1 S.1.1).2 p)) → Wp E fL_orders (gn h) 67 [.ref 41, .ref 42, .ref 43, .int (nI m), .int (rkI t), .int (nI S.1.1), v6, v7] [] (gM J h) K) : ∀ (d k m : Nat) (J : Nat → Nat → Int32), k + d = S.1.1 → cutX S.1.2.1 S.1.1 ((t : Int) - 9) k m → gSame [43] I J → (∀ p, p < m → J 43 p = nI ((ordS S.1.2.1 S.1.1).2 p)) → Wp E fL_orders (gn h) 16 [.ref 41, .ref 42, .ref 43, .int (nI m), .int (rkI t), .int (nI k), v6, v7] [] (gM J h) K := by
  obtain ⟨a1, a2, a3, a4⟩ := id hA
  obtain ⟨r1, r2, r3⟩ := rkI_k t (by omega)
  have hc5 := ordS_le S.1.2.1 S.1.1
  intro d
  induction d with
  | zero =>
    intro k m J hk hc hs hJ
    have hk : k = S.1.1 := by omega
    subst hk
    refine g_iload (i := 5) (t := 18) dL_orders_16 rfl rfl ?_
    refine g_aload_n (i := 0) (r := 41) (t := 19) dL_orders_18 rfl rfl (Or.inl l9_41) rfl ?_
    refine g_bipush (t := 21) dL_orders_19 c_bipush_60 rfl ?_
    refine gm_iald_x (a := 41) (n := 64) (t := 22) l6_41 l9_41 s_41 dL_orders_21 rfl (by omega) (by decide) rfl ?_
    rw [hs.at 41 rfl, a2]
    refine g_icmp_ge_n (t1 := 67) (t2 := 25) dL_orders_22 (by decide) rfl (by omega) (by omega) (fun h22 => ?_) (fun h22 => ?_)
    · exact hK m J hc hs hJ
    · exfalso; omega
  | succ d ih =>
    intro k m J hk hc hs hJ
    have e6 : J 41 (12 * k + 6) = S.1.2.1 k 6 := by rw [hs.at 41 rfl]; exact a3 k 6 (by omega) (by decide)
    have e10 : J 41 (12 * k + 10) = S.1.2.1 k 10 := by rw [hs.at 41 rfl]; exact a3 k 10 (by omega) (by decide)
    have hcm := hc.1
    refine g_iload (i := 5) (t := 18) dL_orders_16 rfl rfl ?_
    refine g_aload_n (i := 0) (r := 41) (t := 19) dL_orders_18 rfl rfl (Or.inl l9_41) rfl ?_
    refine g_bipush (t := 21) dL_orders_19 c_bipush_60 rfl ?_
    refine gm_iald_x (a := 41) (n := 64) (t := 22) l6_41 l9_41 s_41 dL_orders_21 rfl (by omega) (by decide) rfl ?_
    rw [hs.at 41 rfl, a2]
    refine g_icmp_ge_n (t1 := 67) (t2 := 25) dL_orders_22 (by decide) rfl (by omega) (by omega) (fun h22 => ?_) (fun h22 => ?_)
    · exfalso; omega
    · refine g_aload_n (i := 0) (r := 41) (t := 26) dL_orders_25 rfl rfl (Or.inl l9_41) rfl ?_
      refine g_bipush (t := 28) dL_orders_26 c_bipush_12 rfl ?_
      refine g_iload (i := 5) (t := 30) dL_orders_28 rfl rfl ?_
      refine g_imul (t := 31) dL_orders_30 rfl ?_
      refine g_bipush (t := 33) dL_orders_31 c_bipush_6 rfl ?_
      refine g_iadd (t := 34) dL_orders_33 rfl ?_
      refine gm_iald_x (a := 41) (n := 64) (t := 35) l6_41 l9_41 s_41 dL_orders_34 (ix_ma _ _ _) (by omega) (by decide) rfl ?_
      rw [e6]
      refine g_iload (i := 4) (t := 37) dL_orders_35 rfl rfl ?_
      refine g_icmp_ne (t1 := 61) (t2 := 40) dL_orders_37 (by decide) rfl (fun h37 => ?_) (fun h37 => ?_)
      · have hno : ¬ (S.1.2.1 k 10 = 0 ∧ (S.1.2.1 k 6).toInt = (t : Int) - 9) := fun z => h37 (by rw [t_eq, r1]; exact z.2)
        refine g_iinc (i := 5) (t := 64) (L1 := [_, _, _, _, _, _, _, _]) dL_orders_61 rfl (gi_1 _) (by decide) rfl rfl rfl ?_
        refine g_goto (t := 16) dL_orders_64 (by decide) ?_
        first
        | exact ih (k + 1) m J (by omega) (hc.no hno) hs hJ
        | (refine ih (k + 1) (m + 1) _ (by omega) y3 (hs.up rfl) (fun p hp => ?_)
           rw [gup_at]
           by_cases z : p = m
           · rw [if_pos z, z, y2]
           · rw [if_neg z]; exact hJ p (by omega))
        | done
      · refine g_aload_n (i := 0) (r := 41) (t := 41) dL_orders_40 rfl rfl (Or.inl l9_41) rfl ?_
        refine g_bipush (t := 43) dL_orders_41 c_bipush_12 rfl ?_
        refine g_iload (i := 5) (t := 45) dL_orders_43 rfl rfl ?_
        refine g_imul (t := 46) dL_orders_45 rfl ?_
        refine g_bipush (t := 48) dL_orders_46 c_bipush_10 rfl ?_
        refine g_iadd (t := 49) dL_orders_48 rfl ?_
        refine gm_iald_x (a := 41) (n := 64) (t := 50) l6_41 l9_41 s_41 dL_orders_49 (ix_ma _ _ _) (by omega) (by decide) rfl ?_
        rw [e10]
        refine g_if_ne (t1 := 61) (t2 := 53) dL_orders_50 (by decide) rfl (fun h50 => ?_) (fun h50 => ?_)
        · have hno : ¬ (S.1.2.1 k 10 = 0 ∧ (S.1.2.1 k 6).toInt = (t : Int) - 9) := fun z => h50 z.1
          refine g_iinc (i := 5) (t := 64) (L1 := [_, _, _, _, _, _, _, _]) dL_orders_61 rfl (gi_1 _) (by decide) rfl rfl rfl ?_
          refine g_goto (t := 16) dL_orders_64 (by decide) ?_
          first
          | exact ih (k + 1) m J (by omega) (hc.no hno) hs hJ
          | (refine ih (k + 1) (m + 1) _ (by omega) y3 (hs.up rfl) (fun p hp => ?_)
             rw [gup_at]
             by_cases z : p = m
             · rw [if_pos z, z, y2]
             · rw [if_neg z]; exact hJ p (by omega))
          | done
        · obtain ⟨y1, y2, y3⟩ := hc.yes (by omega) h50 (by rw [h37]; exact r1)
          refine g_aload_n (i := 2) (r := 43) (t := 54) dL_orders_53 rfl rfl (Or.inl l9_43) rfl ?_
          refine g_iload_n (i := 3) (t := 55) dL_orders_54 rfl rfl rfl ?_
          refine g_iload (i := 5) (t := 57) dL_orders_55 rfl rfl ?_
          refine gm_iast_x (a := 43) (n := 24) (t := 58) l6_43 l9_43 s_43 dL_orders_57 rfl (by omega) (by decide) rfl ?_
          refine g_iinc (i := 3) (t := 61) (L1 := [_, _, _, _, _, _, _, _]) dL_orders_58 rfl (gi_1 _) (by decide) rfl rfl rfl ?_
          refine g_iinc (i := 5) (t := 64) (L1 := [_, _, _, _, _, _, _, _]) dL_orders_61 rfl (gi_1 _) (by decide) rfl rfl rfl ?_
          refine g_goto (t := 16) dL_orders_64 (by decide) ?_
          first
          | exact ih (k + 1) m J (by omega) (hc.no hno) hs hJ
          | (refine ih (k + 1) (m + 1) _ (by omega) y3 (hs.up rfl) (fun p hp => ?_)
             rw [gup_at]
             by_cases z : p = m
             · rw [if_pos z, z, y2]
             · rw [if_neg z]; exact hJ p (by omega))
          | done
theorem ord_out (hA : aX I S) (hV : vS S.1) (hK : ∀ (J : Nat → Nat → Int32) (v4 v5 v6 v7 : Value), gSame [43] I J → (∀ p, p < (ordS S.1.2.1 S.1.1).1 → J 43 p = nI ((ordS S.1.2.1 S.1.1).2 p)) → Wp E fL_orders (gn h) 73 [.ref 41, .ref 42, .ref 43, .int (nI (ordS S.1.2.1 S.1.1).1), v4, v5, v6, v7] [] (gM J h) K) : ∀ (d t m : Nat) (J : Nat → Nat → Int32) (v5 v6 v7 : Value), t + d = 19 → cutX S.1.2.1 S.1.1 ((t : Int) - 9) 0 m → gSame [43] I J → (∀ p, p < m → J 43 p = nI ((ordS S.1.2.1 S.1.1).2 p)) → Wp E fL_orders (gn h) 6 [.ref 41, .ref 42, .ref 43, .int (nI m), .int (rkI t), v5, v6, v7] [] (gM J h) K := by
  intro d
  induction d with
  | zero =>
    intro t m J v5 v6 v7 hd hc hs hJ
    have ht : t = 19 := by omega
    subst ht
    obtain ⟨r1, r2, r3⟩ := rkI_k 19 (by decide)
    have hm : m = (ordS S.1.2.1 S.1.1).1 := by
      apply Classical.byContradiction
      intro y
      have h1 := hc.1
      have := (hc.2 m (by omega)).mpr (by
        have hb := (hV.2.1 ((ordS S.1.2.1 S.1.1).2 m) 6 (ordS_lt _ _ m (by omega)) (by decide)).2
        have hb : _ ≤ (9 : Int) := hb
        unfold keL
        omega)
      omega
    subst hm
    refine g_iload (i := 4) (t := 8) dL_orders_6 rfl rfl ?_
    refine g_bipush (t := 10) dL_orders_8 c_bipush_10 rfl ?_
    refine g_icmp_ge (t1 := 73) (t2 := 13) dL_orders_10 (by decide) rfl (fun h10 => ?_) (fun h10 => ?_)
    · exact hK J _ _ _ _ hs hJ
    · exact absurd (r2.mpr rfl) h10
  | succ d ih =>
    intro t m J v5 v6 v7 hd hc hs hJ
    obtain ⟨r1, r2, r3⟩ := rkI_k t (by omega)
    have T67 : ∀ (m2 : Nat) (J2 : Nat → Nat → Int32), cutX S.1.2.1 S.1.1 ((t : Int) - 9) S.1.1 m2 → gSame [43] I J2 → (∀ p, p < m2 → J2 43 p = nI ((ordS S.1.2.1 S.1.1).2 p)) → Wp E fL_orders (gn h) 67 [.ref 41, .ref 42, .ref 43, .int (nI m2), .int (rkI t), .int (nI S.1.1), v6, v7] [] (gM J2 h) K := by
      intro m2 J2 hc2 hs2 hJ2
      have hc3 := hc2.up
      rw [show (t : Int) - 9 + 1 = ((t + 1 : Nat) : Int) - 9 by omega] at hc3
      refine g_iinc (i := 4) (t := 70) (L1 := [_, _, _, _, _, _, _, _]) dL_orders_67 rfl (r3 (by omega)) (by decide) rfl rfl rfl ?_
      refine g_goto (t := 6) dL_orders_70 (by decide) ?_
      exact ih (t + 1) m2 J2 _ _ _ (by omega) hc3 hs2 hJ2
    refine g_iload (i := 4) (t := 8) dL_orders_6 rfl rfl ?_
    refine g_bipush (t := 10) dL_orders_8 c_bipush_10 rfl ?_
    refine g_icmp_ge (t1 := 73) (t2 := 13) dL_orders_10 (by decide) rfl (fun h10 => ?_) (fun h10 => ?_)
    · exact absurd (r2.mp h10) (by omega)
    · refine g_iconst (t := 14) dL_orders_13 c_iconst_0 rfl ?_
      refine g_istore (i := 5) (t := 16) (L1 := [_, _, _, _, _, _, _, _]) dL_orders_14 (by decide) rfl rfl rfl ?_
      exact ord_in hA (by omega) T67 S.1.1 0 m J (Nat.zero_add _) hc hs hJ
/-- the lines -/
theorem ord_ln (hA : aX I S) : ∀ (d p : Nat) (J : Nat → Nat → Int32) (v7 : Value), p + d = sC S.1 → gSame [43] I J → (∀ j, j < sC S.1 → J 43 j = nI ((sQ S.1).2.2.2 j)) → (∀ j, j < p → J 43 (8 + j) = nI (lin (sQ S.1) j)) → Wp E fL_orders (gn h) 82 [.ref 41, .ref 42, .ref 43, .int (nI (sC S.1)), .int (lnK (sQ S.1) p), .int (lsa (sQ S.1) p), .int (nI p), v7] [] (gM J h) (gRet fL_orders (gn h) (fun r σ' => ∃ I' : Nat → Nat → Int32, r = none ∧ σ' = gM I' h ∧ gSame [43] I I' ∧ orX I' S)) := by
  obtain ⟨a1, a2, a3, a4⟩ := id hA
  have hc5 : sC S.1 ≤ S.1.1 := ordS_le S.1.2.1 S.1.1
  intro d
  induction d with
  | zero =>
    intro p J v7 hp hs hJ hL
    have hp : p = sC S.1 := by omega
    subst hp
    refine g_iload (i := 6) (t := 84) dL_orders_82 rfl rfl ?_
    refine g_iload_n (i := 3) (t := 85) dL_orders_84 rfl rfl rfl ?_
    refine g_icmp_ge_n (t1 := 175) (t2 := 88) dL_orders_85 (by decide) rfl (by omega) (by omega) (fun h85 => ?_) (fun h85 => ?_)
    · refine g_aload_n (i := 2) (r := 43) (t := 176) dL_orders_175 rfl rfl (Or.inl l9_43) rfl ?_
      refine g_bipush (t := 178) dL_orders_176 c_bipush_16 rfl ?_
      refine g_iload_n (i := 3) (t := 179) dL_orders_178 rfl rfl rfl ?_
      refine gm_iast_x (a := 43) (n := 24) (t := 180) l6_43 l9_43 s_43 dL_orders_179 rfl (by omega) (by decide) rfl ?_
      refine g_aload_n (i := 2) (r := 43) (t := 181) dL_orders_180 rfl rfl (Or.inl l9_43) rfl ?_
      refine g_bipush (t := 183) dL_orders_181 c_bipush_17 rfl ?_
      refine g_iload (i := 4) (t := 185) dL_orders_183 rfl rfl ?_
      refine g_iconst (t := 186) dL_orders_185 c_iconst_1 rfl ?_
      refine g_iadd (t := 187) dL_orders_186 rfl ?_
      refine g_top (lnK_1 _ _) ?_
      refine gm_iast_x (a := 43) (n := 24) (t := 188) l6_43 l9_43 s_43 dL_orders_187 rfl (by omega) (by decide) rfl ?_
      exact g_retV dL_orders_188 rfl (by
    refine ⟨(hs.up rfl).up rfl, fun j hj => ⟨?_, ?_⟩, ?_, gup_self _ _ _ _⟩
    · rw [gup_k _ _ _ (by omega), gup_k _ _ _ (by omega)]; exact hJ j hj
    · rw [gup_k _ _ _ (by omega), gup_k _ _ _ (by omega)]; exact hL j hj
    · rw [gup_k _ _ _ (by decide), gup_self])
    · exfalso; omega
  | succ d ih =>
    intro p J v7 hp hs hJ hL
    have hf : (sQ S.1).2.2.2 p < S.1.1 := ordS_lt S.1.2.1 S.1.1 p (show p < sC S.1 by omega)
    have e41 : J 41 = I 41 := hs.at 41 rfl
    have e42 : J 42 = I 42 := hs.at 42 rfl
    have ew : wsh (aP J) ((sQ S.1).2.2.2 p) = wsh S.1.2.1 ((sQ S.1).2.2.2 p) := wsh_cong (by show J 41 _ = _; rw [e41]; exact a3 _ 0 hf (by decide)) (by show J 41 _ = _; rw [e41]; exact a3 _ 3 hf (by decide)) (by show J 41 _ = _; rw [e41]; exact a3 _ 4 hf (by decide))
    have e5 : J 41 (12 * (sQ S.1).2.2.2 p + 5) = S.1.2.1 ((sQ S.1).2.2.2 p) 5 := by rw [e41]; exact a3 _ 5 hf (by decide)
    have eo : wsh (aP J) ((sQ S.1).2.2.2 p) + nI 2 * J 41 (12 * (sQ S.1).2.2.2 p + 5) = ob (sQ S.1) p := by rw [ew, e5]; rfl
    have b0 : J 42 0 = S.1.2.2 0 := by rw [e42]; exact a4 0 (by decide)
    have b1 : J 42 1 = S.1.2.2 1 := by rw [e42]; exact a4 1 (by decide)
    have b3 : J 42 3 = S.1.2.2 3 := by rw [e42]; exact a4 3 (by decide)
    have hl16 := nln_le (sQ S.1) (sC S.1)
    have T160 : ∀ x y : Int32, x = nI (lin (sQ S.1) p) → y = lsm (sQ S.1) p → Wp E fL_orders (gn h) 160 [.ref 41, .ref 42, .ref 43, .int (nI (sC S.1)), .int x, .int y, .int (nI p), .int (ob (sQ S.1) p)] [] (gM J h) (gRet fL_orders (gn h) (fun r σ' => ∃ I' : Nat → Nat → Int32, r = none ∧ σ' = gM I' h ∧ gSame [43] I I' ∧ orX I' S)) := by
      intro x y hx hy
      subst hx
      subst hy
      refine g_aload_n (i := 2) (r := 43) (t := 161) dL_orders_160 rfl rfl (Or.inl l9_43) rfl ?_
      refine g_bipush (t := 163) dL_orders_161 c_bipush_8 rfl ?_
      refine g_iload (i := 6) (t := 165) dL_orders_163 rfl rfl ?_
      refine g_iadd (t := 166) dL_orders_165 rfl ?_
      refine g_iload (i := 4) (t := 168) dL_orders_166 rfl rfl ?_
      refine gm_iast_x (a := 43) (n := 24) (t := 169) l6_43 l9_43 s_43 dL_orders_168 (ix_a _ _) (by omega) (by decide) rfl ?_
      refine g_iinc (i := 6) (t := 172) (L1 := [_, _, _, _, _, _, _, _]) dL_orders_169 rfl (gi_1 _) (by decide) rfl rfl rfl ?_
      refine g_goto (t := 82) dL_orders_172 (by decide) ?_
      refine ih (p + 1) _ _ (by omega) (hs.up rfl) (fun j hj => ?_) (fun j hj => ?_)
      · rw [gup_k _ _ _ (by omega)]; exact hJ j hj
      · rw [gup_at]
        by_cases z : j = p
        · rw [if_pos (by rw [z]), z]
        · rw [if_neg (by omega)]; exact hL j (by omega)
    cases p with
    | zero =>
      refine g_iload (i := 6) (t := 84) dL_orders_82 rfl rfl ?_
      refine g_iload_n (i := 3) (t := 85) dL_orders_84 rfl rfl rfl ?_
      refine g_icmp_ge_n (t1 := 175) (t2 := 88) dL_orders_85 (by decide) rfl (by omega) (by omega) (fun h85 => ?_) (fun h85 => ?_)
      · exfalso; omega
      · refine g_aload_n (i := 0) (r := 41) (t := 89) dL_orders_88 rfl rfl (Or.inl l9_41) rfl ?_
        refine g_aload_n (i := 2) (r := 43) (t := 90) dL_orders_89 rfl rfl (Or.inl l9_43) rfl ?_
        refine g_iload (i := 6) (t := 92) dL_orders_90 rfl rfl ?_
        refine gm_iald_x (a := 43) (n := 24) (t := 93) l6_43 l9_43 s_43 dL_orders_92 rfl (by omega) (by decide) rfl ?_
        rw [hJ 0 (by omega)]
        refine g_cSp (t := 96) mL_wish k_L_79 smL_wish dL_orders_93 (l_wish (by omega)) rfl rfl (by decide) (by decide) (Nat.le_of_ble_eq_true rfl) rfl (Nat.le_refl _) ?_
        refine g_iconst (t := 97) dL_orders_96 c_iconst_2 rfl ?_
        refine g_aload_n (i := 0) (r := 41) (t := 98) dL_orders_97 rfl rfl (Or.inl l9_41) rfl ?_
        refine g_bipush (t := 100) dL_orders_98 c_bipush_12 rfl ?_
        refine g_aload_n (i := 2) (r := 43) (t := 101) dL_orders_100 rfl rfl (Or.inl l9_43) rfl ?_
        refine g_iload (i := 6) (t := 103) dL_orders_101 rfl rfl ?_
        refine gm_iald_x (a := 43) (n := 24) (t := 104) l6_43 l9_43 s_43 dL_orders_103 rfl (by omega) (by decide) rfl ?_
        rw [hJ 0 (by omega)]
        refine g_imul (t := 105) dL_orders_104 rfl ?_
        refine g_iconst (t := 106) dL_orders_105 c_iconst_5 rfl ?_
        refine g_iadd (t := 107) dL_orders_106 rfl ?_
        refine gm_iald_x (a := 41) (n := 64) (t := 108) l6_41 l9_41 s_41 dL_orders_107 (ix_ma _ _ _) (by omega) (by decide) rfl ?_
        refine g_imul (t := 109) dL_orders_108 rfl ?_
        refine g_iadd (t := 110) dL_orders_109 rfl ?_
        refine g_top eo ?_
        refine g_istore (i := 7) (t := 112) (L1 := [_, _, _, _, _, _, _, _]) dL_orders_110 (by decide) rfl rfl rfl ?_
        refine g_iload (i := 4) (t := 114) dL_orders_112 rfl rfl ?_
        refine g_if_lt (t1 := 139) (t2 := 117) dL_orders_114 (by decide) rfl (fun h114 => ?_) (fun h114 => ?_)
        · refine g_iinc (i := 4) (t := 142) (L1 := [_, _, _, _, _, _, _, _]) dL_orders_139 rfl (show lnK (sQ S.1) 0 + Int32.ofInt 1 = nI 0 by show (-1 : Int32) + Int32.ofInt 1 = nI 0; decide +kernel) (by decide) rfl rfl rfl ?_
          refine g_iload (i := 7) (t := 144) dL_orders_142 rfl rfl ?_
          refine g_istore (i := 5) (t := 146) (L1 := [_, _, _, _, _, _, _, _]) dL_orders_144 (by decide) rfl rfl rfl ?_
          refine g_goto (t := 160) dL_orders_146 (by decide) ?_
          exact T160 _ _ rfl rfl
        · exact absurd (show (-1 : Int32) < 0 by decide) h114
    | succ p =>
      refine g_iload (i := 6) (t := 84) dL_orders_82 rfl rfl ?_
      refine g_iload_n (i := 3) (t := 85) dL_orders_84 rfl rfl rfl ?_
      refine g_icmp_ge_n (t1 := 175) (t2 := 88) dL_orders_85 (by decide) rfl (by omega) (by omega) (fun h85 => ?_) (fun h85 => ?_)
      · exfalso; omega
      · refine g_aload_n (i := 0) (r := 41) (t := 89) dL_orders_88 rfl rfl (Or.inl l9_41) rfl ?_
        refine g_aload_n (i := 2) (r := 43) (t := 90) dL_orders_89 rfl rfl (Or.inl l9_43) rfl ?_
        refine g_iload (i := 6) (t := 92) dL_orders_90 rfl rfl ?_
        refine gm_iald_x (a := 43) (n := 24) (t := 93) l6_43 l9_43 s_43 dL_orders_92 rfl (by omega) (by decide) rfl ?_
        rw [hJ (p + 1) (by omega)]
        refine g_cSp (t := 96) mL_wish k_L_79 smL_wish dL_orders_93 (l_wish (by omega)) rfl rfl (by decide) (by decide) (Nat.le_of_ble_eq_true rfl) rfl (Nat.le_refl _) ?_
        refine g_iconst (t := 97) dL_orders_96 c_iconst_2 rfl ?_
        refine g_aload_n (i := 0) (r := 41) (t := 98) dL_orders_97 rfl rfl (Or.inl l9_41) rfl ?_
        refine g_bipush (t := 100) dL_orders_98 c_bipush_12 rfl ?_
        refine g_aload_n (i := 2) (r := 43) (t := 101) dL_orders_100 rfl rfl (Or.inl l9_43) rfl ?_
        refine g_iload (i := 6) (t := 103) dL_orders_101 rfl rfl ?_
        refine gm_iald_x (a := 43) (n := 24) (t := 104) l6_43 l9_43 s_43 dL_orders_103 rfl (by omega) (by decide) rfl ?_
        rw [hJ (p + 1) (by omega)]
        refine g_imul (t := 105) dL_orders_104 rfl ?_
        refine g_iconst (t := 106) dL_orders_105 c_iconst_5 rfl ?_
        refine g_iadd (t := 107) dL_orders_106 rfl ?_
        refine gm_iald_x (a := 41) (n := 64) (t := 108) l6_41 l9_41 s_41 dL_orders_107 (ix_ma _ _ _) (by omega) (by decide) rfl ?_
        refine g_imul (t := 109) dL_orders_108 rfl ?_
        refine g_iadd (t := 110) dL_orders_109 rfl ?_
        refine g_top eo ?_
        refine g_istore (i := 7) (t := 112) (L1 := [_, _, _, _, _, _, _, _]) dL_orders_110 (by decide) rfl rfl rfl ?_
        refine g_iload (i := 4) (t := 114) dL_orders_112 rfl rfl ?_
        refine g_if_lt (t1 := 139) (t2 := 117) dL_orders_114 (by decide) rfl (fun h114 => ?_) (fun h114 => ?_)
        · exact absurd h114 (nI_pos (by have := lin_le (sQ S.1) p; omega))
        · refine g_aload_n (i := 1) (r := 42) (t := 118) dL_orders_117 rfl rfl (Or.inl l9_42) rfl ?_
          refine g_iconst (t := 119) dL_orders_118 c_iconst_3 rfl ?_
          refine gm_iald_x (a := 42) (n := 8) (t := 120) l6_42 l9_42 s_42 dL_orders_119 rfl (by omega) (by decide) rfl ?_
          refine g_iconst (t := 121) dL_orders_120 c_iconst_1 rfl ?_
          rw [b3]
          refine g_icmp_ne (t1 := 149) (t2 := 124) dL_orders_121 (by decide) rfl (fun h121 => ?_) (fun h121 => ?_)
          · refine g_iload (i := 5) (t := 151) dL_orders_149 rfl rfl ?_
            refine g_aload_n (i := 1) (r := 42) (t := 152) dL_orders_151 rfl rfl (Or.inl l9_42) rfl ?_
            refine g_iconst (t := 153) dL_orders_152 c_iconst_1 rfl ?_
            refine gm_iald_x (a := 42) (n := 8) (t := 154) l6_42 l9_42 s_42 dL_orders_153 rfl (by omega) (by decide) rfl ?_
            rw [b1]
            refine g_iload (i := 7) (t := 156) dL_orders_154 rfl rfl ?_
            refine g_iadd (t := 157) dL_orders_156 rfl ?_
            refine g_iadd (t := 158) dL_orders_157 rfl ?_
            rw [← Int32.add_assoc]
            refine g_istore (i := 5) (t := 160) (L1 := [_, _, _, _, _, _, _, _]) dL_orders_158 (by decide) rfl rfl rfl ?_
            first
            | exact T160 _ _ (lnS_in (Q := sQ S.1) h121 h136).1 (lnS_in (Q := sQ S.1) h121 h136).2
            | exact T160 _ _ (lnS_out (Q := sQ S.1) (Or.inr h136)).1 (lnS_out (Q := sQ S.1) (Or.inr h136)).2
            | exact T160 _ _ (lnS_out (Q := sQ S.1) (Or.inl h121)).1 (lnS_out (Q := sQ S.1) (Or.inl h121)).2
            | done
          · refine g_iload (i := 5) (t := 126) dL_orders_124 rfl rfl ?_
            refine g_aload_n (i := 1) (r := 42) (t := 127) dL_orders_126 rfl rfl (Or.inl l9_42) rfl ?_
            refine g_iconst (t := 128) dL_orders_127 c_iconst_1 rfl ?_
            refine gm_iald_x (a := 42) (n := 8) (t := 129) l6_42 l9_42 s_42 dL_orders_128 rfl (by omega) (by decide) rfl ?_
            refine g_iadd (t := 130) dL_orders_129 rfl ?_
            refine g_iload (i := 7) (t := 132) dL_orders_130 rfl rfl ?_
            refine g_iadd (t := 133) dL_orders_132 rfl ?_
            refine g_aload_n (i := 1) (r := 42) (t := 134) dL_orders_133 rfl rfl (Or.inl l9_42) rfl ?_
            refine g_iconst (t := 135) dL_orders_134 c_iconst_0 rfl ?_
            refine gm_iald_x (a := 42) (n := 8) (t := 136) l6_42 l9_42 s_42 dL_orders_135 rfl (by omega) (by decide) rfl ?_
            rw [b1, b0]
            refine g_icmp_le (t1 := 149) (t2 := 139) dL_orders_136 (by decide) rfl (fun h136 => ?_) (fun h136 => ?_)
            · refine g_iload (i := 5) (t := 151) dL_orders_149 rfl rfl ?_
              refine g_aload_n (i := 1) (r := 42) (t := 152) dL_orders_151 rfl rfl (Or.inl l9_42) rfl ?_
              refine g_iconst (t := 153) dL_orders_152 c_iconst_1 rfl ?_
              refine gm_iald_x (a := 42) (n := 8) (t := 154) l6_42 l9_42 s_42 dL_orders_153 rfl (by omega) (by decide) rfl ?_
              rw [b1]
              refine g_iload (i := 7) (t := 156) dL_orders_154 rfl rfl ?_
              refine g_iadd (t := 157) dL_orders_156 rfl ?_
              refine g_iadd (t := 158) dL_orders_157 rfl ?_
              rw [← Int32.add_assoc]
              refine g_istore (i := 5) (t := 160) (L1 := [_, _, _, _, _, _, _, _]) dL_orders_158 (by decide) rfl rfl rfl ?_
              first
              | exact T160 _ _ (lnS_in (Q := sQ S.1) h121 h136).1 (lnS_in (Q := sQ S.1) h121 h136).2
              | exact T160 _ _ (lnS_out (Q := sQ S.1) (Or.inr h136)).1 (lnS_out (Q := sQ S.1) (Or.inr h136)).2
              | exact T160 _ _ (lnS_out (Q := sQ S.1) (Or.inl h121)).1 (lnS_out (Q := sQ S.1) (Or.inl h121)).2
              | done
            · refine g_iinc (i := 4) (t := 142) (L1 := [_, _, _, _, _, _, _, _]) dL_orders_139 rfl (show lnK (sQ S.1) (p + 1) + Int32.ofInt 1 = nI (lin (sQ S.1) p + 1) from gi_1 _) (by decide) rfl rfl rfl ?_
              refine g_iload (i := 7) (t := 144) dL_orders_142 rfl rfl ?_
              refine g_istore (i := 5) (t := 146) (L1 := [_, _, _, _, _, _, _, _]) dL_orders_144 (by decide) rfl rfl rfl ?_
              refine g_goto (t := 160) dL_orders_146 (by decide) ?_
              first
              | exact T160 _ _ (lnS_in (Q := sQ S.1) h121 h136).1 (lnS_in (Q := sQ S.1) h121 h136).2
              | exact T160 _ _ (lnS_out (Q := sQ S.1) (Or.inr h136)).1 (lnS_out (Q := sQ S.1) (Or.inr h136)).2
              | exact T160 _ _ (lnS_out (Q := sQ S.1) (Or.inl h121)).1 (lnS_out (Q := sQ S.1) (Or.inl h121)).2
              | done
theorem l_orders (hA : aX I S) (hV : vS S.1) : gQV E fL_orders [.ref 41, .ref 42, .ref 43] I h (fun I' => gSame [43] I I' ∧ orX I' S) := by
  refine gEv.of rfl (Nat.le_refl _) (Nat.le_of_ble_eq_true rfl) (L := [.ref 41, .ref 42, .ref 43, .null, .null, .null, .null, .null]) rfl ?_
  have T73 : ∀ (J : Nat → Nat → Int32) (v4 v5 v6 v7 : Value), gSame [43] I J → (∀ p, p < (ordS S.1.2.1 S.1.1).1 → J 43 p = nI ((ordS S.1.2.1 S.1.1).2 p)) → Wp E fL_orders (gn h) 73 [.ref 41, .ref 42, .ref 43, .int (nI (ordS S.1.2.1 S.1.1).1), v4, v5, v6, v7] [] (gM J h) (gRet fL_orders (gn h) (fun r σ' => ∃ I' : Nat → Nat → Int32, r = none ∧ σ' = gM I' h ∧ gSame [43] I I' ∧ orX I' S)) := by
    intro J v4 v5 v6 v7 hs hJ
    refine g_iconst (t := 74) dL_orders_73 c_iconst_m1 rfl ?_
    refine g_istore (i := 4) (t := 76) (L1 := [_, _, _, _, _, _, _, _]) dL_orders_74 (by decide) rfl rfl rfl ?_
    refine g_iconst (t := 77) dL_orders_76 c_iconst_0 rfl ?_
    refine g_istore (i := 5) (t := 79) (L1 := [_, _, _, _, _, _, _, _]) dL_orders_77 (by decide) rfl rfl rfl ?_
    refine g_iconst (t := 80) dL_orders_79 c_iconst_0 rfl ?_
    refine g_istore (i := 6) (t := 82) (L1 := [_, _, _, _, _, _, _, _]) dL_orders_80 (by decide) rfl rfl rfl ?_
    exact ord_ln hA (sC S.1) 0 J _ (Nat.zero_add _) hs hJ (fun j hj => absurd hj (Nat.not_lt_zero _))
  refine g_iconst (t := 1) dL_orders_0 c_iconst_0 rfl ?_
  refine g_istore_n (i := 3) (t := 2) (L1 := [_, _, _, _, _, _, _, _]) dL_orders_1 rfl (by decide) rfl rfl rfl ?_
  refine g_bipush (t := 4) dL_orders_2 c_bipush_m9 rfl ?_
  refine g_top (y := rkI 0) (by decide +kernel) ?_
  refine g_istore (i := 4) (t := 6) (L1 := [_, _, _, _, _, _, _, _]) dL_orders_4 (by decide) rfl rfl rfl ?_
  refine ord_out hA hV T73 19 0 0 I _ _ _ rfl ⟨Nat.zero_le _, fun p hp => ⟨fun z => absurd z (Nat.not_lt_zero _), fun z => ?_⟩⟩ gSame.rf (fun p hp => absurd hp (Nat.not_lt_zero _))
  have hb := (hV.2.1 ((ordS S.1.2.1 S.1.1).2 p) 6 (ordS_lt _ _ p hp) (by decide)).1
  have hb : (-9 : Int) ≤ _ := hb
  unfold keL at z
  omega
end ORD

