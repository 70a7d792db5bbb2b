/-! what is valid, and bounds of what a line computes -/
def lov : Nat → Int
  | 6 => -9
  | 7 => 1
  | _ => 0
def hiv : Nat → Int
  | 0 => 400
  | 1 => 9
  | 2 => 9
  | 3 => 400
  | 4 => 400
  | 5 => 20
  | 6 => 9
  | 7 => 100
  | 8 => 50
  | 9 => 4
  | _ => 1
def lob : Nat → Int
  | 0 => 20
  | _ => 0
def hib : Nat → Int
  | 0 => 999
  | 1 => 40
  | 2 => 40
  | 3 => 1
  | 4 => 5
  | 5 => 3
  | _ => 1
def vS (s : sS) : Prop := s.1 ≤ 16 ∧ (∀ i w, i < s.1 → w < 11 → bnd (s.2.1 i w) (lov w) (hiv w)) ∧ ∀ w, w < 7 → bnd (s.2.2 w) (lob w) (hib w)
def aV (A : lA) : Prop := A.2.2 ≤ 16 ∧ (∀ p, A.2.1 ≤ p → p < A.2.1 + A.2.2 → ∀ w, w < 11 → bnd (A.1.1 (A.1.2.2.2 p) w) (lov w) (hiv w)) ∧ (∀ w, w < 7 → bnd (A.1.2.1 w) (lob w) (hib w)) ∧ bnd A.1.2.2.1 20 999
theorem aV_of {s : sS} {w : Int32} {l : Nat} (h : vS s) (hw : bnd w 20 999) : aV (lnA (sW s w) (sC s) l) := by
  obtain ⟨h1, h2, h3⟩ := h
  have hc := sC_le h1
  have a := frC_le (sW s w) (sC s) (l + 1)
  refine ⟨by show frC _ _ _ - frC _ _ _ ≤ 16; omega, fun p p1 p2 k hk => ?_, h3, hw⟩
  have p2 : p < frC (sW s w) (sC s) l + (frC (sW s w) (sC s) (l + 1) - frC (sW s w) (sC s) l) := p2
  have p1 : frC (sW s w) (sC s) l ≤ p := p1
  exact h2 _ k (ordS_lt _ _ p (show p < sC s by omega)) hk
section BND
variable {A : lA} {z : lZ} {p : Nat}
theorem grt_b {P : dP} {i : Nat} (h : ∀ w, w < 11 → bnd (P i w) (lov w) (hiv w)) : bnd (grt P i) 0 400 := b_mx (h 3 (by decide)) (h 4 (by decide))
theorem wsh_b {P : dP} {i : Nat} (h : ∀ w, w < 11 → bnd (P i w) (lov w) (hiv w)) : bnd (wsh P i) 0 400 := b_mn (b_mx (h 0 (by decide)) (h 3 (by decide))) (grt_b h)
theorem rm_b (h : aV A) : bnd (rmL A) (-1220) 999 := by
  obtain ⟨h1, h2, h3, h4⟩ := h
  unfold rmL
  rw [sbS_eq]
  have a := (b_mul (h3 1 (by decide)) (b_nI (n := A.2.2 - 1) (a := 0) (b := 15) (by omega) (by omega) (by omega)) (by decide)).1
  have b := smS_b16 (lo := A.2.1) (n := A.2.2) (g := fun p => nI 2 * A.1.1 (A.1.2.2.2 p) 5) (a := 0) (b := 40) (by decide) (by decide) (by decide) (by decide) h1 (fun p p1 p2 => (b_mul (b_nI (n := 2) (a := 0) (b := 2) (by decide) (by decide) (by decide)) (h2 p p1 p2 5 (by decide)) (by decide)).1)
  exact b_wk (b_sub (b_sub h4 a (by decide) (by decide)) b (by decide) (by decide)) (by decide) (by decide)
def zV (A : lA) (z : lZ) : Prop := ∀ p, A.2.1 ≤ p → p < A.2.1 + A.2.2 → bnd (z.2 p) 0 400
theorem cz_b (h : aV A) (p1 : A.2.1 ≤ p) (p2 : p < A.2.1 + A.2.2) : bnd (czL A z p) 0 400 := by
  have r := h.2.1 p p1 p2
  have g := grt_b r
  have l := r 3 (by decide)
  unfold czL bnd
  rw [mn_toInt, mx_toInt]
  obtain ⟨g1, g2⟩ := g
  have l1 : 0 ≤ (A.1.1 (A.1.2.2.2 p) 3).toInt := l.1
  omega
theorem zV_t (h : aV A) : ∀ t, zV A (ztL A t)
  | 0 => fun p p1 p2 => wsh_b (h.2.1 p p1 p2)
  | t + 1 => fun p p1 p2 => by
    show bnd (if (ztL A t).1 p = none then czL A (ztL A t) p else (ztL A t).2 p) 0 400
    split
    · exact cz_b h p1 p2
    · exact zV_t h t p p1 p2
theorem fe_b (h : aV A) (hz : zV A z) : bnd (feL A z) (-7620) 999 := by
  have a := rm_b h
  unfold feL
  rw [sbS_eq]
  have b := smS_b16 (lo := A.2.1) (n := A.2.2) (g := fun p => if z.1 p = none then A.1.1 (A.1.2.2.2 p) 0 else z.2 p) (a := 0) (b := 400) (by decide) (by decide) (by decide) (by decide) h.1 (fun p p1 p2 => by
    show bnd (if z.1 p = none then A.1.1 (A.1.2.2.2 p) 0 else z.2 p) 0 400
    split
    · exact h.2.1 p p1 p2 0 (by decide)
    · exact hz p p1 p2)
  exact b_wk (b_sub a b (by decide) (by decide)) (by decide) (by decide)
theorem wg_b (h : aV A) (p1 : A.2.1 ≤ p) (p2 : p < A.2.1 + A.2.2) : bnd (wgL A z p) 0 3600 := by
  have r := h.2.1 p p1 p2
  unfold wgL
  split
  · unfold wgt
    split
    · exact b_wk (r 1 (by decide)) (by decide) (by decide)
    · exact b_wk (b_mul (r 2 (by decide)) (r 0 (by decide)) (by decide)).1 (by decide) (by decide)
  · exact b_nI (by decide) (by decide) (by decide)
theorem ws_b (h : aV A) {n : Nat} (hn : n ≤ A.2.2) : bnd (smS (wgL A z) A.2.1 n) 0 57600 := by
  have h1 := h.1
  exact b_wk (smS_b16 (a := 0) (b := 3600) (by decide) (by decide) (by decide) (by decide) (by omega) (fun p p1 p2 => wg_b h p1 (by omega))) (by decide) (by decide)
theorem ws_le (h : aV A) {n m : Nat} (hnm : n ≤ m) (hn : m ≤ A.2.2) : (smS (wgL A z) A.2.1 n).toInt ≤ (smS (wgL A z) A.2.1 m).toInt := by
  have h1 := h.1
  exact smS_mono (b := 3600) (by decide) (by decide) n m hnm (by omega) (fun p p1 p2 => wg_b h p1 (by omega))
theorem sh_b (h : aV A) (hz : zV A z) : bnd (shL A z) 0 7620 := by
  have a := fe_b h hz
  unfold shL
  refine b_mx2 (a := -7620) ?_ (b_nI (by decide) (by decide) (by decide))
  split
  · exact b_wk a (by decide) (by decide)
  · exact b_wk (b_neg a (by decide)) (by decide) (by decide)
theorem pt_b {x s t : Int32} (hx : bnd x 0 7620) (hs : bnd s 0 57600) (ht : bnd t 0 57600) (hst : s.toInt ≤ t.toInt) : bnd (ptS x s t) 0 7620 ∧ (¬ t = 0 → ptS x s t = x * s / t) ∧ (t = 0 → ptS x s t = nI 0) := by
  obtain ⟨a, ha, ha2, rfl⟩ := nn_of hx (by decide)
  obtain ⟨b, hb, hb2, rfl⟩ := nn_of hs (by decide)
  obtain ⟨c, hc, hc2, rfl⟩ := nn_of ht (by decide)
  rw [nI_toInt hb, nI_toInt hc] at hst
  have hab : a * b ≤ 7620 * 57600 := Nat.mul_le_mul (by omega) (by omega)
  unfold ptS
  by_cases q : c = 0
  · subst q
    rw [if_neg (by decide)]
    exact ⟨b_nI (by decide) (by decide) (by decide), fun z => absurd nI_0 z, fun _ => rfl⟩
  · have q0 : 0 < c := by omega
    rw [if_pos (nI_lt q0 hc), pk_mul, fdv_nat (by omega) q0 hc, pk_div (by omega) q0 hc]
    have hd : a * b / c ≤ a := by
      apply Nat.div_le_of_le_mul
      rw [Nat.mul_comm c a]
      exact Nat.mul_le_mul_left a (by omega)
    generalize a * b / c = d at hd ⊢
    exact ⟨b_nI (by omega) (by omega) (by omega), fun _ => rfl, fun z => absurd z (nI_ne0 q0 hc)⟩
theorem gt_b (h : aV A) (hz : zV A z) (p1 : A.2.1 ≤ p) (p2 : p < A.2.1 + A.2.2) : bnd (gtL A z p) (-7620) 7620 := by
  unfold gtL ttL
  have a := (pt_b (sh_b h hz) (ws_b (z := z) h (n := p - A.2.1 + 1) (by omega)) (ws_b (z := z) h (Nat.le_refl _)) (ws_le h (by omega) (Nat.le_refl _))).1
  have b := (pt_b (sh_b h hz) (ws_b (z := z) h (n := p - A.2.1) (by omega)) (ws_b (z := z) h (Nat.le_refl _)) (ws_le h (by omega) (Nat.le_refl _))).1
  exact b_wk (b_sub a b (by decide) (by decide)) (by decide) (by decide)
theorem nz_b (h : aV A) (hz : zV A z) (p1 : A.2.1 ≤ p) (p2 : p < A.2.1 + A.2.2) : bnd (nzL A z p) (-7620) 8020 := by
  have a := gt_b h hz p1 p2
  have b := h.2.1 p p1 p2 0 (by decide)
  unfold nzL
  split
  · exact b_wk (b_add b a (by decide) (by decide)) (by decide) (by decide)
  · exact b_wk (b_add b (b_neg a (by decide)) (by decide) (by decide)) (by decide) (by decide)
theorem cr_b (h : aV A) (hz : zV A z) (p1 : A.2.1 ≤ p) (p2 : p < A.2.1 + A.2.2) : bnd (crL A z p) (-8020) 8020 ∧ (crL A z p).toInt = (czL A z p).toInt - (nzL A z p).toInt := by
  have a := nz_b h hz p1 p2
  have b := cz_b (z := z) h p1 p2
  refine ⟨b_wk (b_sub b a (by decide) (by decide)) (by decide) (by decide), ?_⟩
  unfold bnd at a b
  exact t_sub (by omega) (by omega)
/-- some item is frozen -/
theorem fz_some (h : aV A) (hz : zV A z) (ho : opL A z = true) : ∃ k, k < A.2.2 ∧ z.1 (A.2.1 + k) = none ∧ fzL A z (A.2.1 + k) = true := by
  obtain ⟨k, k1, k2⟩ := (opL_iff A z).mp ho
  apply Classical.byContradiction
  intro q
  have q : ∀ j, j < A.2.2 → z.1 (A.2.1 + j) = none → fzL A z (A.2.1 + j) = false := fun j j1 j2 => by
    cases e : fzL A z (A.2.1 + j) with
    | false => rfl
    | true => exact absurd ⟨j, j1, j2, e⟩ q
  have nf : ∀ j, j < A.2.2 → z.1 (A.2.1 + j) = none → ¬ (wrL A z = 0 ∨ (0 < wrL A z ∧ 0 < crL A z (A.2.1 + j)) ∨ (wrL A z < 0 ∧ crL A z (A.2.1 + j) < 0)) := fun j j1 j2 => of_decide_eq_false (q j j1 j2)
  have w0 := nf k k1 k2
  have z0 : (0 : Int32).toInt = 0 := by decide +kernel
  have wne : ¬ wrL A z = 0 := fun y => w0 (Or.inl y)
  have wne2 : (wrL A z).toInt ≠ 0 := fun y => wne (t_eq.mpr (by rw [y, z0]))
  rcases Int.lt_or_gt_of_ne wne2 with y | y
  · have y2 : wrL A z < 0 := t_lt.mpr (by omega)
    have := smS_b16 (lo := A.2.1) (n := A.2.2) (g := fun p => if z.1 p = none then crL A z p else nI 0) (a := 0) (b := 8020) (by decide) (by decide) (by decide) (by decide) h.1 (fun p p1 p2 => by
      show bnd (if z.1 p = none then crL A z p else nI 0) 0 8020
      split
      · rename_i e
        have := nf (p - A.2.1) (by omega) (by rw [Nat.add_sub_cancel' p1]; exact e)
        rw [Nat.add_sub_cancel' p1] at this
        have c := cr_b h hz p1 p2
        refine ⟨?_, c.1.2⟩
        apply Classical.byContradiction
        intro u
        exact this (Or.inr (Or.inr ⟨y2, t_lt.mpr (by omega)⟩))
      · exact b_nI (by decide) (by decide) (by decide))
    have h0 : 16 * 0 ≤ (wrL A z).toInt := this.1
    omega
  · have y2 : 0 < wrL A z := t_lt.mpr (by omega)
    have := smS_b16 (lo := A.2.1) (n := A.2.2) (g := fun p => if z.1 p = none then crL A z p else nI 0) (a := -8020) (b := 0) (by decide) (by decide) (by decide) (by decide) h.1 (fun p p1 p2 => by
      show bnd (if z.1 p = none then crL A z p else nI 0) (-8020) 0
      split
      · rename_i e
        have := nf (p - A.2.1) (by omega) (by rw [Nat.add_sub_cancel' p1]; exact e)
        rw [Nat.add_sub_cancel' p1] at this
        have c := cr_b h hz p1 p2
        refine ⟨c.1.1, ?_⟩
        apply Classical.byContradiction
        intro u
        exact this (Or.inr (Or.inl ⟨y2, t_lt.mpr (by omega)⟩))
      · exact b_nI (by decide) (by decide) (by decide))
    have h0 : (wrL A z).toInt ≤ 16 * 0 := this.2
    omega
/-- how many are open -/
def opn (A : lA) (z : lZ) : Nat → Nat
  | 0 => 0
  | k + 1 => opn A z k + if z.1 (A.2.1 + k) = none then 1 else 0
theorem opn_le (A : lA) (z : lZ) : ∀ n, opn A z n ≤ n
  | 0 => Nat.le_refl _
  | n + 1 => by have := opn_le A z n; unfold opn; split <;> omega
theorem nx_none {t : Nat} (q : (nxL A z t).1 p = none) : z.1 p = none ∧ fzL A z p = false := by
  have q : (if z.1 p = none then (if fzL A z p then some t else none) else z.1 p) = none := q
  by_cases e : z.1 p = none
  · rw [if_pos e] at q
    refine ⟨e, ?_⟩
    cases y : fzL A z p with
    | false => rfl
    | true => rw [y] at q; exact absurd q (by simp)
  · rw [if_neg e] at q; exact absurd q e
theorem opn_nx (A : lA) (z : lZ) (t : Nat) : ∀ n, opn A (nxL A z t) n ≤ opn A z n ∧ ∀ k, k < n → z.1 (A.2.1 + k) = none → fzL A z (A.2.1 + k) = true → opn A (nxL A z t) n < opn A z n
  | 0 => ⟨Nat.le_refl _, fun k hk => absurd hk (Nat.not_lt_zero _)⟩
  | n + 1 => by
    obtain ⟨i1, i2⟩ := opn_nx A z t n
    have s : (if (nxL A z t).1 (A.2.1 + n) = none then 1 else 0) ≤ (if z.1 (A.2.1 + n) = none then 1 else 0) := by
      split
      · rename_i e
        rw [if_pos (nx_none e).1]
        exact Nat.le_refl _
      · exact Nat.zero_le _
    refine ⟨by unfold opn; omega, fun k hk e f => ?_⟩
    unfold opn
    by_cases y : k = n
    · subst y
      rw [if_pos e, if_neg (fun u => by rw [(nx_none u).2] at f; exact absurd f (by decide))]
      omega
    · have := i2 k (by omega) e f
      omega
theorem opn_0 (h : opn A z A.2.2 = 0) : opL A z = false := by
  cases e : opL A z with
  | false => rfl
  | true =>
    exfalso
    obtain ⟨k, k1, k2⟩ := (opL_iff A z).mp e
    have : ∀ n, k < n → 0 < opn A z n := by
      intro n
      induction n with
      | zero => omega
      | succ n ih =>
        intro hk
        unfold opn
        by_cases y : k = n
        · subst y; rw [if_pos k2]; omega
        · have := ih (by omega); omega
    have := this A.2.2 k1
    omega
theorem ps_done (h : aV A) : ∀ k t, opn A (ztL A t) A.2.2 ≤ k → opL A (ztL A (psL A k t)) = false
  | 0, t, q => opn_0 (Nat.le_zero.mp q)
  | k + 1, t, q => by
    unfold psL
    by_cases e : opL A (ztL A t) = true
    · rw [if_pos e]
      obtain ⟨j, j1, j2, j3⟩ := fz_some h (zV_t h t) e
      have := (opn_nx A (ztL A t) (t + 1) A.2.2).2 j j1 j2 j3
      exact ps_done h k (t + 1) (by show opn A (nxL A (ztL A t) (t + 1)) A.2.2 ≤ k; omega)
    · rw [if_neg e]
      cases y : opL A (ztL A t) with
      | false => rfl
      | true => exact absurd y e
theorem np_done (h : aV A) : opL A (ztL A (npL A)) = false := ps_done h 16 0 (Nat.le_trans (opn_le _ _ _) h.1)
theorem re_b (h : aV A) : bnd (reL A) (-7620) 999 := by
  have a := rm_b h
  unfold reL
  rw [sbS_eq]
  have b := smS_b16 (lo := A.2.1) (n := A.2.2) (g := fun p => (ztL A (npL A)).2 p) (a := 0) (b := 400) (by decide) (by decide) (by decide) (by decide) h.1 (fun p p1 p2 => zV_t h _ p p1 p2)
  exact b_wk (b_sub a b (by decide) (by decide)) (by decide) (by decide)
end BND

