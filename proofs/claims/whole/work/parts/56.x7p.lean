/-! FlexRowsModel: all is drawn -/
def dL (I : Nat → Nat → Int32) (Q : lQ) (c n : Nat) : Prop := (∀ l, l < n → I 55 l = reL (lnA Q c l) ∧ I 56 l = nI (npL (lnA Q c l)) ∧ I 57 l = bI (grL (lnA Q c l)) ∧ I 60 l = ltQ Q c l ∧ I 61 l = lhA (lnA Q c l)) ∧ ∀ p, p < c → lin Q p < n → I 50 p = szQ Q c p ∧ I 52 p = psQ Q c p ∧ I 58 p = lfQ Q c p ∧ I 59 p = tpQ Q c p
def dM (I : Nat → Nat → Int32) (s : sS) (w : Int32) : Prop := mO I (sC s) (sQ s).2.2.2 ∧ mL I (sW s w) (sC s) ∧ dL I (sW s w) (sC s) (nln (sW s w) (sC s))
section X7P
variable {E : gE} {I : Nat → Nat → Int32} {h : Int64} {s : sS}
theorem lnA_hi (Q : lQ) (c : Nat) {l : Nat} (hl : l < nln Q c) : (lnA Q c l).2.1 + (lnA Q c l).2.2 = frC Q c (l + 1) ∧ 1 ≤ (lnA Q c l).2.2 := by
  have := frC_pos Q c l hl
  constructor
  · show frC Q c l + (frC Q c (l + 1) - frC Q c l) = _; omega
  · show 1 ≤ frC Q c (l + 1) - frC Q c l; omega
theorem mB_of {w : Int32} {l : Nat} (hC : mC I s) (hn : s.1 ≤ 16) (hO : mO I (sC s) (sQ s).2.2.2) (hL : mL I (sW s w) (sC s)) (hl : l < nln (sW s w) (sC s)) : mB I s (lnA (sW s w) (sC s) l) l := by
  have hc := sC_le hn
  have hnl := nln_le (sW s w) (sC s)
  have hhi := (lnA_hi (sW s w) (sC s) hl).1
  have hle := frC_le (sW s w) (sC s) (l + 1)
  obtain ⟨a, b⟩ := hL.2.2 l hl
  refine ⟨hC, hn, by omega, a, by rw [hhi]; exact b, by omega, fun p p1 p2 => ?_, rfl, rfl⟩
  rw [hhi] at p2
  exact ⟨hO.2 p (by omega), sQ_le hn (by omega)⟩
theorem x7_dr_loop {w : Int32} {I0 : Nat → Nat → Int32} (hV : vS s) (hw : bnd w 20 999) (hC : mC I0 s) (hO : mO I0 (sC s) (sQ s).2.2.2) (hL : mL I0 (sW s w) (sC s)) : ∀ (d l : Nat) (I : Nat → Nat → Int32), l + d = nln (sW s w) (sC s) → gSame [50, 51, 52, 53, 54, 55, 56, 57, 58, 59, 60, 61] I0 I → dL I (sW s w) (sC s) l → Wp E fX7_draws 62 11 [.ref 41, .int w, .int (nI l)] [] (gM I h) (gRet fX7_draws 62 (fun r σ' => ∃ I', r = none ∧ σ' = gM I' h ∧ gSame [50, 51, 52, 53, 54, 55, 56, 57, 58, 59, 60, 61] I0 I' ∧ dL I' (sW s w) (sC s) (nln (sW s w) (sC s)))) := by
  have hn := hV.1
  have hc := sC_le hn
  have hnl := nln_le (sW s w) (sC s)
  intro d
  induction d with
  | zero =>
    intro l I hl hs hD
    have hl : l = nln (sW s w) (sC s) := by omega
    subst hl
    refine g_iload_n (i := 2) (t := 12) dX7_draws_11 rfl rfl rfl ?_
    refine g_aload_n (i := 0) (r := 41) (t := 13) dX7_draws_12 rfl rfl (Or.inl l9_41) rfl ?_
    refine gm_getI (o := 41) (ci := 7) (k := 13) (t := 16) l6_41 l9_41 s_41 gf_X7_182 rfl dX7_draws_13 rfl ?_
    rw [show I 41 13 = nI (nln (sW s w) (sC s)) by rw [hs.at 41 rfl]; exact hL.1]
    refine g_icmp_ge_n (t1 := 42) (t2 := 19) dX7_draws_16 (by decide) rfl (by omega) (by omega) (fun h16 => ?_) (fun h16 => ?_)
    · exact g_retV dX7_draws_42 rfl (⟨hs, hD⟩)
    · exfalso; omega
  | succ d ih =>
    intro l I hl hs hD
    have hl' : l < nln (sW s w) (sC s) := by omega
    have hOI : mO I (sC s) (sQ s).2.2.2 := by rw [mO, hs.at 41 rfl, hs.at 46 rfl]; exact hO
    have hLI : mL I (sW s w) (sC s) := by rw [mL, hs.at 41 rfl, hs.at 47 rfl, hs.at 48 rfl, hs.at 49 rfl]; exact hL
    have hB := mB_of (hC.keep (hs.at 42 rfl)) hn hOI hLI hl'
    have hAV := aV_of (l := l) hV hw
    obtain ⟨hhi, h1⟩ := lnA_hi (sW s w) (sC s) hl'
    refine g_iload_n (i := 2) (t := 12) dX7_draws_11 rfl rfl rfl ?_
    refine g_aload_n (i := 0) (r := 41) (t := 13) dX7_draws_12 rfl rfl (Or.inl l9_41) rfl ?_
    refine gm_getI (o := 41) (ci := 7) (k := 13) (t := 16) l6_41 l9_41 s_41 gf_X7_182 rfl dX7_draws_13 rfl ?_
    rw [show I 41 13 = nI (nln (sW s w) (sC s)) by rw [hs.at 41 rfl]; exact hL.1]
    refine g_icmp_ge_n (t1 := 42) (t2 := 19) dX7_draws_16 (by decide) rfl (by omega) (by omega) (fun h16 => ?_) (fun h16 => ?_)
    · exfalso; omega
    · refine g_aload_n (i := 0) (r := 41) (t := 20) dX7_draws_19 rfl rfl (Or.inl l9_41) rfl ?_
      refine g_iload_n (i := 2) (t := 21) dX7_draws_20 rfl rfl rfl ?_
      refine g_iload_n (i := 1) (t := 22) dX7_draws_21 rfl rfl rfl ?_
      refine g_cVv (o := 41) (t := 25) mX7_sizes k_X7_219 imX7_sizes seX7_sizes l6_41 l9_41 s_41 rfl dX7_draws_22 (x7_sizes hB hAV h1) rfl rfl (by decide) (by decide) (Nat.le_of_ble_eq_true rfl) rfl (fun J1 q1 => ?_)
      refine g_aload_n (i := 0) (r := 41) (t := 26) dX7_draws_25 rfl rfl (Or.inl l9_41) rfl ?_
      refine g_iload_n (i := 2) (t := 27) dX7_draws_26 rfl rfl rfl ?_
      refine g_iload_n (i := 1) (t := 28) dX7_draws_27 rfl rfl rfl ?_
      refine g_cVv (o := 41) (t := 31) mX7_along k_X7_222 imX7_along seX7_along l6_41 l9_41 s_41 rfl dX7_draws_28 (x7_along (hB.keep q1.1 rfl) hAV q1.2.1.at (fun p p1 p2 => (q1.2.2.2.2.1 p p1 p2).1)) rfl rfl (by decide) (by decide) (Nat.le_of_ble_eq_true rfl) rfl (fun J2 q2 => ?_)
      refine g_aload_n (i := 0) (r := 41) (t := 32) dX7_draws_31 rfl rfl (Or.inl l9_41) rfl ?_
      refine g_iload_n (i := 2) (t := 33) dX7_draws_32 rfl rfl rfl ?_
      have hs2 : gSame [50, 51, 52, 53, 54, 55, 56, 57, 58] I J2 := (q1.1.wk rfl).trans (q2.1.wk rfl)
      have hTT : ltQ (sW s w) (sC s) l = if l = 0 then nI 0 else J2 60 (l - 1) + J2 61 (l - 1) + (lnA (sW s w) (sC s) l).1.2.1 2 := by
        cases l with
        | zero => rfl
        | succ l =>
          rw [if_neg (Nat.succ_ne_zero _), hs2.at 60 rfl, hs2.at 61 rfl]
          obtain ⟨-, -, -, d4, d5⟩ := hD.1 l (by omega)
          show _ = I 60 l + I 61 l + _
          rw [d4, d5]
          rfl
      refine g_cVv (o := 41) (t := 36) mX7_across k_X7_225 imX7_across seX7_across l6_41 l9_41 s_41 rfl dX7_draws_33 (x7_across ((hB.keep q1.1 rfl).keep q2.1 rfl) hAV h1 hTT) rfl rfl (by decide) (by decide) (Nat.le_of_ble_eq_true rfl) rfl (fun J3 q3 => ?_)
      refine g_iinc (i := 2) (t := 39) (L1 := [_, _, _]) dX7_draws_36 rfl (gi_1 _) (by decide) rfl rfl rfl ?_
      refine g_goto (t := 11) dX7_draws_39 (by decide) ?_
      obtain ⟨s1, m1, m2, m3, m4, m5, m6⟩ := q1
      obtain ⟨s2, t58⟩ := q2
      obtain ⟨s3, o60, o61, t59⟩ := q3
      refine ih (l + 1) J3 (by omega) (((hs.trans (s1.wk rfl)).trans (s2.wk rfl)).trans (s3.wk rfl)) ⟨fun k hk => ?_, fun p hp hk => ?_⟩
      · rw [s3.at 55 rfl, s3.at 56 rfl, s3.at 57 rfl, s2.at 55 rfl, s2.at 56 rfl, s2.at 57 rfl]
        by_cases y : k = l
        · subst y
          exact ⟨m1.at, m2.at, m3.at, o60.at, o61.at⟩
        · rw [m1.ne y, m2.ne y, m3.ne y, o60.ne y, o61.ne y, hs2.at 60 rfl, hs2.at 61 rfl]
          exact hD.1 k (by omega)
      · rw [s3.at 50 rfl, s3.at 52 rfl, s3.at 58 rfl, s2.at 50 rfl, s2.at 52 rfl, t58 p, t59 p]
        rw [hhi]
        by_cases y : lin (sW s w) p = l
        · subst y
          obtain ⟨y1, y2⟩ := (frC_lin (sW s w) (c := sC s) hp).mp rfl
          have ym : (lnA (sW s w) (sC s) (lin (sW s w) p)).2.1 ≤ p ∧ p < frC (sW s w) (sC s) (lin (sW s w) p + 1) := ⟨y1, y2⟩
          rw [if_pos ym, if_pos ym]
          obtain ⟨u1, u2⟩ := m4 p y1 (by rw [hhi]; exact y2)
          exact ⟨u1, u2, rfl, rfl⟩
        · have z : ¬ ((lnA (sW s w) (sC s) l).2.1 ≤ p ∧ p < frC (sW s w) (sC s) (l + 1)) := fun z => y ((frC_lin (sW s w) hp).mpr z)
          have z2 : ¬ ((lnA (sW s w) (sC s) l).2.1 ≤ p ∧ p < (lnA (sW s w) (sC s) l).2.1 + (lnA (sW s w) (sC s) l).2.2) := by rw [hhi]; exact z
          rw [if_neg z, if_neg z, m5 p z2, m6 p z2, s1.at 58 rfl, hs2.at 59 rfl]
          exact hD.2 p hp (by omega)
theorem x7_draws {w : Int32} (hV : vS s) (hw : bnd w 20 999) (hC : mC I s) : gQV E fX7_draws [.ref 41, .int w] I h (fun I' => gSame [41, 46, 47, 48, 49, 50, 51, 52, 53, 54, 55, 56, 57, 58, 59, 60, 61] I I' ∧ (∀ j, j ≠ 9 → j ≠ 13 → I' 41 j = I 41 j) ∧ dM I' s w) := by
  refine gEv.of rfl (Nat.le_refl _) (Nat.le_of_ble_eq_true rfl) (L := [.ref 41, .int w, .null]) rfl ?_
  have hn := hV.1
  refine g_aload_n (i := 0) (r := 41) (t := 1) dX7_draws_0 rfl rfl (Or.inl l9_41) rfl ?_
  refine g_cVv (o := 41) (t := 4) mX7_orders k_X7_213 imX7_orders seX7_orders l6_41 l9_41 s_41 rfl dX7_draws_1 (x7_orders hC hn) rfl rfl (by decide) (by decide) (Nat.le_of_ble_eq_true rfl) rfl (fun J1 q1 => ?_)
  refine g_aload_n (i := 0) (r := 41) (t := 5) dX7_draws_4 rfl rfl (Or.inl l9_41) rfl ?_
  refine g_iload_n (i := 1) (t := 6) dX7_draws_5 rfl rfl rfl ?_
  refine g_cVv (o := 41) (t := 9) mX7_wraps k_X7_216 imX7_wraps seX7_wraps l6_41 l9_41 s_41 rfl dX7_draws_6 (x7_wraps (w := w) (hC.keep (q1.1.at 42 rfl)) hn q1.2.2) rfl rfl (by decide) (by decide) (Nat.le_of_ble_eq_true rfl) rfl (fun J2 q2 => ?_)
  refine g_iconst (t := 10) dX7_draws_9 c_iconst_0 rfl ?_
  refine g_istore_n (i := 2) (t := 11) (L1 := [_, _, _]) dX7_draws_10 rfl (by decide) rfl rfl rfl ?_
  have hO2 : mO J2 (sC s) (sQ s).2.2.2 := by rw [mO, q2.2.1 9 (by decide), q2.1.at 46 rfl]; exact q1.2.2
  have hs2 : gSame [41, 46, 47, 48, 49] I J2 := (q1.1.wk rfl).trans (q2.1.wk rfl)
  refine (x7_dr_loop (I0 := J2) hV hw (hC.keep (hs2.at 42 rfl)) hO2 q2.2.2 (nln (sW s w) (sC s)) 0 J2 (Nat.zero_add _) gSame.rf ⟨fun l hl => absurd hl (Nat.not_lt_zero _), fun p _ hl => absurd hl (Nat.not_lt_zero _)⟩).mono (fun pc' L' st' σ' z => ⟨z.1, ?_⟩)
  rcases z.2 with ⟨d1, v, ty, d2, d3, d4, I', e1, e2, e3, e4⟩ | ⟨d1, d2, d3, I', e1, e2, e3, e4⟩ | ⟨d1, v, d2, d3, I', e1, e2, e3, e4⟩ | ⟨d1, r, nm, d2, d3, I', e1, e2, e3, e4⟩
  · cases e1
  · refine Or.inr (Or.inl ⟨d1, d2, d3, I', e1, e2, (hs2.wk rfl).trans (e3.wk rfl), fun j a b => ?_, ?_, ?_, e4⟩)
    · rw [e3.at 41 rfl, q2.2.1 j b, q1.2.1 j a]
    · rw [mO, e3.at 41 rfl, e3.at 46 rfl]; exact hO2
    · rw [mL, e3.at 41 rfl, e3.at 47 rfl, e3.at 48 rfl, e3.at 49 rfl]; exact q2.2.2
  · cases e1
  · cases e1
theorem rM.drawn {S : sT} {J : Nat → Nat → Int32} (hR : rM I S) (hs : gSame [41, 46, 47, 48, 49, 50, 51, 52, 53, 54, 55, 56, 57, 58, 59, 60, 61] I J) (hj : ∀ j, j ≠ 9 → j ≠ 13 → J 41 j = I 41 j) : rM J S := ⟨hR.1, hR.2.1.keep (hs.at 42 rfl), hR.2.2.1.keep (hj 2 (by decide) (by decide)) (hs.at 43 rfl), hR.2.2.2.keep (hj 4 (by decide) (by decide)) (hs.at 44 rfl)⟩
end X7P

