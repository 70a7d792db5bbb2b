/-! FlexRows$Lines: all of them -/
def szQ (Q : lQ) (c p : Nat) : Int32 := (ztL (lnA Q c (lin Q p)) (npL (lnA Q c (lin Q p)))).2 p
def psQ (Q : lQ) (c p : Nat) : Int32 := ovS ((ztL (lnA Q c (lin Q p)) (npL (lnA Q c (lin Q p)))).1 p)
def xS (I : Nat → Nat → Int32) (Q : lQ) (c n : Nat) : Prop := (∀ l, l < n → I 21 l = reL (lnA Q c l) ∧ I 22 l = nI (npL (lnA Q c l)) ∧ I 23 l = bI (grL (lnA Q c l))) ∧ ∀ p, p < c → lin Q p < n → I 24 p = szQ Q c p ∧ I 25 p = psQ Q c p
theorem xS.next {I I' : Nat → Nat → Int32} {Q : lQ} {c n : Nat} (h : xS I Q c n) (hl : n < nln Q c) (hn : xL_18 I' I (lnA Q c n) n) : xS I' Q c (n + 1) := by
  obtain ⟨k3, k4, k5, k6, k7⟩ := hn
  have hhi : (lnA Q c n).2.1 + (lnA Q c n).2.2 = frC Q c (n + 1) := by have := frC_pos Q c n hl; show frC Q c n + (frC Q c (n + 1) - frC Q c n) = _; omega
  rw [hhi] at k6 k7
  replace k6 : strN I' I 24 (frC Q c n) (frC Q c (n + 1)) _ := k6
  replace k7 : strN I' I 25 (frC Q c n) (frC Q c (n + 1)) _ := k7
  refine ⟨fun l hlt => ?_, fun p hp hlt => ?_⟩
  · by_cases y : l = n
    · subst y; exact ⟨k3.at, k4.at, k5.at⟩
    · have := h.1 l (by omega)
      rw [k3.ne y, k4.ne y, k5.ne y]
      exact this
  · by_cases y : lin Q p = n
    · subst y
      obtain ⟨y1, y2⟩ := (frC_lin Q (c := c) hp).mp rfl
      exact ⟨k6.in y1 y2, k7.in y1 y2⟩
    · have := h.2 p hp (by omega)
      have z : ¬ (frC Q c n ≤ p ∧ p < frC Q c (n + 1)) := fun z => y ((frC_lin Q hp).mpr z)
      rw [k6 p, k7 p, if_neg z, if_neg z]
      exact this
def allR (Q : lQ) (c : Nat) : Bool := (List.range (nln Q c)).all fun l => decide (0 ≤ reL (lnA Q c l))
theorem allR_iff (Q : lQ) (c : Nat) : allR Q c = true ↔ ∀ l, l < nln Q c → 0 ≤ reL (lnA Q c l) := by
  unfold allR
  rw [List.all_eq_true]
  exact ⟨fun q l hl => of_decide_eq_true (q l (List.mem_range.mpr hl)), fun q l hl => decide_eq_true (q l (List.mem_range.mp hl))⟩
section X1F
variable {E : gE} {I : Nat → Nat → Int32} {h : gX}
theorem x1_share_loop {Q : lQ} {c : Nat} {f : Nat → Nat} {I0 : Nat → Nat → Int32} (hO : xO I0 (xP I0) c f) (hQ : Q = (xP I0, I0 5, I0 18 11, f)) (hB : xB I0 18 19 20 Q c) : ∀ (d l : Nat) (I : Nat → Nat → Int32), l + d = nln Q c → gSame [21, 22, 23, 24, 25, 26] I0 I → xS I Q c l → Wp E fX1_share (gn h) 2 [.ref 18, .int (nI l)] [] (gM I h) (gRet fX1_share (gn h) (fun r σ' => ∃ I' : Nat → Nat → Int32, r = none ∧ σ' = gM I' h ∧ gSame [21, 22, 23, 24, 25, 26] I0 I' ∧ xS I' Q c (nln Q c))) := by
  intro d
  have hc := hO.1
  have hnl := nln_le Q c
  induction d with
  | zero =>
    intro l I hl hs hx
    have hl : l = nln Q c := by omega
    subst hl
    have h0 : I 18 0 = nI (nln Q c) := by rw [hs.at 18 rfl]; exact hB.1
    refine g_iload_n (i := 1) (t := 3) dX1_share_2 rfl rfl rfl ?_
    refine g_aload_n (i := 0) (r := 18) (t := 4) dX1_share_3 rfl rfl (Or.inl l9_18) rfl ?_
    refine gm_getI (o := 18) (ci := 1) (k := 0) (t := 7) l6_18 l9_18 s_18 gf_X1_49 rfl dX1_share_4 rfl ?_
    rw [h0]
    refine g_icmp_ge_n (t1 := 21) (t2 := 10) dX1_share_7 (by decide) rfl (by omega) (by omega) (fun h7 => ?_) (fun h7 => ?_)
    · exact g_retV dX1_share_21 rfl (⟨hs, hx⟩)
    · exfalso; omega
  | succ d ih =>
    intro l I hl hs hx
    have h0 : I 18 0 = nI (nln Q c) := by rw [hs.at 18 rfl]; exact hB.1
    have eP : xP I = xP I0 := by funext i w; show I 6 _ = I0 6 _; rw [hs.at 6 rfl]
    have hQ1 : Q = (xP I, I 5, I 18 11, f) := by rw [eP, hs.at 5 rfl, hs.at 18 rfl]; exact hQ
    refine g_iload_n (i := 1) (t := 3) dX1_share_2 rfl rfl rfl ?_
    refine g_aload_n (i := 0) (r := 18) (t := 4) dX1_share_3 rfl rfl (Or.inl l9_18) rfl ?_
    refine gm_getI (o := 18) (ci := 1) (k := 0) (t := 7) l6_18 l9_18 s_18 gf_X1_49 rfl dX1_share_4 rfl ?_
    rw [h0]
    refine g_icmp_ge_n (t1 := 21) (t2 := 10) dX1_share_7 (by decide) rfl (by omega) (by omega) (fun h7 => ?_) (fun h7 => ?_)
    · exfalso; omega
    · refine g_aload_n (i := 0) (r := 18) (t := 11) dX1_share_10 rfl rfl (Or.inl l9_18) rfl ?_
      refine g_iload_n (i := 1) (t := 12) dX1_share_11 rfl rfl rfl ?_
      refine g_cVv (o := 18) (t := 15) mX1_shareLine k_X1_65 imX1_shareLine seX1_shareLine l6_18 l9_18 s_18 rfl dX1_share_12 (x1_shareLine_18 (hO.keepP hs rfl) hQ1 (hB.keepS hs rfl) (by omega)) rfl rfl (by decide) (by decide) (Nat.le_of_ble_eq_true rfl) rfl (Nat.le_refl _) (fun J1 q1 => ?_)
      refine g_iinc (i := 1) (t := 18) (L1 := [_, _]) dX1_share_15 rfl (gi_1 _) (by decide) rfl rfl rfl ?_
      refine g_goto (t := 2) dX1_share_18 (by decide) ?_
      exact ih (l + 1) _ (by omega) (hs.trans q1.1) (hx.next (by omega) q1.2)
theorem x1_share {Q : lQ} {c : Nat} {f : Nat → Nat} (hO : xO I (xP I) c f) (hQ : Q = (xP I, I 5, I 18 11, f)) (hB : xB I 18 19 20 Q c) : gQV E fX1_share [.ref 18] I h (fun I' => gSame [21, 22, 23, 24, 25, 26] I I' ∧ xS I' Q c (nln Q c)) := by
  refine gEv.of rfl (Nat.le_refl _) (Nat.le_of_ble_eq_true rfl) (L := [.ref 18, .null]) rfl ?_
  refine g_iconst (t := 1) dX1_share_0 c_iconst_0 rfl ?_
  refine g_istore_n (i := 1) (t := 2) (L1 := [_, _]) dX1_share_1 rfl (by decide) rfl rfl rfl ?_
  exact x1_share_loop hO hQ hB _ 0 I (Nat.zero_add _) gSame.rf ⟨fun l hl => absurd hl (Nat.not_lt_zero _), fun p _ hl => absurd hl (Nat.not_lt_zero _)⟩
end X1F

