/-! FlexRows: what it keeps. One state: number of items, properties, box; all: state, undos (latest first), text -/
abbrev sS : Type := Nat × dP × (Nat → Int32)
abbrev sT : Type := sS × List sS × tT
def sQ (s : sS) : lQ := (s.2.1, s.2.2, s.2.2 0, (ordS s.2.1 s.1).2)
def sC (s : sS) : Nat := (ordS s.2.1 s.1).1
def hX (I : Nat → Nat → Int32) (H : List sS) : Prop := H.length ≤ 8 ∧ I 7 0 = nI H.length ∧ ∃ k, k < 8 ∧ I 7 1 = nI k ∧ ∀ (u : Nat) (s : sS), H[u]? = some s → s.1 ≤ 16 ∧ I 8 ((k + 7 - u) % 8) = nI s.1 ∧ (∀ w, w < 7 → I 9 (7 * ((k + 7 - u) % 8) + w) = s.2.2 w) ∧ ∀ i w, i < 16 → w < 11 → I 10 (176 * ((k + 7 - u) % 8) + (11 * i + w)) = s.2.1 i w
def lX (I : Nat → Nat → Int32) (s : sS) : Prop := xO I s.2.1 (sC s) (sQ s).2.2.2 ∧ xB I 18 19 20 (sQ s) (sC s) ∧ xS I (sQ s) (sC s) (nln (sQ s) (sC s)) ∧ xW I (sQ s) (sC s) (nln (sQ s) (sC s))
def rX (I : Nat → Nat → Int32) (S : sT) : Prop := S.1.1 ≤ 16 ∧ I 4 0 = nI S.1.1 ∧ xP I = S.1.2.1 ∧ I 5 = S.1.2.2 ∧ hX I S.2.1 ∧ tX I S.2.2 ∧ (I 0 7 = nI 0 ∨ (I 0 7 = nI 1 ∧ lX I S.1))
theorem sC_le {s : sS} (h : s.1 ≤ 16) : sC s ≤ 16 := Nat.le_trans (ordS_le _ _) h
theorem hX.keep {I I' : Nat → Nat → Int32} {H : List sS} {cs : List Nat} (h : hX I H) (hs : gSame cs I I') (hc : [7, 8, 9, 10].all (fun c => !cs.contains c) = true) : hX I' H := by
  have key : ∀ c ∈ [7, 8, 9, 10], I' c = I c := fun c hm => hs.at c (by have := List.all_eq_true.mp hc c hm; simpa using this)
  rw [hX, key 7 (by decide), key 8 (by decide), key 9 (by decide), key 10 (by decide)]
  exact h
theorem tX.keep {I I' : Nat → Nat → Int32} {T : tT} {cs : List Nat} (h : tX I T) (hs : gSame cs I I') (hc : [1, 2].all (fun c => !cs.contains c) = true) : tX I' T := by
  have key : ∀ c ∈ [1, 2], I' c = I c := fun c hm => hs.at c (by have := List.all_eq_true.mp hc c hm; simpa using this)
  rw [tX, key 1 (by decide), key 2 (by decide)]
  exact h
theorem lX.keep {I I' : Nat → Nat → Int32} {s : sS} {cs : List Nat} (h : lX I s) (hs : gSame cs I I') (hc : [11, 12, 13, 14, 15, 16, 17, 18, 19, 20, 21, 22, 23, 24, 25, 27, 28, 29, 30, 31].all (fun c => !cs.contains c) = true) : lX I' s := by
  have key : ∀ c ∈ [11, 12, 13, 14, 15, 16, 17, 18, 19, 20, 21, 22, 23, 24, 25, 27, 28, 29, 30, 31], I' c = I c := fun c hm => hs.at c (by have := List.all_eq_true.mp hc c hm; simpa using this)
  obtain ⟨h1, h2, h3, h4⟩ := h
  refine ⟨?_, ?_, ?_, ?_⟩
  · rw [xO, key 11 (by decide), key 12 (by decide), key 13 (by decide), key 14 (by decide), key 15 (by decide), key 16 (by decide), key 17 (by decide)]
    exact h1
  · exact h2.keep (by rw [key 18 (by decide)]) (key 19 (by decide)) (key 20 (by decide))
  · rw [xS, key 21 (by decide), key 22 (by decide), key 23 (by decide), key 24 (by decide), key 25 (by decide)]
    exact h3
  · rw [xW, key 27 (by decide), key 28 (by decide), key 29 (by decide), key 30 (by decide), key 31 (by decide)]
    exact h4
section X6A
variable {E : gE} {I : Nat → Nat → Int32} {h : gX} {S : sT}
theorem x6_layOut (hX : rX I S) : gQV E fX6_layOut [.ref 0] I h (fun I' => gSame [0, 11, 12, 13, 14, 15, 16, 17, 18, 19, 20, 21, 22, 23, 24, 25, 26, 27, 28, 29, 30, 31] I I' ∧ rX I' S ∧ lX I' S.1) := by
  refine gEv.of rfl (Nat.le_refl _) (Nat.le_of_ble_eq_true rfl) (L := [.ref 0]) rfl ?_
  obtain ⟨hn, h4, hP, hB, hH, hT, hl⟩ := hX
  refine g_aload_n (i := 0) (r := 0) (t := 1) dX6_layOut_0 rfl rfl (Or.inl l9_0) rfl ?_
  refine gm_getI (o := 0) (ci := 6) (k := 7) (t := 4) l6_0 l9_0 s_0 gf_X6_60 rfl dX6_layOut_1 rfl ?_
  refine g_if_eq (t1 := 8) (t2 := 7) dX6_layOut_4 (by decide) rfl (fun h4_ => ?_) (fun h4_ => ?_)
  · have hl0 : ¬ (I 0 7 = nI 1 ∧ lX I S.1) := fun q => absurd (h4_.symm.trans q.1) (by decide)
    refine g_aload_n (i := 0) (r := 0) (t := 9) dX6_layOut_8 rfl rfl (Or.inl l9_0) rfl ?_
    refine gm_getR (o := 0) (ci := 6) (k := 3) (r := 11) (t := 12) l6_0 l9_0 s_0 gf_X6_35 rfl r_0_3 l9_11 dX6_layOut_9 rfl ?_
    refine g_cVv (o := 11) (t := 15) mX2_sort k_X6_156 imX2_sort seX2_sort l6_11 l9_11 s_11 rfl dX6_layOut_12 (x2_sort hn h4) rfl rfl (by decide) (by decide) (Nat.le_of_ble_eq_true rfl) rfl (Nat.le_refl _) (fun I1 q1 => ?_)
    refine g_aload_n (i := 0) (r := 0) (t := 16) dX6_layOut_15 rfl rfl (Or.inl l9_0) rfl ?_
    refine gm_getR (o := 0) (ci := 6) (k := 4) (r := 18) (t := 19) l6_0 l9_0 s_0 gf_X6_44 rfl r_0_4 l9_18 dX6_layOut_16 rfl ?_
    refine g_aload_n (i := 0) (r := 0) (t := 20) dX6_layOut_19 rfl rfl (Or.inl l9_0) rfl ?_
    refine gm_getR (o := 0) (ci := 6) (k := 1) (r := 4) (t := 23) l6_0 l9_0 s_0 gf_X6_19 rfl r_0_1 l9_4 dX6_layOut_20 rfl ?_
    refine g_iconst (t := 24) dX6_layOut_23 c_iconst_0 rfl ?_
    refine g_cVp (o := 4) (t := 27) mX4_number k_X6_123 imX4_number seX4_number l6_4 l9_4 s_4 rfl dX6_layOut_24 (x4_number (by omega)) rfl rfl (by decide) (by decide) (Nat.le_of_ble_eq_true rfl) rfl (Nat.le_refl _) ?_
    rw [q1.1.at 5 rfl]
    refine g_cVv (o := 18) (t := 30) mX1_breakUp k_X6_159 imX1_breakUp seX1_breakUp l6_18 l9_18 s_18 rfl dX6_layOut_27 (x1_breakUp_18 q1.2) rfl rfl (by decide) (by decide) (Nat.le_of_ble_eq_true rfl) rfl (Nat.le_refl _) (fun I2 q2 => ?_)
    refine g_aload_n (i := 0) (r := 0) (t := 31) dX6_layOut_30 rfl rfl (Or.inl l9_0) rfl ?_
    refine gm_getR (o := 0) (ci := 6) (k := 4) (r := 18) (t := 34) l6_0 l9_0 s_0 gf_X6_44 rfl r_0_4 l9_18 dX6_layOut_31 rfl ?_
    have e5 : I2 5 = S.1.2.2 := by rw [q2.1.at 5 rfl, q1.1.at 5 rfl, hB]
    have eP : xP I2 = S.1.2.1 := by rw [← hP]; funext i w; show I2 6 _ = I 6 _; rw [q2.1.at 6 rfl, q1.1.at 6 rfl]
    have hO2 : xO I2 (xP I2) (sC S.1) (sQ S.1).2.2.2 := by
      have := q1.2.keep q2.1 rfl
      rw [hP] at this
      rw [eP]
      exact this
    have hQ2 : sQ S.1 = (xP I2, I2 5, I2 5 0, (sQ S.1).2.2.2) := by rw [eP, e5]; rfl
    have e11 : I2 18 11 = I2 5 0 := by rw [q2.2.1, e5, hB]
    have hB2 : xB I2 18 19 20 (sQ S.1) (sC S.1) := by
      have := q2.2.2
      rw [hP, hB, q1.1.at 5 rfl, hB] at this
      exact this
    refine g_cVv (o := 18) (t := 37) mX1_share k_X6_184 imX1_share seX1_share l6_18 l9_18 s_18 rfl dX6_layOut_34 (x1_share hO2 (by rw [e11]; exact hQ2) hB2) rfl rfl (by decide) (by decide) (Nat.le_of_ble_eq_true rfl) rfl (Nat.le_refl _) (fun I3 q3 => ?_)
    refine g_aload_n (i := 0) (r := 0) (t := 38) dX6_layOut_37 rfl rfl (Or.inl l9_0) rfl ?_
    refine gm_getR (o := 0) (ci := 6) (k := 5) (r := 27) (t := 41) l6_0 l9_0 s_0 gf_X6_53 rfl r_0_5 l9_27 dX6_layOut_38 rfl ?_
    refine g_cVv (o := 27) (t := 44) mX3_find k_X6_187 imX3_find seX3_find l6_27 l9_27 s_27 rfl dX6_layOut_41 (x3_find (hO2.keepP q3.1 rfl) (by rw [show I3 5 = I2 5 from q3.1.at 5 rfl, show xP I3 = xP I2 from by funext i w; show I3 6 _ = I2 6 _; rw [q3.1.at 6 rfl]]; exact hQ2) (hB2.keepS q3.1 rfl) q3.2) rfl rfl (by decide) (by decide) (Nat.le_of_ble_eq_true rfl) rfl (Nat.le_refl _) (fun I4 q4 => ?_)
    refine g_aload_n (i := 0) (r := 0) (t := 45) dX6_layOut_44 rfl rfl (Or.inl l9_0) rfl ?_
    refine g_iconst (t := 46) dX6_layOut_45 c_iconst_1 rfl ?_
    refine gm_putI (o := 0) (ci := 6) (k := 7) (t := 49) l6_0 l9_0 s_0 gp_X6_60 rfl (by decide +kernel) (by decide +kernel) dX6_layOut_46 rfl ?_
    exact g_retV dX6_layOut_49 rfl (by
    have s1 : gSame [11, 12, 13, 14, 15, 16, 17, 18, 19, 20, 21, 22, 23, 24, 25, 26, 27, 28, 29, 30, 31] I I4 := (((q1.1.wk rfl).trans (q2.1.wk rfl)).trans (q3.1.wk rfl)).trans (q4.1.wk rfl)
    have s2 : gSame [0, 11, 12, 13, 14, 15, 16, 17, 18, 19, 20, 21, 22, 23, 24, 25, 26, 27, 28, 29, 30, 31] I (gup I4 0 7 (nI 1)) := (s1.wk rfl).up rfl
    have l4 : lX I4 S.1 := ⟨by have := (hO2.keep q3.1 rfl).keep q4.1 rfl; rw [eP] at this; exact this, (hB2.keepS q3.1 rfl).keepS q4.1 rfl, by rw [xS, q4.1.at 21 rfl, q4.1.at 22 rfl, q4.1.at 23 rfl, q4.1.at 24 rfl, q4.1.at 25 rfl]; exact q3.2, q4.2⟩
    have l5 : lX (gup I4 0 7 (nI 1)) S.1 := l4.keep (gSame.rf.up (cs := [0]) rfl) rfl
    exact ⟨s2, ⟨hn, by rw [s2.at 4 rfl]; exact h4, by rw [← hP]; funext i w; show gup I4 0 7 (nI 1) 6 _ = I 6 _; rw [s2.at 6 rfl], by rw [s2.at 5 rfl]; exact hB, hH.keep s2 rfl, hT.keep s2 rfl, Or.inr ⟨gup_self _ _ _ _, l5⟩⟩, l5⟩)
  · have hl1 : lX I S.1 := by
      rcases hl with q | q
      · exact absurd q h4_
      · exact q.2
    exact g_retV dX6_layOut_7 rfl (⟨gSame.rf, ⟨hn, h4, hP, hB, hH, hT, hl⟩, hl1⟩)
end X6A

