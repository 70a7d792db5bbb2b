/-! FlexRows$Text -/
/-- the text as the class keeps it -/
def tX (I : Nat → Nat → Int32) (T : tT) : Prop := I 1 2 = nI T.1 ∧ T.1 ≤ 80 ∧ I 2 = T.2
theorem tX.up {I : Nat → Nat → Int32} {T : tT} {v : Int32} (h : tX I T) : tX (gup I 1 3 v) T := ⟨by rw [gup_k _ _ _ (by decide)]; exact h.1, h.2.1, by rw [gup_rowo _ _ _ (by decide)]; exact h.2.2⟩
theorem gup_gup (I : Nat → Nat → Int32) (o k : Nat) (v w : Int32) : gup (gup I o k v) o k w = gup I o k w := by
  funext o' k'
  simp only [gup]
  split <;> rfl
theorem gup_id {I : Nat → Nat → Int32} {o k : Nat} {v : Int32} (h : I o k = v) : gup I o k v = I := by
  funext o' k'
  simp only [gup]
  split
  · rename_i q; obtain ⟨rfl, rfl⟩ := q; exact h.symm
  · rfl
section X5
variable {E : gE} {I : Nat → Nat → Int32} {h : gX}
theorem x5_isDigit {x : Int32} : gPI E fX5_isDigit [.int x] I h (bI (isD x)) := by
  refine gEv.of rfl (Nat.le_refl _) (Nat.le_of_ble_eq_true rfl) (L := [.int x]) rfl ?_
  refine g_iload_n (i := 0) (t := 1) dX5_isDigit_0 rfl rfl rfl ?_
  refine g_bipush (t := 3) dX5_isDigit_1 c_bipush_48 rfl ?_
  refine g_icmp_lt (t1 := 16) (t2 := 6) dX5_isDigit_3 (by decide) rfl (fun h3 => ?_) (fun h3 => ?_)
  · refine g_iconst (t := 17) dX5_isDigit_16 c_iconst_0 rfl ?_
    exact g_retP dX5_isDigit_17 rfl (by decide +kernel) (by
    first
    | (rw [isD, decide_eq_true ⟨Int32.not_lt.mp h3, Int32.not_lt.mp h9⟩]; rfl)
    | (rw [isD, decide_eq_false (fun q => absurd h9 (Int32.not_lt.mpr q.2))]; rfl)
    | (rw [isD, decide_eq_false (fun q => absurd h3 (Int32.not_lt.mpr q.1))]; rfl))
  · refine g_iload_n (i := 0) (t := 7) dX5_isDigit_6 rfl rfl rfl ?_
    refine g_bipush (t := 9) dX5_isDigit_7 c_bipush_57 rfl ?_
    refine g_icmp_gt (t1 := 16) (t2 := 12) dX5_isDigit_9 (by decide) rfl (fun h9 => ?_) (fun h9 => ?_)
    · refine g_iconst (t := 17) dX5_isDigit_16 c_iconst_0 rfl ?_
      exact g_retP dX5_isDigit_17 rfl (by decide +kernel) (by
    first
    | (rw [isD, decide_eq_true ⟨Int32.not_lt.mp h3, Int32.not_lt.mp h9⟩]; rfl)
    | (rw [isD, decide_eq_false (fun q => absurd h9 (Int32.not_lt.mpr q.2))]; rfl)
    | (rw [isD, decide_eq_false (fun q => absurd h3 (Int32.not_lt.mpr q.1))]; rfl))
    · refine g_iconst (t := 13) dX5_isDigit_12 c_iconst_1 rfl ?_
      refine g_goto (t := 17) dX5_isDigit_13 (by decide) ?_
      exact g_retP dX5_isDigit_17 rfl (by decide +kernel) (by
    first
    | (rw [isD, decide_eq_true ⟨Int32.not_lt.mp h3, Int32.not_lt.mp h9⟩]; rfl)
    | (rw [isD, decide_eq_false (fun q => absurd h9 (Int32.not_lt.mpr q.2))]; rfl)
    | (rw [isD, decide_eq_false (fun q => absurd h3 (Int32.not_lt.mpr q.1))]; rfl))
theorem x5_isLetter {x : Int32} : gPI E fX5_isLetter [.int x] I h (bI (isL x)) := by
  refine gEv.of rfl (Nat.le_refl _) (Nat.le_of_ble_eq_true rfl) (L := [.int x]) rfl ?_
  refine g_iload_n (i := 0) (t := 1) dX5_isLetter_0 rfl rfl rfl ?_
  refine g_bipush (t := 3) dX5_isLetter_1 c_bipush_97 rfl ?_
  refine g_icmp_lt (t1 := 16) (t2 := 6) dX5_isLetter_3 (by decide) rfl (fun h3 => ?_) (fun h3 => ?_)
  · refine g_iconst (t := 17) dX5_isLetter_16 c_iconst_0 rfl ?_
    exact g_retP dX5_isLetter_17 rfl (by decide +kernel) (by
    first
    | (rw [isL, decide_eq_true ⟨Int32.not_lt.mp h3, Int32.not_lt.mp h9⟩]; rfl)
    | (rw [isL, decide_eq_false (fun q => absurd h9 (Int32.not_lt.mpr q.2))]; rfl)
    | (rw [isL, decide_eq_false (fun q => absurd h3 (Int32.not_lt.mpr q.1))]; rfl))
  · refine g_iload_n (i := 0) (t := 7) dX5_isLetter_6 rfl rfl rfl ?_
    refine g_bipush (t := 9) dX5_isLetter_7 c_bipush_122 rfl ?_
    refine g_icmp_gt (t1 := 16) (t2 := 12) dX5_isLetter_9 (by decide) rfl (fun h9 => ?_) (fun h9 => ?_)
    · refine g_iconst (t := 17) dX5_isLetter_16 c_iconst_0 rfl ?_
      exact g_retP dX5_isLetter_17 rfl (by decide +kernel) (by
    first
    | (rw [isL, decide_eq_true ⟨Int32.not_lt.mp h3, Int32.not_lt.mp h9⟩]; rfl)
    | (rw [isL, decide_eq_false (fun q => absurd h9 (Int32.not_lt.mpr q.2))]; rfl)
    | (rw [isL, decide_eq_false (fun q => absurd h3 (Int32.not_lt.mpr q.1))]; rfl))
    · refine g_iconst (t := 13) dX5_isLetter_12 c_iconst_1 rfl ?_
      refine g_goto (t := 17) dX5_isLetter_13 (by decide) ?_
      exact g_retP dX5_isLetter_17 rfl (by decide +kernel) (by
    first
    | (rw [isL, decide_eq_true ⟨Int32.not_lt.mp h3, Int32.not_lt.mp h9⟩]; rfl)
    | (rw [isL, decide_eq_false (fun q => absurd h9 (Int32.not_lt.mpr q.2))]; rfl)
    | (rw [isL, decide_eq_false (fun q => absurd h3 (Int32.not_lt.mpr q.1))]; rfl))
theorem x5_byteAt {T : tT} {j : Nat} (hT : tX I T) (hj : j < 1000) : gPI E fX5_byteAt [.ref 1, .int (nI j)] I h (byt T j) := by
  refine gEv.of rfl (Nat.le_refl _) (Nat.le_of_ble_eq_true rfl) (L := [.ref 1, .int (nI j)]) rfl ?_
  obtain ⟨e1, e2, e3⟩ := hT
  refine g_iload_n (i := 1) (t := 1) dX5_byteAt_0 rfl rfl rfl ?_
  refine g_if_lt (t1 := 27) (t2 := 4) dX5_byteAt_1 (by decide) rfl (fun h1 => ?_) (fun h1 => ?_)
  · exact absurd h1 (by first | decide | exact nI_pos (by omega) | exact nI_ne0 (by omega) (by omega))
  · refine g_iload_n (i := 1) (t := 5) dX5_byteAt_4 rfl rfl rfl ?_
    refine g_aload_n (i := 0) (r := 1) (t := 6) dX5_byteAt_5 rfl rfl (Or.inl l9_1) rfl ?_
    refine gm_getI (o := 1) (ci := 5) (k := 2) (t := 9) l6_1 l9_1 s_1 gf_X5_19 rfl dX5_byteAt_6 rfl ?_
    rw [e1]
    refine g_icmp_ge_n (t1 := 27) (t2 := 12) dX5_byteAt_9 (by decide) rfl (by omega) (by omega) (fun h9 => ?_) (fun h9 => ?_)
    · refine g_iconst (t := 28) dX5_byteAt_27 c_iconst_m1 rfl ?_
      exact g_retP dX5_byteAt_28 rfl rfl (by
    first
    | (rw [byt, if_pos h9, ← e3])
    | (rw [byt, if_neg (by omega)]))
    · refine g_iload_n (i := 1) (t := 13) dX5_byteAt_12 rfl rfl rfl ?_
      refine g_bipush (t := 15) dX5_byteAt_13 c_bipush_80 rfl ?_
      refine g_icmp_ge_n (t1 := 27) (t2 := 18) dX5_byteAt_15 (by decide) rfl (by omega) (by omega) (fun h15 => ?_) (fun h15 => ?_)
      · exfalso; omega
      · refine g_aload_n (i := 0) (r := 1) (t := 19) dX5_byteAt_18 rfl rfl (Or.inl l9_1) rfl ?_
        refine gm_getR (o := 1) (ci := 5) (k := 0) (r := 2) (t := 22) l6_1 l9_1 s_1 gf_X5_9 rfl r_1_0 l9_2 dX5_byteAt_19 rfl ?_
        refine g_iload_n (i := 1) (t := 23) dX5_byteAt_22 rfl rfl rfl ?_
        refine gm_bald_n (a := 2) (n := 80) (t := 24) l6_2 l9_2 s_2 dX5_byteAt_23 (by omega) (by decide) rfl ?_
        refine g_goto (t := 28) dX5_byteAt_24 (by decide) ?_
        exact g_retP dX5_byteAt_28 rfl rfl (by
    first
    | (rw [byt, if_pos h9, ← e3])
    | (rw [byt, if_neg (by omega)]))
theorem x5_skip_loop {T : tT} (hT : tX I T) : ∀ (d j : Nat), j + d = T.1 → Wp E fX5_skipBlanks (gn h) 0 [.ref 1] [] (gM (gup I 1 3 (nI j)) h) (gRet fX5_skipBlanks (gn h) (fun r σ' => r = none ∧ σ' = gM (gup I 1 3 (nI (skp T j))) h)) := by
  have hn := hT.2.1
  intro d
  induction d with
  | zero =>
    intro j hj
    have e1 := (hT.up (v := nI j)).1
    refine g_aload_n (i := 0) (r := 1) (t := 1) dX5_skipBlanks_0 rfl rfl (Or.inl l9_1) rfl ?_
    refine gm_getI (o := 1) (ci := 5) (k := 3) (t := 4) l6_1 l9_1 s_1 gf_X5_32 rfl dX5_skipBlanks_1 rfl ?_
    refine g_aload_n (i := 0) (r := 1) (t := 5) dX5_skipBlanks_4 rfl rfl (Or.inl l9_1) rfl ?_
    refine gm_getI (o := 1) (ci := 5) (k := 2) (t := 8) l6_1 l9_1 s_1 gf_X5_19 rfl dX5_skipBlanks_5 rfl ?_
    rw [e1, gup_self]
    refine g_icmp_ge_n (t1 := 37) (t2 := 11) dX5_skipBlanks_8 (by decide) rfl (by omega) (by omega) (fun h8 => ?_) (fun h8 => ?_)
    · exact g_retD dX5_skipBlanks_37 rfl (by rw [skp_no (by rw [byt_out (by omega)]; decide)])
    · exfalso; omega
  | succ d ih =>
    intro j hj
    have e1 := (hT.up (v := nI j)).1
    refine g_aload_n (i := 0) (r := 1) (t := 1) dX5_skipBlanks_0 rfl rfl (Or.inl l9_1) rfl ?_
    refine gm_getI (o := 1) (ci := 5) (k := 3) (t := 4) l6_1 l9_1 s_1 gf_X5_32 rfl dX5_skipBlanks_1 rfl ?_
    refine g_aload_n (i := 0) (r := 1) (t := 5) dX5_skipBlanks_4 rfl rfl (Or.inl l9_1) rfl ?_
    refine gm_getI (o := 1) (ci := 5) (k := 2) (t := 8) l6_1 l9_1 s_1 gf_X5_19 rfl dX5_skipBlanks_5 rfl ?_
    rw [e1, gup_self]
    refine g_icmp_ge_n (t1 := 37) (t2 := 11) dX5_skipBlanks_8 (by decide) rfl (by omega) (by omega) (fun h8 => ?_) (fun h8 => ?_)
    · exact g_retD dX5_skipBlanks_37 rfl (by
    first
    | rw [skp_no h21']
    | omega)
    · refine g_aload_n (i := 0) (r := 1) (t := 12) dX5_skipBlanks_11 rfl rfl (Or.inl l9_1) rfl ?_
      refine g_aload_n (i := 0) (r := 1) (t := 13) dX5_skipBlanks_12 rfl rfl (Or.inl l9_1) rfl ?_
      refine gm_getI (o := 1) (ci := 5) (k := 3) (t := 16) l6_1 l9_1 s_1 gf_X5_32 rfl dX5_skipBlanks_13 rfl ?_
      rw [gup_self]
      refine g_cVp (o := 1) (t := 19) mX5_byteAt k_X5_49 imX5_byteAt seX5_byteAt l6_1 l9_1 s_1 rfl dX5_skipBlanks_16 (x5_byteAt hT.up (by omega)) rfl rfl (by decide) (by decide) (Nat.le_of_ble_eq_true rfl) rfl (Nat.le_refl _) ?_
      refine g_bipush (t := 21) dX5_skipBlanks_19 c_bipush_32 rfl ?_
      refine g_icmp_ne (t1 := 37) (t2 := 24) dX5_skipBlanks_21 (by decide) rfl (fun h21 => ?_) (fun h21 => ?_)
      · have h21' : ¬ byt T j = nI 32 := h21
        exact g_retD dX5_skipBlanks_37 rfl (by
    first
    | rw [skp_no h21']
    | omega)
      · have h21' : byt T j = nI 32 := h21
        refine g_aload_n (i := 0) (r := 1) (t := 25) dX5_skipBlanks_24 rfl rfl (Or.inl l9_1) rfl ?_
        refine g_dup (t := 26) dX5_skipBlanks_25 rfl rfl ?_
        refine gm_getI (o := 1) (ci := 5) (k := 3) (t := 29) l6_1 l9_1 s_1 gf_X5_32 rfl dX5_skipBlanks_26 rfl ?_
        refine g_iconst (t := 30) dX5_skipBlanks_29 c_iconst_1 rfl ?_
        refine g_iadd (t := 31) dX5_skipBlanks_30 rfl ?_
        rw [gup_self, gi_s]
        refine gm_putI (o := 1) (ci := 5) (k := 3) (t := 34) l6_1 l9_1 s_1 gp_X5_32 rfl rfl rfl dX5_skipBlanks_31 rfl ?_
        refine g_goto (t := 0) dX5_skipBlanks_34 (by decide) ?_
        have := ih (j + 1) (by omega)
        rw [skp_at h21', gup_gup]
        exact this
theorem x5_skipBlanks {T : tT} {j : Nat} (hT : tX I T) (h3 : I 1 3 = nI j) (hj : j ≤ T.1) : gDV E fX5_skipBlanks [.ref 1] I h (gup I 1 3 (nI (skp T j))) := by
  refine gEv.of rfl (Nat.le_refl _) (Nat.le_of_ble_eq_true rfl) (L := [.ref 1]) rfl ?_
  have := x5_skip_loop (E := E) (h := h) hT (T.1 - j) j (by omega)
  rw [gup_id h3] at this
  exact this
end X5

