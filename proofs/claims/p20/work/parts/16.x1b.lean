/-! FlexRows$Lines: sharing, its parts -/
theorem xO.keepP {I I' : Nat → Nat → Int32} {c : Nat} {f : Nat → Nat} {cs : List Nat} (h : xO I (xP I) c f) (hs : gSame cs I I') (hc : [6, 11, 12, 13, 14, 15, 16, 17].all (fun c => !cs.contains c) = true) : xO I' (xP I') c f := by
  have e6 : I' 6 = I 6 := hs.at 6 (by have := List.all_eq_true.mp hc 6 (by decide); simpa using this)
  have : xP I' = xP I := by funext i w; show I' 6 _ = _; rw [e6]
  rw [this]
  refine h.keep hs ?_
  rw [List.all_eq_true] at hc ⊢
  exact fun x hx => hc x (List.mem_cons_of_mem _ hx)
theorem bI_0 {b : Bool} (h : bI b = 0) : b = false := by
  cases b with
  | false => rfl
  | true => exact absurd h (by decide)
theorem bI_n0 {b : Bool} (h : ¬ bI b = 0) : b = true := by
  cases b with
  | false => exact absurd (by decide) h
  | true => rfl
/-- a stretch of an array, new from lo up to p -/
def strN (I I0 : Nat → Nat → Int32) (a lo p : Nat) (g : Nat → Int32) : Prop := ∀ q, I a q = if lo ≤ q ∧ q < p then g q else I0 a q
theorem strN.rf {I : Nat → Nat → Int32} {a lo : Nat} {g : Nat → Int32} : strN I I a lo lo g := fun q => by rw [if_neg (by omega)]
theorem strN.next {I I0 : Nat → Nat → Int32} {a lo p : Nat} {g : Nat → Int32} {v : Int32} (h : strN I I0 a lo p g) (hp : lo ≤ p) (hv : v = g p) : strN (gup I a p v) I0 a lo (p + 1) g := fun q => by
  rw [gup_at]
  by_cases z : q = p
  · subst z; rw [if_pos rfl, if_pos (by omega), hv]
  · rw [if_neg z, h q]
    by_cases y : lo ≤ q ∧ q < p
    · rw [if_pos y, if_pos (by omega)]
    · rw [if_neg y, if_neg (by omega)]
theorem strN.keep {I I' I0 : Nat → Nat → Int32} {a lo p : Nat} {g : Nat → Int32} (h : strN I I0 a lo p g) (e : I' a = I a) : strN I' I0 a lo p g := fun q => by rw [e]; exact h q
section X1B
variable {E : gE} {I : Nat → Nat → Int32} {h : gX}
theorem x1_part {a b c : Int32} : gPI E fX1_part [.int a, .int b, .int c] I h (ptS a b c) := by
  refine gEv.of rfl (Nat.le_refl _) (Nat.le_of_ble_eq_true rfl) (L := [.int a, .int b, .int c]) rfl ?_
  refine g_iload_n (i := 2) (t := 1) dX1_part_0 rfl rfl rfl ?_
  refine g_if_le (t1 := 14) (t2 := 4) dX1_part_1 (by decide) rfl (fun h1 => ?_) (fun h1 => ?_)
  · refine g_iconst (t := 15) dX1_part_14 c_iconst_0 rfl ?_
    exact g_retP dX1_part_15 rfl rfl (by
    unfold ptS
    rw [nI_0]
    first
    | rw [if_pos (Int32.not_le.mp h1)]
    | rw [if_neg (Int32.not_lt.mpr h1)])
  · refine g_iload_n (i := 0) (t := 5) dX1_part_4 rfl rfl rfl ?_
    refine g_iload_n (i := 1) (t := 6) dX1_part_5 rfl rfl rfl ?_
    refine g_imul (t := 7) dX1_part_6 rfl ?_
    refine g_iload_n (i := 2) (t := 8) dX1_part_7 rfl rfl rfl ?_
    refine g_cSp (t := 11) mJ9_floorDiv_7cf53 k_X1_115 smJ9_floorDiv_7cf53 dX1_part_8 (j9_floorDiv (fun z => h1 (by rw [z]; decide))) rfl rfl (by decide) (by decide) (Nat.le_of_ble_eq_true rfl) rfl (Nat.le_refl _) ?_
    refine g_goto (t := 15) dX1_part_11 (by decide) ?_
    exact g_retP dX1_part_15 rfl rfl (by
    unfold ptS
    rw [nI_0]
    first
    | rw [if_pos (Int32.not_le.mp h1)]
    | rw [if_neg (Int32.not_lt.mpr h1)])
theorem x1_end_18 {Q : lQ} {c l : Nat} (hsh : I 11 0 = nI c) (hc : c ≤ 16) (hB : xB I 18 19 20 Q c) (hl : l < nln Q c) : gPI E fX1_end [.ref 18, .int (nI l)] I h (nI (frC Q c (l + 1))) := by
  refine gEv.of rfl (Nat.le_refl _) (Nat.le_of_ble_eq_true rfl) (L := [.ref 18, .int (nI l)]) rfl ?_
  obtain ⟨h0, hB1⟩ := hB
  have hnl := nln_le Q c
  refine g_iload_n (i := 1) (t := 1) dX1_end_0 rfl rfl rfl ?_
  refine g_if_lt (t1 := 25) (t2 := 4) dX1_end_1 (by decide) rfl (fun h1 => ?_) (fun h1 => ?_)
  · exact absurd h1 (by first | decide | exact nI_pos (by omega) | exact nI_ne0 (by omega) (by omega))
  · refine g_iload_n (i := 1) (t := 5) dX1_end_4 rfl rfl rfl ?_
    refine g_iconst (t := 6) dX1_end_5 c_iconst_1 rfl ?_
    refine g_iadd (t := 7) dX1_end_6 rfl ?_
    refine g_top (gi_s l) ?_
    refine g_aload_n (i := 0) (r := 18) (t := 8) dX1_end_7 rfl rfl (Or.inl l9_18) rfl ?_
    refine gm_getI (o := 18) (ci := 1) (k := 0) (t := 11) l6_18 l9_18 s_18 gf_X1_49 rfl dX1_end_8 rfl ?_
    rw [h0]
    refine g_icmp_ge_n (t1 := 25) (t2 := 14) dX1_end_11 (by decide) rfl (by omega) (by omega) (fun h11 => ?_) (fun h11 => ?_)
    · refine g_aload_n (i := 0) (r := 18) (t := 26) dX1_end_25 rfl rfl (Or.inl l9_18) rfl ?_
      refine gm_getR (o := 18) (ci := 1) (k := 10) (r := 11) (t := 29) l6_18 l9_18 s_18 gf_X1_41 rfl r_18_10 l9_11 dX1_end_26 rfl ?_
      refine gm_getI (o := 11) (ci := 2) (k := 0) (t := 32) l6_11 l9_11 s_11 gf_X1_57 rfl dX1_end_29 rfl ?_
      exact g_retP dX1_end_32 rfl rfl (by first | exact (hB1 (l + 1) (by omega)).1 | rw [hsh, frC_all Q (by omega)])
    · refine g_aload_n (i := 0) (r := 18) (t := 15) dX1_end_14 rfl rfl (Or.inl l9_18) rfl ?_
      refine gm_getR (o := 18) (ci := 1) (k := 1) (r := 19) (t := 18) l6_18 l9_18 s_18 gf_X1_9 rfl r_18_1 l9_19 dX1_end_15 rfl ?_
      refine g_iload_n (i := 1) (t := 19) dX1_end_18 rfl rfl rfl ?_
      refine g_iconst (t := 20) dX1_end_19 c_iconst_1 rfl ?_
      refine g_iadd (t := 21) dX1_end_20 rfl ?_
      refine g_top (gi_s l) ?_
      refine gm_iald_n (a := 19) (n := 16) (t := 22) l6_19 l9_19 s_19 dX1_end_21 (by omega) (by decide) rfl ?_
      refine g_goto (t := 32) dX1_end_22 (by decide) ?_
      exact g_retP dX1_end_32 rfl rfl (by first | exact (hB1 (l + 1) (by omega)).1 | rw [hsh, frC_all Q (by omega)])
theorem x1_lineOf_loop_18 {Q : lQ} {c p : Nat} (hp : p < c) (hc : c ≤ 16) (hB : xB I 18 19 20 Q c) : ∀ (d l : Nat), l + d = nln Q c → l ≤ lin Q p → Wp E fX1_lineOf (gn h) 2 [.ref 18, .int (nI p), .int (nI l)] [] (gM I h) (gRet fX1_lineOf (gn h) (fun r σ' => r = some (.int (nI (lin Q p))) ∧ σ' = gM I h)) := by
  obtain ⟨h0, hB1⟩ := hB
  have hnl := nln_le Q c
  have hlp := lin_lt Q hp
  intro d
  induction d with
  | zero => intro l h2 h3; omega
  | succ d ih =>
    intro l h2 h3
    have hif := frC_iff Q c (l + 1) p hp
    have hfl := frC_le Q c (l + 1)
    refine g_iload_n (i := 2) (t := 3) dX1_lineOf_2 rfl rfl rfl ?_
    refine g_iconst (t := 4) dX1_lineOf_3 c_iconst_1 rfl ?_
    refine g_iadd (t := 5) dX1_lineOf_4 rfl ?_
    refine g_top (gi_s l) ?_
    refine g_aload_n (i := 0) (r := 18) (t := 6) dX1_lineOf_5 rfl rfl (Or.inl l9_18) rfl ?_
    refine gm_getI (o := 18) (ci := 1) (k := 0) (t := 9) l6_18 l9_18 s_18 gf_X1_49 rfl dX1_lineOf_6 rfl ?_
    rw [h0]
    refine g_icmp_ge_n (t1 := 30) (t2 := 12) dX1_lineOf_9 (by decide) rfl (by omega) (by omega) (fun h9 => ?_) (fun h9 => ?_)
    · refine g_iload_n (i := 2) (t := 31) dX1_lineOf_30 rfl rfl rfl ?_
      exact g_retP dX1_lineOf_31 rfl rfl (congrArg nI (by omega))
    · refine g_aload_n (i := 0) (r := 18) (t := 13) dX1_lineOf_12 rfl rfl (Or.inl l9_18) rfl ?_
      refine gm_getR (o := 18) (ci := 1) (k := 1) (r := 19) (t := 16) l6_18 l9_18 s_18 gf_X1_9 rfl r_18_1 l9_19 dX1_lineOf_13 rfl ?_
      refine g_iload_n (i := 2) (t := 17) dX1_lineOf_16 rfl rfl rfl ?_
      refine g_iconst (t := 18) dX1_lineOf_17 c_iconst_1 rfl ?_
      refine g_iadd (t := 19) dX1_lineOf_18 rfl ?_
      refine g_top (gi_s l) ?_
      refine gm_iald_n (a := 19) (n := 16) (t := 20) l6_19 l9_19 s_19 dX1_lineOf_19 (by omega) (by decide) rfl ?_
      rw [(hB1 (l + 1) (by omega)).1]
      refine g_iload_n (i := 1) (t := 21) dX1_lineOf_20 rfl rfl rfl ?_
      refine g_icmp_gt_n (t1 := 30) (t2 := 24) dX1_lineOf_21 (by decide) rfl (by omega) (by omega) (fun h21 => ?_) (fun h21 => ?_)
      · refine g_iload_n (i := 2) (t := 31) dX1_lineOf_30 rfl rfl rfl ?_
        exact g_retP dX1_lineOf_31 rfl rfl (congrArg nI (by omega))
      · refine g_iinc (i := 2) (t := 27) (L1 := [_, _, _]) dX1_lineOf_24 rfl (gi_1 _) (by decide) rfl rfl rfl ?_
        refine g_goto (t := 2) dX1_lineOf_27 (by decide) ?_
        exact ih (l + 1) (by omega) (by omega)
theorem x1_lineOf_18 {Q : lQ} {c p : Nat} (hp : p < c) (hc : c ≤ 16) (hB : xB I 18 19 20 Q c) : gPI E fX1_lineOf [.ref 18, .int (nI p)] I h (nI (lin Q p)) := by
  refine gEv.of rfl (Nat.le_refl _) (Nat.le_of_ble_eq_true rfl) (L := [.ref 18, .int (nI p), .null]) rfl ?_
  refine g_iconst (t := 1) dX1_lineOf_0 c_iconst_0 rfl ?_
  refine g_istore_n (i := 2) (t := 2) (L1 := [_, _, _]) dX1_lineOf_1 rfl (by decide) rfl rfl rfl ?_
  exact x1_lineOf_loop_18 hp hc hB _ 0 (Nat.zero_add _) (Nat.zero_le _)
theorem x1_fs_loop_18 {A : lA} {c hi : Nat} {f : Nat → Nat} {I0 : Nat → Nat → Int32} (hO : xO I0 (xP I0) c f) (hA : A.1.1 = xP I0) (hf : A.1.2.2.2 = f) (hhi : hi ≤ c) {K : gK} : ∀ (d p : Nat) (I : Nat → Nat → Int32), p + d = hi → A.2.1 ≤ p → gSame [24, 25] I0 I → strN I I0 24 A.2.1 p (zL0 A).2 → strN I I0 25 A.2.1 p (fun q => ovS ((zL0 A).1 q)) →
    (∀ I v, gSame [24, 25] I0 I → strN I I0 24 A.2.1 hi (zL0 A).2 → strN I I0 25 A.2.1 hi (fun q => ovS ((zL0 A).1 q)) → Wp E fX1_freezeStiff (gn h) 57 [.ref 18, .int (nI A.2.1), .int (nI hi), .int (bI (grL A)), v] [] (gM I h) K) →
    Wp E fX1_freezeStiff (gn h) 3 [.ref 18, .int (nI A.2.1), .int (nI hi), .int (bI (grL A)), .int (nI p)] [] (gM I h) K := by
  intro d
  have hc := hO.1
  induction d with
  | zero =>
    intro p I hp hlo hs z6 z7 kk
    have hp : p = hi := by omega
    subst hp
    refine g_iload (i := 4) (t := 5) dX1_freezeStiff_3 rfl rfl ?_
    refine g_iload_n (i := 2) (t := 6) dX1_freezeStiff_5 rfl rfl rfl ?_
    refine g_icmp_ge_n (t1 := 57) (t2 := 9) dX1_freezeStiff_6 (by decide) rfl (by omega) (by omega) (fun h6 => ?_) (fun h6 => ?_)
    · exact kk I _ hs z6 z7
    · exfalso; omega
  | succ d ih =>
    intro p I hp hlo hs z6 z7 kk
    have hO1 := hO.keepP hs rfl
    have eP : xP I = xP I0 := by funext i w; show I 6 _ = I0 6 _; rw [hs.at 6 rfl]
    have hw : I 17 p = (zL0 A).2 p := by
      rw [hs.at 17 rfl, (hO.2.2 p (by omega)).2.2.2.2.2.2]
      show _ = wsh A.1.1 (A.1.2.2.2 p)
      rw [hA, hf]
    have T : ∀ v : Int32, v = ovS ((zL0 A).1 p) → Wp E fX1_freezeStiff (gn h) 50 [.ref 18, .int (nI A.2.1), .int (nI hi), .int (bI (grL A)), .int (nI p)] [.int v, .int (nI p), .ref 25] (gM (gup I 24 p (I 17 p)) h) K := by
      intro v hv
      refine gm_iast_n (a := 25) (n := 16) (t := 51) l6_25 l9_25 s_25 dX1_freezeStiff_50 (by omega) (by decide) rfl ?_
      refine g_iinc (i := 4) (t := 54) (L1 := [_, _, _, _, _]) dX1_freezeStiff_51 rfl (gi_1 _) (by decide) rfl rfl rfl ?_
      refine g_goto (t := 3) dX1_freezeStiff_54 (by decide) ?_
      exact ih (p + 1) _ (by omega) (by omega) ((hs.up rfl).up rfl) ((z6.next hlo hw).keep (gup_rowo _ _ _ (by decide))) ((z7.keep (gup_rowo _ _ _ (by decide))).next hlo hv) kk
    refine g_iload (i := 4) (t := 5) dX1_freezeStiff_3 rfl rfl ?_
    refine g_iload_n (i := 2) (t := 6) dX1_freezeStiff_5 rfl rfl rfl ?_
    refine g_icmp_ge_n (t1 := 57) (t2 := 9) dX1_freezeStiff_6 (by decide) rfl (by omega) (by omega) (fun h6 => ?_) (fun h6 => ?_)
    · exfalso; omega
    · refine g_aload_n (i := 0) (r := 18) (t := 10) dX1_freezeStiff_9 rfl rfl (Or.inl l9_18) rfl ?_
      refine gm_getR (o := 18) (ci := 1) (k := 6) (r := 24) (t := 13) l6_18 l9_18 s_18 gf_X1_28 rfl r_18_6 l9_24 dX1_freezeStiff_10 rfl ?_
      refine g_iload (i := 4) (t := 15) dX1_freezeStiff_13 rfl rfl ?_
      refine g_aload_n (i := 0) (r := 18) (t := 16) dX1_freezeStiff_15 rfl rfl (Or.inl l9_18) rfl ?_
      refine gm_getR (o := 18) (ci := 1) (k := 10) (r := 11) (t := 19) l6_18 l9_18 s_18 gf_X1_41 rfl r_18_10 l9_11 dX1_freezeStiff_16 rfl ?_
      refine gm_getR (o := 11) (ci := 2) (k := 6) (r := 17) (t := 22) l6_11 l9_11 s_11 gf_X1_75 rfl r_11_6 l9_17 dX1_freezeStiff_19 rfl ?_
      refine g_iload (i := 4) (t := 24) dX1_freezeStiff_22 rfl rfl ?_
      refine gm_iald_n (a := 17) (n := 16) (t := 25) l6_17 l9_17 s_17 dX1_freezeStiff_24 (by omega) (by decide) rfl ?_
      refine gm_iast_n (a := 24) (n := 16) (t := 26) l6_24 l9_24 s_24 dX1_freezeStiff_25 (by omega) (by decide) rfl ?_
      refine g_aload_n (i := 0) (r := 18) (t := 27) dX1_freezeStiff_26 rfl rfl (Or.inl l9_18) rfl ?_
      refine gm_getR (o := 18) (ci := 1) (k := 7) (r := 25) (t := 30) l6_18 l9_18 s_18 gf_X1_31 rfl r_18_7 l9_25 dX1_freezeStiff_27 rfl ?_
      refine g_iload (i := 4) (t := 32) dX1_freezeStiff_30 rfl rfl ?_
      refine g_aload_n (i := 0) (r := 18) (t := 33) dX1_freezeStiff_32 rfl rfl (Or.inl l9_18) rfl ?_
      refine gm_getR (o := 18) (ci := 1) (k := 10) (r := 11) (t := 36) l6_18 l9_18 s_18 gf_X1_41 rfl r_18_10 l9_11 dX1_freezeStiff_33 rfl ?_
      refine g_iload (i := 4) (t := 38) dX1_freezeStiff_36 rfl rfl ?_
      refine g_iload_n (i := 3) (t := 39) dX1_freezeStiff_38 rfl rfl rfl ?_
      refine g_cVp (o := 11) (t := 42) mX2_isStiff k_X1_94 imX2_isStiff seX2_isStiff l6_11 l9_11 s_11 rfl dX1_freezeStiff_39 (x2_isStiff (hO1.keepP (gSame.rf.up (cs := [24]) rfl) rfl) (by omega)) rfl rfl (by decide) (by decide) (Nat.le_of_ble_eq_true rfl) rfl (Nat.le_refl _) ?_
      refine g_top (y := bI (stf (xP I0) (grL A) (f p))) (by rw [← eP]; rfl) ?_
      refine g_if_eq (t1 := 49) (t2 := 45) dX1_freezeStiff_42 (by decide) rfl (fun h42 => ?_) (fun h42 => ?_)
      · refine g_iconst (t := 50) dX1_freezeStiff_49 c_iconst_m1 rfl ?_
        refine T _ ?_
        show _ = ovS (if stf A.1.1 (grL A) (A.1.2.2.2 p) then some 0 else none)
        rw [hA, hf]
        first
        | (rw [bI_0 h42]; rfl)
        | (rw [bI_n0 h42]; rfl)
      · refine g_iconst (t := 46) dX1_freezeStiff_45 c_iconst_0 rfl ?_
        refine g_goto (t := 50) dX1_freezeStiff_46 (by decide) ?_
        refine T _ ?_
        show _ = ovS (if stf A.1.1 (grL A) (A.1.2.2.2 p) then some 0 else none)
        rw [hA, hf]
        first
        | (rw [bI_0 h42]; rfl)
        | (rw [bI_n0 h42]; rfl)
theorem x1_freezeStiff_18 {A : lA} {c : Nat} {f : Nat → Nat} (hO : xO I (xP I) c f) (hA : A.1.1 = xP I) (hf : A.1.2.2.2 = f) (hhi : A.2.1 + A.2.2 ≤ c) : gQV E fX1_freezeStiff [.ref 18, .int (nI A.2.1), .int (nI (A.2.1 + A.2.2)), .int (bI (grL A))] I h (fun I' => gSame [24, 25] I I' ∧ strN I' I 24 A.2.1 (A.2.1 + A.2.2) (zL0 A).2 ∧ strN I' I 25 A.2.1 (A.2.1 + A.2.2) (fun q => ovS ((zL0 A).1 q))) := by
  refine gEv.of rfl (Nat.le_refl _) (Nat.le_of_ble_eq_true rfl) (L := [.ref 18, .int (nI A.2.1), .int (nI (A.2.1 + A.2.2)), .int (bI (grL A)), .null]) rfl ?_
  refine g_iload_n (i := 1) (t := 1) dX1_freezeStiff_0 rfl rfl rfl ?_
  refine g_istore (i := 4) (t := 3) (L1 := [_, _, _, _, _]) dX1_freezeStiff_1 (by decide) rfl rfl rfl ?_
  refine x1_fs_loop_18 hO hA hf hhi A.2.2 A.2.1 I rfl (Nat.le_refl _) gSame.rf strN.rf strN.rf (fun I1 v hs z6 z7 => ?_)
  exact g_retV dX1_freezeStiff_57 rfl ⟨hs, z6, z7⟩
/-- the line's items as they stand: sizes and passes -/
def xZ_18 (I : Nat → Nat → Int32) (A : lA) (z : lZ) : Prop := ∀ q, A.2.1 ≤ q → q < A.2.1 + A.2.2 → I 24 q = z.2 q ∧ I 25 q = ovS (z.1 q) ∧ ∀ t, z.1 q = some t → t ≤ 16
theorem x1_ho_loop_18 {A : lA} {z : lZ} (hZ : xZ_18 I A z) (h16 : A.2.1 + A.2.2 ≤ 16) : ∀ (d k : Nat), k + d = A.2.2 → (∀ j, j < k → z.1 (A.2.1 + j) ≠ none) → Wp E fX1_hasOpen (gn h) 2 [.ref 18, .int (nI A.2.1), .int (nI (A.2.1 + A.2.2)), .int (nI (A.2.1 + k))] [] (gM I h) (gRet fX1_hasOpen (gn h) (fun r σ' => r = some (.int (bI (opL A z))) ∧ σ' = gM I h)) := by
  intro d
  induction d with
  | zero =>
    intro k hk hn
    have e : opL A z = false := by
      cases q : opL A z with
      | false => rfl
      | true =>
        obtain ⟨j, h1, h2⟩ := (opL_iff A z).mp q
        exact absurd h2 (hn j (by omega))
    refine g_iload_n (i := 3) (t := 3) dX1_hasOpen_2 rfl rfl rfl ?_
    refine g_iload_n (i := 2) (t := 4) dX1_hasOpen_3 rfl rfl rfl ?_
    refine g_icmp_ge_n (t1 := 25) (t2 := 7) dX1_hasOpen_4 (by decide) rfl (by omega) (by omega) (fun h4 => ?_) (fun h4 => ?_)
    · refine g_iconst (t := 26) dX1_hasOpen_25 c_iconst_0 rfl ?_
      exact g_retP dX1_hasOpen_26 rfl (by decide +kernel) (by rw [e]; rfl)
    · exfalso; omega
  | succ d ih =>
    intro k hk hn
    obtain ⟨-, h2, h3⟩ := hZ (A.2.1 + k) (by omega) (by omega)
    have hov := ovS_none _ h3
    refine g_iload_n (i := 3) (t := 3) dX1_hasOpen_2 rfl rfl rfl ?_
    refine g_iload_n (i := 2) (t := 4) dX1_hasOpen_3 rfl rfl rfl ?_
    refine g_icmp_ge_n (t1 := 25) (t2 := 7) dX1_hasOpen_4 (by decide) rfl (by omega) (by omega) (fun h4 => ?_) (fun h4 => ?_)
    · exfalso; omega
    · refine g_aload_n (i := 0) (r := 18) (t := 8) dX1_hasOpen_7 rfl rfl (Or.inl l9_18) rfl ?_
      refine gm_getR (o := 18) (ci := 1) (k := 7) (r := 25) (t := 11) l6_18 l9_18 s_18 gf_X1_31 rfl r_18_7 l9_25 dX1_hasOpen_8 rfl ?_
      refine g_iload_n (i := 3) (t := 12) dX1_hasOpen_11 rfl rfl rfl ?_
      refine gm_iald_n (a := 25) (n := 16) (t := 13) l6_25 l9_25 s_25 dX1_hasOpen_12 (by omega) (by decide) rfl ?_
      rw [h2]
      refine g_iconst (t := 14) dX1_hasOpen_13 c_iconst_m1 rfl ?_
      refine g_icmp_ne (t1 := 19) (t2 := 17) dX1_hasOpen_14 (by decide) rfl (fun h14 => ?_) (fun h14 => ?_)
      · refine g_iinc (i := 3) (t := 22) (L1 := [_, _, _, _]) dX1_hasOpen_19 rfl (gi_1 _) (by decide) rfl rfl rfl ?_
        refine g_goto (t := 2) dX1_hasOpen_22 (by decide) ?_
        exact ih (k + 1) (by omega) (fun j hj => by
          by_cases y : j = k
          · subst y; exact fun q => h14 (hov.mpr q)
          · exact hn j (by omega))
      · refine g_iconst (t := 18) dX1_hasOpen_17 c_iconst_1 rfl ?_
        exact g_retP dX1_hasOpen_18 rfl (by decide +kernel) (by rw [(opL_iff A z).mpr ⟨k, by omega, hov.mp h14⟩]; rfl)
theorem x1_hasOpen_18 {A : lA} {z : lZ} (hZ : xZ_18 I A z) (h16 : A.2.1 + A.2.2 ≤ 16) : gPI E fX1_hasOpen [.ref 18, .int (nI A.2.1), .int (nI (A.2.1 + A.2.2))] I h (bI (opL A z)) := by
  refine gEv.of rfl (Nat.le_refl _) (Nat.le_of_ble_eq_true rfl) (L := [.ref 18, .int (nI A.2.1), .int (nI (A.2.1 + A.2.2)), .null]) rfl ?_
  refine g_iload_n (i := 1) (t := 1) dX1_hasOpen_0 rfl rfl rfl ?_
  refine g_istore_n (i := 3) (t := 2) (L1 := [_, _, _, _]) dX1_hasOpen_1 rfl (by decide) rfl rfl rfl ?_
  exact x1_ho_loop_18 hZ h16 A.2.2 0 (by omega) (fun j hj => absurd hj (Nat.not_lt_zero _))
theorem x1_end_32 {Q : lQ} {c l : Nat} (hsh : I 11 0 = nI c) (hc : c ≤ 16) (hB : xB I 32 33 34 Q c) (hl : l < nln Q c) : gPI E fX1_end [.ref 32, .int (nI l)] I h (nI (frC Q c (l + 1))) := by
  refine gEv.of rfl (Nat.le_refl _) (Nat.le_of_ble_eq_true rfl) (L := [.ref 32, .int (nI l)]) rfl ?_
  obtain ⟨h0, hB1⟩ := hB
  have hnl := nln_le Q c
  refine g_iload_n (i := 1) (t := 1) dX1_end_0 rfl rfl rfl ?_
  refine g_if_lt (t1 := 25) (t2 := 4) dX1_end_1 (by decide) rfl (fun h1 => ?_) (fun h1 => ?_)
  · exact absurd h1 (by first | decide | exact nI_pos (by omega) | exact nI_ne0 (by omega) (by omega))
  · refine g_iload_n (i := 1) (t := 5) dX1_end_4 rfl rfl rfl ?_
    refine g_iconst (t := 6) dX1_end_5 c_iconst_1 rfl ?_
    refine g_iadd (t := 7) dX1_end_6 rfl ?_
    refine g_top (gi_s l) ?_
    refine g_aload_n (i := 0) (r := 32) (t := 8) dX1_end_7 rfl rfl (Or.inl l9_32) rfl ?_
    refine gm_getI (o := 32) (ci := 1) (k := 0) (t := 11) l6_32 l9_32 s_32 gf_X1_49 rfl dX1_end_8 rfl ?_
    rw [h0]
    refine g_icmp_ge_n (t1 := 25) (t2 := 14) dX1_end_11 (by decide) rfl (by omega) (by omega) (fun h11 => ?_) (fun h11 => ?_)
    · refine g_aload_n (i := 0) (r := 32) (t := 26) dX1_end_25 rfl rfl (Or.inl l9_32) rfl ?_
      refine gm_getR (o := 32) (ci := 1) (k := 10) (r := 11) (t := 29) l6_32 l9_32 s_32 gf_X1_41 rfl r_32_10 l9_11 dX1_end_26 rfl ?_
      refine gm_getI (o := 11) (ci := 2) (k := 0) (t := 32) l6_11 l9_11 s_11 gf_X1_57 rfl dX1_end_29 rfl ?_
      exact g_retP dX1_end_32 rfl rfl (by first | exact (hB1 (l + 1) (by omega)).1 | rw [hsh, frC_all Q (by omega)])
    · refine g_aload_n (i := 0) (r := 32) (t := 15) dX1_end_14 rfl rfl (Or.inl l9_32) rfl ?_
      refine gm_getR (o := 32) (ci := 1) (k := 1) (r := 33) (t := 18) l6_32 l9_32 s_32 gf_X1_9 rfl r_32_1 l9_33 dX1_end_15 rfl ?_
      refine g_iload_n (i := 1) (t := 19) dX1_end_18 rfl rfl rfl ?_
      refine g_iconst (t := 20) dX1_end_19 c_iconst_1 rfl ?_
      refine g_iadd (t := 21) dX1_end_20 rfl ?_
      refine g_top (gi_s l) ?_
      refine gm_iald_n (a := 33) (n := 16) (t := 22) l6_33 l9_33 s_33 dX1_end_21 (by omega) (by decide) rfl ?_
      refine g_goto (t := 32) dX1_end_22 (by decide) ?_
      exact g_retP dX1_end_32 rfl rfl (by first | exact (hB1 (l + 1) (by omega)).1 | rw [hsh, frC_all Q (by omega)])
theorem x1_lineOf_loop_32 {Q : lQ} {c p : Nat} (hp : p < c) (hc : c ≤ 16) (hB : xB I 32 33 34 Q c) : ∀ (d l : Nat), l + d = nln Q c → l ≤ lin Q p → Wp E fX1_lineOf (gn h) 2 [.ref 32, .int (nI p), .int (nI l)] [] (gM I h) (gRet fX1_lineOf (gn h) (fun r σ' => r = some (.int (nI (lin Q p))) ∧ σ' = gM I h)) := by
  obtain ⟨h0, hB1⟩ := hB
  have hnl := nln_le Q c
  have hlp := lin_lt Q hp
  intro d
  induction d with
  | zero => intro l h2 h3; omega
  | succ d ih =>
    intro l h2 h3
    have hif := frC_iff Q c (l + 1) p hp
    have hfl := frC_le Q c (l + 1)
    refine g_iload_n (i := 2) (t := 3) dX1_lineOf_2 rfl rfl rfl ?_
    refine g_iconst (t := 4) dX1_lineOf_3 c_iconst_1 rfl ?_
    refine g_iadd (t := 5) dX1_lineOf_4 rfl ?_
    refine g_top (gi_s l) ?_
    refine g_aload_n (i := 0) (r := 32) (t := 6) dX1_lineOf_5 rfl rfl (Or.inl l9_32) rfl ?_
    refine gm_getI (o := 32) (ci := 1) (k := 0) (t := 9) l6_32 l9_32 s_32 gf_X1_49 rfl dX1_lineOf_6 rfl ?_
    rw [h0]
    refine g_icmp_ge_n (t1 := 30) (t2 := 12) dX1_lineOf_9 (by decide) rfl (by omega) (by omega) (fun h9 => ?_) (fun h9 => ?_)
    · refine g_iload_n (i := 2) (t := 31) dX1_lineOf_30 rfl rfl rfl ?_
      exact g_retP dX1_lineOf_31 rfl rfl (congrArg nI (by omega))
    · refine g_aload_n (i := 0) (r := 32) (t := 13) dX1_lineOf_12 rfl rfl (Or.inl l9_32) rfl ?_
      refine gm_getR (o := 32) (ci := 1) (k := 1) (r := 33) (t := 16) l6_32 l9_32 s_32 gf_X1_9 rfl r_32_1 l9_33 dX1_lineOf_13 rfl ?_
      refine g_iload_n (i := 2) (t := 17) dX1_lineOf_16 rfl rfl rfl ?_
      refine g_iconst (t := 18) dX1_lineOf_17 c_iconst_1 rfl ?_
      refine g_iadd (t := 19) dX1_lineOf_18 rfl ?_
      refine g_top (gi_s l) ?_
      refine gm_iald_n (a := 33) (n := 16) (t := 20) l6_33 l9_33 s_33 dX1_lineOf_19 (by omega) (by decide) rfl ?_
      rw [(hB1 (l + 1) (by omega)).1]
      refine g_iload_n (i := 1) (t := 21) dX1_lineOf_20 rfl rfl rfl ?_
      refine g_icmp_gt_n (t1 := 30) (t2 := 24) dX1_lineOf_21 (by decide) rfl (by omega) (by omega) (fun h21 => ?_) (fun h21 => ?_)
      · refine g_iload_n (i := 2) (t := 31) dX1_lineOf_30 rfl rfl rfl ?_
        exact g_retP dX1_lineOf_31 rfl rfl (congrArg nI (by omega))
      · refine g_iinc (i := 2) (t := 27) (L1 := [_, _, _]) dX1_lineOf_24 rfl (gi_1 _) (by decide) rfl rfl rfl ?_
        refine g_goto (t := 2) dX1_lineOf_27 (by decide) ?_
        exact ih (l + 1) (by omega) (by omega)
theorem x1_lineOf_32 {Q : lQ} {c p : Nat} (hp : p < c) (hc : c ≤ 16) (hB : xB I 32 33 34 Q c) : gPI E fX1_lineOf [.ref 32, .int (nI p)] I h (nI (lin Q p)) := by
  refine gEv.of rfl (Nat.le_refl _) (Nat.le_of_ble_eq_true rfl) (L := [.ref 32, .int (nI p), .null]) rfl ?_
  refine g_iconst (t := 1) dX1_lineOf_0 c_iconst_0 rfl ?_
  refine g_istore_n (i := 2) (t := 2) (L1 := [_, _, _]) dX1_lineOf_1 rfl (by decide) rfl rfl rfl ?_
  exact x1_lineOf_loop_32 hp hc hB _ 0 (Nat.zero_add _) (Nat.zero_le _)
theorem x1_fs_loop_32 {A : lA} {c hi : Nat} {f : Nat → Nat} {I0 : Nat → Nat → Int32} (hO : xO I0 (xP I0) c f) (hA : A.1.1 = xP I0) (hf : A.1.2.2.2 = f) (hhi : hi ≤ c) {K : gK} : ∀ (d p : Nat) (I : Nat → Nat → Int32), p + d = hi → A.2.1 ≤ p → gSame [38, 39] I0 I → strN I I0 38 A.2.1 p (zL0 A).2 → strN I I0 39 A.2.1 p (fun q => ovS ((zL0 A).1 q)) →
    (∀ I v, gSame [38, 39] I0 I → strN I I0 38 A.2.1 hi (zL0 A).2 → strN I I0 39 A.2.1 hi (fun q => ovS ((zL0 A).1 q)) → Wp E fX1_freezeStiff (gn h) 57 [.ref 32, .int (nI A.2.1), .int (nI hi), .int (bI (grL A)), v] [] (gM I h) K) →
    Wp E fX1_freezeStiff (gn h) 3 [.ref 32, .int (nI A.2.1), .int (nI hi), .int (bI (grL A)), .int (nI p)] [] (gM I h) K := by
  intro d
  have hc := hO.1
  induction d with
  | zero =>
    intro p I hp hlo hs z6 z7 kk
    have hp : p = hi := by omega
    subst hp
    refine g_iload (i := 4) (t := 5) dX1_freezeStiff_3 rfl rfl ?_
    refine g_iload_n (i := 2) (t := 6) dX1_freezeStiff_5 rfl rfl rfl ?_
    refine g_icmp_ge_n (t1 := 57) (t2 := 9) dX1_freezeStiff_6 (by decide) rfl (by omega) (by omega) (fun h6 => ?_) (fun h6 => ?_)
    · exact kk I _ hs z6 z7
    · exfalso; omega
  | succ d ih =>
    intro p I hp hlo hs z6 z7 kk
    have hO1 := hO.keepP hs rfl
    have eP : xP I = xP I0 := by funext i w; show I 6 _ = I0 6 _; rw [hs.at 6 rfl]
    have hw : I 17 p = (zL0 A).2 p := by
      rw [hs.at 17 rfl, (hO.2.2 p (by omega)).2.2.2.2.2.2]
      show _ = wsh A.1.1 (A.1.2.2.2 p)
      rw [hA, hf]
    have T : ∀ v : Int32, v = ovS ((zL0 A).1 p) → Wp E fX1_freezeStiff (gn h) 50 [.ref 32, .int (nI A.2.1), .int (nI hi), .int (bI (grL A)), .int (nI p)] [.int v, .int (nI p), .ref 39] (gM (gup I 38 p (I 17 p)) h) K := by
      intro v hv
      refine gm_iast_n (a := 39) (n := 16) (t := 51) l6_39 l9_39 s_39 dX1_freezeStiff_50 (by omega) (by decide) rfl ?_
      refine g_iinc (i := 4) (t := 54) (L1 := [_, _, _, _, _]) dX1_freezeStiff_51 rfl (gi_1 _) (by decide) rfl rfl rfl ?_
      refine g_goto (t := 3) dX1_freezeStiff_54 (by decide) ?_
      exact ih (p + 1) _ (by omega) (by omega) ((hs.up rfl).up rfl) ((z6.next hlo hw).keep (gup_rowo _ _ _ (by decide))) ((z7.keep (gup_rowo _ _ _ (by decide))).next hlo hv) kk
    refine g_iload (i := 4) (t := 5) dX1_freezeStiff_3 rfl rfl ?_
    refine g_iload_n (i := 2) (t := 6) dX1_freezeStiff_5 rfl rfl rfl ?_
    refine g_icmp_ge_n (t1 := 57) (t2 := 9) dX1_freezeStiff_6 (by decide) rfl (by omega) (by omega) (fun h6 => ?_) (fun h6 => ?_)
    · exfalso; omega
    · refine g_aload_n (i := 0) (r := 32) (t := 10) dX1_freezeStiff_9 rfl rfl (Or.inl l9_32) rfl ?_
      refine gm_getR (o := 32) (ci := 1) (k := 6) (r := 38) (t := 13) l6_32 l9_32 s_32 gf_X1_28 rfl r_32_6 l9_38 dX1_freezeStiff_10 rfl ?_
      refine g_iload (i := 4) (t := 15) dX1_freezeStiff_13 rfl rfl ?_
      refine g_aload_n (i := 0) (r := 32) (t := 16) dX1_freezeStiff_15 rfl rfl (Or.inl l9_32) rfl ?_
      refine gm_getR (o := 32) (ci := 1) (k := 10) (r := 11) (t := 19) l6_32 l9_32 s_32 gf_X1_41 rfl r_32_10 l9_11 dX1_freezeStiff_16 rfl ?_
      refine gm_getR (o := 11) (ci := 2) (k := 6) (r := 17) (t := 22) l6_11 l9_11 s_11 gf_X1_75 rfl r_11_6 l9_17 dX1_freezeStiff_19 rfl ?_
      refine g_iload (i := 4) (t := 24) dX1_freezeStiff_22 rfl rfl ?_
      refine gm_iald_n (a := 17) (n := 16) (t := 25) l6_17 l9_17 s_17 dX1_freezeStiff_24 (by omega) (by decide) rfl ?_
      refine gm_iast_n (a := 38) (n := 16) (t := 26) l6_38 l9_38 s_38 dX1_freezeStiff_25 (by omega) (by decide) rfl ?_
      refine g_aload_n (i := 0) (r := 32) (t := 27) dX1_freezeStiff_26 rfl rfl (Or.inl l9_32) rfl ?_
      refine gm_getR (o := 32) (ci := 1) (k := 7) (r := 39) (t := 30) l6_32 l9_32 s_32 gf_X1_31 rfl r_32_7 l9_39 dX1_freezeStiff_27 rfl ?_
      refine g_iload (i := 4) (t := 32) dX1_freezeStiff_30 rfl rfl ?_
      refine g_aload_n (i := 0) (r := 32) (t := 33) dX1_freezeStiff_32 rfl rfl (Or.inl l9_32) rfl ?_
      refine gm_getR (o := 32) (ci := 1) (k := 10) (r := 11) (t := 36) l6_32 l9_32 s_32 gf_X1_41 rfl r_32_10 l9_11 dX1_freezeStiff_33 rfl ?_
      refine g_iload (i := 4) (t := 38) dX1_freezeStiff_36 rfl rfl ?_
      refine g_iload_n (i := 3) (t := 39) dX1_freezeStiff_38 rfl rfl rfl ?_
      refine g_cVp (o := 11) (t := 42) mX2_isStiff k_X1_94 imX2_isStiff seX2_isStiff l6_11 l9_11 s_11 rfl dX1_freezeStiff_39 (x2_isStiff (hO1.keepP (gSame.rf.up (cs := [38]) rfl) rfl) (by omega)) rfl rfl (by decide) (by decide) (Nat.le_of_ble_eq_true rfl) rfl (Nat.le_refl _) ?_
      refine g_top (y := bI (stf (xP I0) (grL A) (f p))) (by rw [← eP]; rfl) ?_
      refine g_if_eq (t1 := 49) (t2 := 45) dX1_freezeStiff_42 (by decide) rfl (fun h42 => ?_) (fun h42 => ?_)
      · refine g_iconst (t := 50) dX1_freezeStiff_49 c_iconst_m1 rfl ?_
        refine T _ ?_
        show _ = ovS (if stf A.1.1 (grL A) (A.1.2.2.2 p) then some 0 else none)
        rw [hA, hf]
        first
        | (rw [bI_0 h42]; rfl)
        | (rw [bI_n0 h42]; rfl)
      · refine g_iconst (t := 46) dX1_freezeStiff_45 c_iconst_0 rfl ?_
        refine g_goto (t := 50) dX1_freezeStiff_46 (by decide) ?_
        refine T _ ?_
        show _ = ovS (if stf A.1.1 (grL A) (A.1.2.2.2 p) then some 0 else none)
        rw [hA, hf]
        first
        | (rw [bI_0 h42]; rfl)
        | (rw [bI_n0 h42]; rfl)
theorem x1_freezeStiff_32 {A : lA} {c : Nat} {f : Nat → Nat} (hO : xO I (xP I) c f) (hA : A.1.1 = xP I) (hf : A.1.2.2.2 = f) (hhi : A.2.1 + A.2.2 ≤ c) : gQV E fX1_freezeStiff [.ref 32, .int (nI A.2.1), .int (nI (A.2.1 + A.2.2)), .int (bI (grL A))] I h (fun I' => gSame [38, 39] I I' ∧ strN I' I 38 A.2.1 (A.2.1 + A.2.2) (zL0 A).2 ∧ strN I' I 39 A.2.1 (A.2.1 + A.2.2) (fun q => ovS ((zL0 A).1 q))) := by
  refine gEv.of rfl (Nat.le_refl _) (Nat.le_of_ble_eq_true rfl) (L := [.ref 32, .int (nI A.2.1), .int (nI (A.2.1 + A.2.2)), .int (bI (grL A)), .null]) rfl ?_
  refine g_iload_n (i := 1) (t := 1) dX1_freezeStiff_0 rfl rfl rfl ?_
  refine g_istore (i := 4) (t := 3) (L1 := [_, _, _, _, _]) dX1_freezeStiff_1 (by decide) rfl rfl rfl ?_
  refine x1_fs_loop_32 hO hA hf hhi A.2.2 A.2.1 I rfl (Nat.le_refl _) gSame.rf strN.rf strN.rf (fun I1 v hs z6 z7 => ?_)
  exact g_retV dX1_freezeStiff_57 rfl ⟨hs, z6, z7⟩
/-- the line's items as they stand: sizes and passes -/
def xZ_32 (I : Nat → Nat → Int32) (A : lA) (z : lZ) : Prop := ∀ q, A.2.1 ≤ q → q < A.2.1 + A.2.2 → I 38 q = z.2 q ∧ I 39 q = ovS (z.1 q) ∧ ∀ t, z.1 q = some t → t ≤ 16
theorem x1_ho_loop_32 {A : lA} {z : lZ} (hZ : xZ_32 I A z) (h16 : A.2.1 + A.2.2 ≤ 16) : ∀ (d k : Nat), k + d = A.2.2 → (∀ j, j < k → z.1 (A.2.1 + j) ≠ none) → Wp E fX1_hasOpen (gn h) 2 [.ref 32, .int (nI A.2.1), .int (nI (A.2.1 + A.2.2)), .int (nI (A.2.1 + k))] [] (gM I h) (gRet fX1_hasOpen (gn h) (fun r σ' => r = some (.int (bI (opL A z))) ∧ σ' = gM I h)) := by
  intro d
  induction d with
  | zero =>
    intro k hk hn
    have e : opL A z = false := by
      cases q : opL A z with
      | false => rfl
      | true =>
        obtain ⟨j, h1, h2⟩ := (opL_iff A z).mp q
        exact absurd h2 (hn j (by omega))
    refine g_iload_n (i := 3) (t := 3) dX1_hasOpen_2 rfl rfl rfl ?_
    refine g_iload_n (i := 2) (t := 4) dX1_hasOpen_3 rfl rfl rfl ?_
    refine g_icmp_ge_n (t1 := 25) (t2 := 7) dX1_hasOpen_4 (by decide) rfl (by omega) (by omega) (fun h4 => ?_) (fun h4 => ?_)
    · refine g_iconst (t := 26) dX1_hasOpen_25 c_iconst_0 rfl ?_
      exact g_retP dX1_hasOpen_26 rfl (by decide +kernel) (by rw [e]; rfl)
    · exfalso; omega
  | succ d ih =>
    intro k hk hn
    obtain ⟨-, h2, h3⟩ := hZ (A.2.1 + k) (by omega) (by omega)
    have hov := ovS_none _ h3
    refine g_iload_n (i := 3) (t := 3) dX1_hasOpen_2 rfl rfl rfl ?_
    refine g_iload_n (i := 2) (t := 4) dX1_hasOpen_3 rfl rfl rfl ?_
    refine g_icmp_ge_n (t1 := 25) (t2 := 7) dX1_hasOpen_4 (by decide) rfl (by omega) (by omega) (fun h4 => ?_) (fun h4 => ?_)
    · exfalso; omega
    · refine g_aload_n (i := 0) (r := 32) (t := 8) dX1_hasOpen_7 rfl rfl (Or.inl l9_32) rfl ?_
      refine gm_getR (o := 32) (ci := 1) (k := 7) (r := 39) (t := 11) l6_32 l9_32 s_32 gf_X1_31 rfl r_32_7 l9_39 dX1_hasOpen_8 rfl ?_
      refine g_iload_n (i := 3) (t := 12) dX1_hasOpen_11 rfl rfl rfl ?_
      refine gm_iald_n (a := 39) (n := 16) (t := 13) l6_39 l9_39 s_39 dX1_hasOpen_12 (by omega) (by decide) rfl ?_
      rw [h2]
      refine g_iconst (t := 14) dX1_hasOpen_13 c_iconst_m1 rfl ?_
      refine g_icmp_ne (t1 := 19) (t2 := 17) dX1_hasOpen_14 (by decide) rfl (fun h14 => ?_) (fun h14 => ?_)
      · refine g_iinc (i := 3) (t := 22) (L1 := [_, _, _, _]) dX1_hasOpen_19 rfl (gi_1 _) (by decide) rfl rfl rfl ?_
        refine g_goto (t := 2) dX1_hasOpen_22 (by decide) ?_
        exact ih (k + 1) (by omega) (fun j hj => by
          by_cases y : j = k
          · subst y; exact fun q => h14 (hov.mpr q)
          · exact hn j (by omega))
      · refine g_iconst (t := 18) dX1_hasOpen_17 c_iconst_1 rfl ?_
        exact g_retP dX1_hasOpen_18 rfl (by decide +kernel) (by rw [(opL_iff A z).mpr ⟨k, by omega, hov.mp h14⟩]; rfl)
theorem x1_hasOpen_32 {A : lA} {z : lZ} (hZ : xZ_32 I A z) (h16 : A.2.1 + A.2.2 ≤ 16) : gPI E fX1_hasOpen [.ref 32, .int (nI A.2.1), .int (nI (A.2.1 + A.2.2))] I h (bI (opL A z)) := by
  refine gEv.of rfl (Nat.le_refl _) (Nat.le_of_ble_eq_true rfl) (L := [.ref 32, .int (nI A.2.1), .int (nI (A.2.1 + A.2.2)), .null]) rfl ?_
  refine g_iload_n (i := 1) (t := 1) dX1_hasOpen_0 rfl rfl rfl ?_
  refine g_istore_n (i := 3) (t := 2) (L1 := [_, _, _, _]) dX1_hasOpen_1 rfl (by decide) rfl rfl rfl ?_
  exact x1_ho_loop_32 hZ h16 A.2.2 0 (by omega) (fun j hj => absurd hj (Nat.not_lt_zero _))
end X1B

