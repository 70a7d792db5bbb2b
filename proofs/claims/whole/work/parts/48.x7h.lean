/-! FlexRowsModel: rows copied, laid; insert, remove, undo -/
section X7H
variable {E : gE} {I : Nat → Nat → Int32} {h : Int64} {S : sT}
theorem x7_cp_loop {a b : Nat} (ha : a < 16) (hb : b < 16) (hab : a ≠ b) {I0 : Nat → Nat → Int32} : ∀ (d k : Nat) (I : Nat → Nat → Int32), k + d = 11 → gSame [42] I0 I → (∀ q, I 42 q = if 11 * b ≤ q ∧ q < 11 * b + k then I0 42 (11 * a + (q - 11 * b)) else I0 42 q) → Wp E fX7_copies 62 2 [.ref 41, .int (nI a), .int (nI b), .int (nI k)] [] (gM I h) (gRet fX7_copies 62 (fun r σ' => ∃ I', r = none ∧ σ' = gM I' h ∧ gSame [42] I0 I' ∧ ∀ q, I' 42 q = if 11 * b ≤ q ∧ q < 11 * b + 11 then I0 42 (11 * a + (q - 11 * b)) else I0 42 q)) := by
  intro d
  induction d with
  | zero =>
    intro k I hk hs hq
    have hk : k = 11 := by omega
    subst hk
    refine g_iload_n (i := 3) (t := 3) dX7_copies_2 rfl rfl rfl ?_
    refine g_bipush (t := 5) dX7_copies_3 c_bipush_11 rfl ?_
    refine g_icmp_ge_n (t1 := 36) (t2 := 8) dX7_copies_5 (by decide) rfl (by omega) (by omega) (fun h5 => ?_) (fun h5 => ?_)
    · exact g_retV dX7_copies_36 rfl (⟨hs, hq⟩)
    · exfalso; omega
  | succ d ih =>
    intro k I hk hs hq
    refine g_iload_n (i := 3) (t := 3) dX7_copies_2 rfl rfl rfl ?_
    refine g_bipush (t := 5) dX7_copies_3 c_bipush_11 rfl ?_
    refine g_icmp_ge_n (t1 := 36) (t2 := 8) dX7_copies_5 (by decide) rfl (by omega) (by omega) (fun h5 => ?_) (fun h5 => ?_)
    · exfalso; omega
    · refine g_aload_n (i := 0) (r := 41) (t := 9) dX7_copies_8 rfl rfl (Or.inl l9_41) rfl ?_
      refine gm_getR (o := 41) (ci := 7) (k := 0) (r := 42) (t := 12) l6_41 l9_41 s_41 gf_X7_7 rfl r_41_0 l9_42 dX7_copies_9 rfl ?_
      refine g_bipush (t := 14) dX7_copies_12 c_bipush_11 rfl ?_
      refine g_iload_n (i := 2) (t := 15) dX7_copies_14 rfl rfl rfl ?_
      refine g_imul (t := 16) dX7_copies_15 rfl ?_
      refine g_iload_n (i := 3) (t := 17) dX7_copies_16 rfl rfl rfl ?_
      refine g_iadd (t := 18) dX7_copies_17 rfl ?_
      refine g_top (y := nI (11 * b + k)) (by rw [pk_mul, nI_add]) ?_
      refine g_aload_n (i := 0) (r := 41) (t := 19) dX7_copies_18 rfl rfl (Or.inl l9_41) rfl ?_
      refine gm_getR (o := 41) (ci := 7) (k := 0) (r := 42) (t := 22) l6_41 l9_41 s_41 gf_X7_7 rfl r_41_0 l9_42 dX7_copies_19 rfl ?_
      refine g_bipush (t := 24) dX7_copies_22 c_bipush_11 rfl ?_
      refine g_iload_n (i := 1) (t := 25) dX7_copies_24 rfl rfl rfl ?_
      refine g_imul (t := 26) dX7_copies_25 rfl ?_
      refine g_iload_n (i := 3) (t := 27) dX7_copies_26 rfl rfl rfl ?_
      refine g_iadd (t := 28) dX7_copies_27 rfl ?_
      refine g_top (y := nI (11 * a + k)) (by rw [pk_mul, nI_add]) ?_
      refine gm_iald_n (a := 42) (n := 184) (t := 29) l6_42 l9_42 s_42 dX7_copies_28 (by omega) (by decide) rfl ?_
      refine gm_iast_n (a := 42) (n := 184) (t := 30) l6_42 l9_42 s_42 dX7_copies_29 (by omega) (by decide) rfl ?_
      refine g_iinc (i := 3) (t := 33) (L1 := [_, _, _, _]) dX7_copies_30 rfl (gi_1 _) (by decide) rfl rfl rfl ?_
      refine g_goto (t := 2) dX7_copies_33 (by decide) ?_
      refine ih (k + 1) _ (by omega) (hs.up rfl) (fun q => ?_)
      rw [gup_at]
      by_cases y : q = 11 * b + k
      · subst y
        rw [if_pos rfl, if_pos (by omega), hq, if_neg (by omega)]
        exact congrArg _ (by omega)
      · rw [if_neg y, hq]
        by_cases z : 11 * b ≤ q ∧ q < 11 * b + k
        · rw [if_pos z, if_pos (by omega)]
        · rw [if_neg z, if_neg (by omega)]
theorem x7_copies {a b : Nat} (ha : a < 16) (hb : b < 16) (hab : a ≠ b) : gQV E fX7_copies [.ref 41, .int (nI a), .int (nI b)] I h (fun I' => gSame [42] I I' ∧ ∀ q, I' 42 q = if 11 * b ≤ q ∧ q < 11 * b + 11 then I 42 (11 * a + (q - 11 * b)) else I 42 q) := by
  refine gEv.of rfl (Nat.le_refl _) (Nat.le_of_ble_eq_true rfl) (L := [.ref 41, .int (nI a), .int (nI b), .null]) rfl ?_
  refine g_iconst (t := 1) dX7_copies_0 c_iconst_0 rfl ?_
  refine g_istore_n (i := 3) (t := 2) (L1 := [_, _, _, _]) dX7_copies_1 rfl (by decide) rfl rfl rfl ?_
  exact x7_cp_loop ha hb hab 11 0 I rfl gSame.rf (fun q => by rw [if_neg (by omega)])
theorem x7_ly_loop {a : Nat} (ha : a < 16) {I0 : Nat → Nat → Int32} : ∀ (d k : Nat) (I : Nat → Nat → Int32), k + d = 11 → gSame [42] I0 I → (∀ q, I 42 q = if 11 * a ≤ q ∧ q < 11 * a + k then I0 45 (q - 11 * a) else I0 42 q) → Wp E fX7_lays 62 2 [.ref 41, .int (nI a), .int (nI k)] [] (gM I h) (gRet fX7_lays 62 (fun r σ' => ∃ I', r = none ∧ σ' = gM I' h ∧ gSame [42] I0 I' ∧ ∀ q, I' 42 q = if 11 * a ≤ q ∧ q < 11 * a + 11 then I0 45 (q - 11 * a) else I0 42 q)) := by
  intro d
  induction d with
  | zero =>
    intro k I hk hs hq
    have hk : k = 11 := by omega
    subst hk
    refine g_iload_n (i := 2) (t := 3) dX7_lays_2 rfl rfl rfl ?_
    refine g_bipush (t := 5) dX7_lays_3 c_bipush_11 rfl ?_
    refine g_icmp_ge_n (t1 := 31) (t2 := 8) dX7_lays_5 (by decide) rfl (by omega) (by omega) (fun h5 => ?_) (fun h5 => ?_)
    · exact g_retV dX7_lays_31 rfl (⟨hs, hq⟩)
    · exfalso; omega
  | succ d ih =>
    intro k I hk hs hq
    refine g_iload_n (i := 2) (t := 3) dX7_lays_2 rfl rfl rfl ?_
    refine g_bipush (t := 5) dX7_lays_3 c_bipush_11 rfl ?_
    refine g_icmp_ge_n (t1 := 31) (t2 := 8) dX7_lays_5 (by decide) rfl (by omega) (by omega) (fun h5 => ?_) (fun h5 => ?_)
    · exfalso; omega
    · refine g_aload_n (i := 0) (r := 41) (t := 9) dX7_lays_8 rfl rfl (Or.inl l9_41) rfl ?_
      refine gm_getR (o := 41) (ci := 7) (k := 0) (r := 42) (t := 12) l6_41 l9_41 s_41 gf_X7_7 rfl r_41_0 l9_42 dX7_lays_9 rfl ?_
      refine g_bipush (t := 14) dX7_lays_12 c_bipush_11 rfl ?_
      refine g_iload_n (i := 1) (t := 15) dX7_lays_14 rfl rfl rfl ?_
      refine g_imul (t := 16) dX7_lays_15 rfl ?_
      refine g_iload_n (i := 2) (t := 17) dX7_lays_16 rfl rfl rfl ?_
      refine g_iadd (t := 18) dX7_lays_17 rfl ?_
      refine g_top (y := nI (11 * a + k)) (by rw [pk_mul, nI_add]) ?_
      refine g_aload_n (i := 0) (r := 41) (t := 19) dX7_lays_18 rfl rfl (Or.inl l9_41) rfl ?_
      refine gm_getR (o := 41) (ci := 7) (k := 7) (r := 45) (t := 22) l6_41 l9_41 s_41 gf_X7_19 rfl r_41_7 l9_45 dX7_lays_19 rfl ?_
      refine g_iload_n (i := 2) (t := 23) dX7_lays_22 rfl rfl rfl ?_
      refine gm_iald_n (a := 45) (n := 11) (t := 24) l6_45 l9_45 s_45 dX7_lays_23 (by omega) (by decide) rfl ?_
      refine gm_iast_n (a := 42) (n := 184) (t := 25) l6_42 l9_42 s_42 dX7_lays_24 (by omega) (by decide) rfl ?_
      refine g_iinc (i := 2) (t := 28) (L1 := [_, _, _]) dX7_lays_25 rfl (gi_1 _) (by decide) rfl rfl rfl ?_
      refine g_goto (t := 2) dX7_lays_28 (by decide) ?_
      refine ih (k + 1) _ (by omega) (hs.up rfl) (fun q => ?_)
      rw [gup_at, hs.at 45 rfl]
      by_cases y : q = 11 * a + k
      · subst y
        rw [if_pos rfl, if_pos (by omega), Nat.add_sub_cancel_left]
      · rw [if_neg y, hq]
        by_cases z : 11 * a ≤ q ∧ q < 11 * a + k
        · rw [if_pos z, if_pos (by omega)]
        · rw [if_neg z, if_neg (by omega)]
theorem x7_lays {a : Nat} (ha : a < 16) : gQV E fX7_lays [.ref 41, .int (nI a)] I h (fun I' => gSame [42] I I' ∧ ∀ q, I' 42 q = if 11 * a ≤ q ∧ q < 11 * a + 11 then I 45 (q - 11 * a) else I 42 q) := by
  refine gEv.of rfl (Nat.le_refl _) (Nat.le_of_ble_eq_true rfl) (L := [.ref 41, .int (nI a), .null]) rfl ?_
  refine g_iconst (t := 1) dX7_lays_0 c_iconst_0 rfl ?_
  refine g_istore_n (i := 2) (t := 2) (L1 := [_, _, _]) dX7_lays_1 rfl (by decide) rfl rfl rfl ?_
  exact x7_ly_loop ha 11 0 I rfl gSame.rf (fun q => by rw [if_neg (by omega)])
/-- rows moved up from it to n; rows moved down -/
def upR (I I0 : Nat → Nat → Int32) (p n : Nat) : Prop := gSame [42] I0 I ∧ (∀ q, 176 ≤ q → I 42 q = I0 42 q) ∧ ∀ i w, i < 16 → w < 11 → I 42 (11 * i + w) = if p < i ∧ i ≤ n then I0 42 (11 * (i - 1) + w) else I0 42 (11 * i + w)
def dnR (I I0 : Nat → Nat → Int32) (a p : Nat) : Prop := gSame [42] I0 I ∧ (∀ q, 176 ≤ q → I 42 q = I0 42 q) ∧ ∀ i w, i < 16 → w < 11 → I 42 (11 * i + w) = if a ≤ i ∧ i < p then I0 42 (11 * (i + 1) + w) else I0 42 (11 * i + w)
theorem upR.next {J J' : Nat → Nat → Int32} {p n : Nat} (hu : upR J I (p + 1) n) (hn : p + 1 ≤ n) (h16 : n < 16) (hs : gSame [42] J J') (hq : ∀ q, J' 42 q = if 11 * (p + 1) ≤ q ∧ q < 11 * (p + 1) + 11 then J 42 (11 * p + (q - 11 * (p + 1))) else J 42 q) : upR J' I p n := by
  obtain ⟨u1, u2, u3⟩ := hu
  refine ⟨u1.trans hs, fun q hq2 => by rw [hq, if_neg (by omega)]; exact u2 q hq2, fun i w hi hw => ?_⟩
  rw [hq]
  by_cases y : i = p + 1
  · subst y
    rw [if_pos (by omega), if_pos (by omega), Nat.add_sub_cancel_left, u3 p w (by omega) hw, if_neg (by omega)]
    rfl
  · rw [if_neg (by omega), u3 i w hi hw]
    by_cases z : p + 1 < i ∧ i ≤ n
    · rw [if_pos z, if_pos (by omega)]
    · rw [if_neg z, if_neg (by omega)]
theorem dnR.next {J J' : Nat → Nat → Int32} {a p : Nat} (hu : dnR J I a p) (hn : a ≤ p) (h16 : p + 1 < 16) (hs : gSame [42] J J') (hq : ∀ q, J' 42 q = if 11 * p ≤ q ∧ q < 11 * p + 11 then J 42 (11 * (p + 1) + (q - 11 * p)) else J 42 q) : dnR J' I a (p + 1) := by
  obtain ⟨u1, u2, u3⟩ := hu
  refine ⟨u1.trans hs, fun q hq2 => by rw [hq, if_neg (by omega)]; exact u2 q hq2, fun i w hi hw => ?_⟩
  rw [hq]
  by_cases y : i = p
  · subst y
    rw [if_pos (by omega), if_pos (by omega), Nat.add_sub_cancel_left, u3 (i + 1) w (by omega) hw, if_neg (by omega)]
  · rw [if_neg (by omega), u3 i w hi hw]
    by_cases z : a ≤ i ∧ i < p
    · rw [if_pos z, if_pos (by omega)]
    · rw [if_neg z, if_neg (by omega)]
theorem x7_rm_loop {a n : Nat} (hn : n < 16) (han : a ≤ n) {I0 : Nat → Nat → Int32} (h176 : I0 42 176 = nI n) {R : Int32 → (Nat → Nat → Int32) → Prop} (kk : ∀ I, dnR I I0 a n → R (nI n) I) : ∀ (d p : Nat) (I : Nat → Nat → Int32), p + d = n → a ≤ p → dnR I I0 a p → Wp E fX7_remove 62 30 [.ref 41, .int (nI a), .int (nI p)] [] (gM I h) (gRet fX7_remove 62 (fun r σ' => ∃ (v : Int32) (I' : Nat → Nat → Int32), r = some (.int v) ∧ σ' = gM I' h ∧ R v I')) := by
  intro d
  induction d with
  | zero =>
    intro p I hp hap hd
    have hp : p = n := by omega
    subst hp
    refine g_iload_n (i := 2) (t := 31) dX7_remove_30 rfl rfl rfl ?_
    refine g_aload_n (i := 0) (r := 41) (t := 32) dX7_remove_31 rfl rfl (Or.inl l9_41) rfl ?_
    refine gm_getR (o := 41) (ci := 7) (k := 0) (r := 42) (t := 35) l6_41 l9_41 s_41 gf_X7_7 rfl r_41_0 l9_42 dX7_remove_32 rfl ?_
    refine g_sipush (t := 38) dX7_remove_35 c_sipush_176 rfl ?_
    refine gm_iald_n (a := 42) (n := 184) (t := 39) l6_42 l9_42 s_42 dX7_remove_38 (by omega) (by decide) rfl ?_
    rw [hd.2.1 176 (Nat.le_refl _), h176]
    refine g_icmp_ge_n (t1 := 56) (t2 := 42) dX7_remove_39 (by decide) rfl (by omega) (by omega) (fun h39 => ?_) (fun h39 => ?_)
    · refine g_aload_n (i := 0) (r := 41) (t := 57) dX7_remove_56 rfl rfl (Or.inl l9_41) rfl ?_
      refine gm_getR (o := 41) (ci := 7) (k := 0) (r := 42) (t := 60) l6_41 l9_41 s_41 gf_X7_7 rfl r_41_0 l9_42 dX7_remove_57 rfl ?_
      refine g_sipush (t := 63) dX7_remove_60 c_sipush_176 rfl ?_
      refine gm_iald_n (a := 42) (n := 184) (t := 64) l6_42 l9_42 s_42 dX7_remove_63 (by omega) (by decide) rfl ?_
      rw [hd.2.1 176 (Nat.le_refl _), h176]
      exact g_retI dX7_remove_64 rfl rfl (kk I hd)
    · exfalso; omega
  | succ d ih =>
    intro p I hp hap hd
    refine g_iload_n (i := 2) (t := 31) dX7_remove_30 rfl rfl rfl ?_
    refine g_aload_n (i := 0) (r := 41) (t := 32) dX7_remove_31 rfl rfl (Or.inl l9_41) rfl ?_
    refine gm_getR (o := 41) (ci := 7) (k := 0) (r := 42) (t := 35) l6_41 l9_41 s_41 gf_X7_7 rfl r_41_0 l9_42 dX7_remove_32 rfl ?_
    refine g_sipush (t := 38) dX7_remove_35 c_sipush_176 rfl ?_
    refine gm_iald_n (a := 42) (n := 184) (t := 39) l6_42 l9_42 s_42 dX7_remove_38 (by omega) (by decide) rfl ?_
    rw [hd.2.1 176 (Nat.le_refl _), h176]
    refine g_icmp_ge_n (t1 := 56) (t2 := 42) dX7_remove_39 (by decide) rfl (by omega) (by omega) (fun h39 => ?_) (fun h39 => ?_)
    · exfalso; omega
    · refine g_aload_n (i := 0) (r := 41) (t := 43) dX7_remove_42 rfl rfl (Or.inl l9_41) rfl ?_
      refine g_iload_n (i := 2) (t := 44) dX7_remove_43 rfl rfl rfl ?_
      refine g_iconst (t := 45) dX7_remove_44 c_iconst_1 rfl ?_
      refine g_iadd (t := 46) dX7_remove_45 rfl ?_
      refine g_top (gi_s _) ?_
      refine g_iload_n (i := 2) (t := 47) dX7_remove_46 rfl rfl rfl ?_
      refine g_cVv (o := 41) (t := 50) mX7_copies k_X7_146 imX7_copies seX7_copies l6_41 l9_41 s_41 rfl dX7_remove_47 (x7_copies (by omega) (by omega) (by omega)) rfl rfl (by decide) (by decide) (Nat.le_of_ble_eq_true rfl) rfl (fun J q => ?_)
      refine g_iinc (i := 2) (t := 53) (L1 := [_, _, _]) dX7_remove_50 rfl (gi_1 _) (by decide) rfl rfl rfl ?_
      refine g_goto (t := 30) dX7_remove_53 (by decide) ?_
      exact ih (p + 1) J (by omega) (by omega) (hd.next hap (by omega) q.1 q.2)
theorem x7_remove {x v : Int32} {S' : sT} (hR : rM I S) (hV : vT S) (ho : oRemove S x v S') : gQI E fX7_remove [.ref 41, .int x] I h (fun v' I' => gSame ML I I' ∧ v' = v ∧ rM I' S') := by
  refine gEv.of rfl (Nat.le_refl _) (Nat.le_of_ble_eq_true rfl) (L := [.ref 41, .int x, .null]) rfl ?_
  have ⟨hn, hC, hH, hT⟩ := hR
  rcases ho with ⟨hx, rfl, rfl⟩ | ⟨it, hit, rfl, rfl, o1, o2, o3, o4⟩
  · refine g_aload_n (i := 0) (r := 41) (t := 1) dX7_remove_0 rfl rfl (Or.inl l9_41) rfl ?_
    refine g_iload_n (i := 1) (t := 2) dX7_remove_1 rfl rfl rfl ?_
    refine g_cVp (o := 41) (t := 5) mX7_isItem k_X7_153 imX7_isItem seX7_isItem l6_41 l9_41 s_41 rfl dX7_remove_2 (x7_isItem_f hC hn hx) rfl rfl (by decide) (by decide) (Nat.le_of_ble_eq_true rfl) rfl ?_
    refine g_if_ne (t1 := 12) (t2 := 8) dX7_remove_5 (by decide) rfl (fun h5 => ?_) (fun h5 => ?_)
    · exact absurd rfl h5
    · refine g_sipush (t := 11) dX7_remove_8 c_sipush_m1002 rfl ?_
      exact g_retI dX7_remove_11 rfl rfl (⟨gSame.rf, rfl, hR⟩)
  · refine g_aload_n (i := 0) (r := 41) (t := 1) dX7_remove_0 rfl rfl (Or.inl l9_41) rfl ?_
    refine g_iload_n (i := 1) (t := 2) dX7_remove_1 rfl rfl rfl ?_
    refine g_cVp (o := 41) (t := 5) mX7_isItem k_X7_153 imX7_isItem seX7_isItem l6_41 l9_41 s_41 rfl dX7_remove_2 (x7_isItem_t hC hn hit) rfl rfl (by decide) (by decide) (Nat.le_of_ble_eq_true rfl) rfl ?_
    refine g_if_ne (t1 := 12) (t2 := 8) dX7_remove_5 (by decide) rfl (fun h5 => ?_) (fun h5 => ?_)
    · refine g_aload_n (i := 0) (r := 41) (t := 13) dX7_remove_12 rfl rfl (Or.inl l9_41) rfl ?_
      refine g_cVv (o := 41) (t := 16) mX7_keeps k_X7_143 imX7_keeps seX7_keeps l6_41 l9_41 s_41 rfl dX7_remove_13 (x7_keeps hR hV.h16) rfl rfl (by decide) (by decide) (Nat.le_of_ble_eq_true rfl) rfl (fun J q => ?_)
      refine g_aload_n (i := 0) (r := 41) (t := 17) dX7_remove_16 rfl rfl (Or.inl l9_41) rfl ?_
      refine gm_getR (o := 41) (ci := 7) (k := 0) (r := 42) (t := 20) l6_41 l9_41 s_41 gf_X7_7 rfl r_41_0 l9_42 dX7_remove_17 rfl ?_
      refine g_sipush (t := 23) dX7_remove_20 c_sipush_176 rfl ?_
      refine g_dup2 (t := 24) dX7_remove_23 rfl rfl rfl ?_
      refine gm_iald_n (a := 42) (n := 184) (t := 25) l6_42 l9_42 s_42 dX7_remove_24 (by omega) (by decide) rfl ?_
      rw [show J 42 176 = nI S.1.1 by rw [q.1.at 42 rfl]; exact hC.1]
      refine g_iconst (t := 26) dX7_remove_25 c_iconst_1 rfl ?_
      refine g_isub (t := 27) dX7_remove_26 rfl ?_
      refine g_top (y := nI (S.1.1 - 1)) (pk_sub (by omega)) ?_
      refine gm_iast_n (a := 42) (n := 184) (t := 28) l6_42 l9_42 s_42 dX7_remove_27 (by omega) (by decide) rfl ?_
      refine g_iload_n (i := 1) (t := 29) dX7_remove_28 rfl rfl rfl ?_
      refine g_istore_n (i := 2) (t := 30) (L1 := [_, _, _]) dX7_remove_29 rfl (by decide) rfl rfl rfl ?_
      refine x7_rm_loop (n := S.1.1 - 1) (by omega) (by omega) (gup_self _ _ _ _) (fun I' hd => ?_) (S.1.1 - 1 - it) it _ (by omega) (Nat.le_refl _) ⟨gSame.rf, fun _ _ => rfl, fun i w hi hw => by rw [if_neg (by omega)]⟩
      obtain ⟨d1, d2, d3⟩ := hd
      have e42 : J 42 = I 42 := q.1.at 42 rfl
      have hs : gSame [41, 42, 43] I I' := ((q.1.wk rfl).trans ((gSame.rf (cs := [41, 42, 43])).up rfl)).trans (d1.wk rfl)
      refine ⟨hs.wk rfl, rfl, by rw [o1]; omega, ⟨by rw [d2 176 (Nat.le_refl _), gup_self, o1], fun i w hi hw => ?_, fun k hk => ?_⟩, ?_, ?_⟩
      · rw [o1] at hi
        rw [o4 i w (by omega) hw, d3 i w (by omega) hw]
        by_cases y : it ≤ i ∧ i < S.1.1 - 1
        · rw [if_pos y, gup_k _ _ _ (by omega), e42, hC.2.1 _ w (by omega) hw]
          exact congrArg (fun z => S.1.2.1 z w) (by unfold mvI; rw [if_pos (by omega), if_neg (by omega), if_pos (by omega)])
        · rw [if_neg y, gup_k _ _ _ (by omega), e42, hC.2.1 _ w (by omega) hw]
          exact congrArg (fun z => S.1.2.1 z w) (by unfold mvI; rw [if_pos (by omega), if_pos (by omega)])
      · rw [d2 _ (by omega), gup_k _ _ _ (by omega), e42, hC.2.2 k hk, o2]
      · rw [o3]; exact q.2.2.keep (by rw [d1.at 41 rfl, gup_o _ _ _ _ (by decide)]) (by rw [d1.at 43 rfl, gup_rowo _ _ _ (by decide)])
      · rw [o3]; exact hT.keep (by rw [d1.at 41 rfl, gup_o _ _ _ _ (by decide)]; exact q.2.1 4 (by decide)) (hs.at 44 rfl)
    · exact absurd h5 (by decide)
theorem x7_in_loop {a n : Nat} (hn : n < 16) (han : a ≤ n) {I0 : Nat → Nat → Int32} {K : gK} (kk : ∀ I v2, upR I I0 a n → Wp E fX7_insert 62 92 [.ref 41, .int (nI a), v2] [] (gM I h) K) : ∀ (d p : Nat) (I : Nat → Nat → Int32), p = a + d → p ≤ n → upR I I0 p n → Wp E fX7_insert 62 73 [.ref 41, .int (nI a), .int (nI p)] [] (gM I h) K := by
  intro d
  induction d with
  | zero =>
    intro p I hp hap hd
    have hp : p = a := by omega
    subst hp
    refine g_iload_n (i := 2) (t := 74) dX7_insert_73 rfl rfl rfl ?_
    refine g_iload_n (i := 1) (t := 75) dX7_insert_74 rfl rfl rfl ?_
    refine g_icmp_le_n (t1 := 92) (t2 := 78) dX7_insert_75 (by decide) rfl (by omega) (by omega) (fun h75 => ?_) (fun h75 => ?_)
    · exact kk I _ hd
    · exfalso; omega
  | succ d ih =>
    intro p I hp hap hd
    obtain ⟨p, rfl⟩ : ∃ p', p = p' + 1 := ⟨p - 1, by omega⟩
    refine g_iload_n (i := 2) (t := 74) dX7_insert_73 rfl rfl rfl ?_
    refine g_iload_n (i := 1) (t := 75) dX7_insert_74 rfl rfl rfl ?_
    refine g_icmp_le_n (t1 := 92) (t2 := 78) dX7_insert_75 (by decide) rfl (by omega) (by omega) (fun h75 => ?_) (fun h75 => ?_)
    · exfalso; omega
    · refine g_aload_n (i := 0) (r := 41) (t := 79) dX7_insert_78 rfl rfl (Or.inl l9_41) rfl ?_
      refine g_iload_n (i := 2) (t := 80) dX7_insert_79 rfl rfl rfl ?_
      refine g_iconst (t := 81) dX7_insert_80 c_iconst_1 rfl ?_
      refine g_isub (t := 82) dX7_insert_81 rfl ?_
      refine g_top (gi_p _) ?_
      refine g_iload_n (i := 2) (t := 83) dX7_insert_82 rfl rfl rfl ?_
      refine g_cVv (o := 41) (t := 86) mX7_copies k_X7_146 imX7_copies seX7_copies l6_41 l9_41 s_41 rfl dX7_insert_83 (x7_copies (by omega) (by omega) (by omega)) rfl rfl (by decide) (by decide) (Nat.le_of_ble_eq_true rfl) rfl (fun J q => ?_)
      refine g_iinc (i := 2) (t := 89) (L1 := [_, _, _]) dX7_insert_86 rfl (gi_m1 _) (by decide) rfl rfl rfl ?_
      refine g_goto (t := 73) dX7_insert_89 (by decide) ?_
      exact ih p J (by omega) (by omega) (hd.next hap hn q.1 q.2)
theorem x7_insert {x v : Int32} {S' : sT} (hR : rM I S) (hV : vT S) (ho : oInsert S x v S') : gQI E fX7_insert [.ref 41, .int x] I h (fun v' I' => gSame ML I I' ∧ v' = v ∧ rM I' S') := by
  refine gEv.of rfl (Nat.le_refl _) (Nat.le_of_ble_eq_true rfl) (L := [.ref 41, .int x, .null]) rfl ?_
  have ⟨hn, hC, hH, hT⟩ := hR
  rcases ho with ⟨hx, rfl, rfl⟩ | ⟨it, hit, rfl, ho⟩
  · refine g_iload_n (i := 1) (t := 1) dX7_insert_0 rfl rfl rfl ?_
    refine g_iconst (t := 2) dX7_insert_1 c_iconst_0 rfl ?_
    refine g_aload_n (i := 0) (r := 41) (t := 3) dX7_insert_2 rfl rfl (Or.inl l9_41) rfl ?_
    refine gm_getR (o := 41) (ci := 7) (k := 0) (r := 42) (t := 6) l6_41 l9_41 s_41 gf_X7_7 rfl r_41_0 l9_42 dX7_insert_3 rfl ?_
    refine g_sipush (t := 9) dX7_insert_6 c_sipush_176 rfl ?_
    refine gm_iald_n (a := 42) (n := 184) (t := 10) l6_42 l9_42 s_42 dX7_insert_9 (by omega) (by decide) rfl ?_
    rw [hC.1]
    refine g_cSp (t := 13) mX7_in k_X7_75 smX7_in dX7_insert_10 (x7_in) rfl rfl (by decide) (by decide) (Nat.le_of_ble_eq_true rfl) rfl ?_
    rw [in_f (by omega) hx]
    refine g_if_ne (t1 := 20) (t2 := 16) dX7_insert_13 (by decide) rfl (fun h13 => ?_) (fun h13 => ?_)
    · exact absurd rfl h13
    · refine g_sipush (t := 19) dX7_insert_16 c_sipush_m1002 rfl ?_
      exact g_retI dX7_insert_19 rfl rfl (⟨gSame.rf, rfl, hR⟩)
  · have T24 : ∀ J, pM S.2.2 I J → Wp E fX7_insert 62 24 [.ref 41, .int (nI it), .null] [] (gM J h) (gRet fX7_insert 62 (fun r σ' => ∃ (v' : Int32) (I' : Nat → Nat → Int32), r = some (.int v') ∧ σ' = gM I' h ∧ gSame ML I I' ∧ v' = v ∧ rM I' S')) := by
      intro J ⟨p1, p2, p3⟩
      have hRJ : rM J S := ⟨hn, hC.keep (p1.at 42 rfl), hH.keep (p2 2 (by decide) (by decide)) (p1.at 43 rfl), hT.keep (p2 4 (by decide) (by decide)) (p1.at 44 rfl)⟩
      rcases p3 with ⟨f, f80, hf, p3⟩ | ⟨hf, p3, hv⟩
      · refine g_aload_n (i := 0) (r := 41) (t := 25) dX7_insert_24 rfl rfl (Or.inl l9_41) rfl ?_
        refine gm_getI (o := 41) (ci := 7) (k := 6) (t := 28) l6_41 l9_41 s_41 gf_X7_89 rfl dX7_insert_25 rfl ?_
        refine g_sipush (t := 31) dX7_insert_28 c_sipush_m1001 rfl ?_
        rw [p3]
        refine g_icmp_eq (t1 := 43) (t2 := 34) dX7_insert_31 (by decide) rfl (fun h31 => ?_) (fun h31 => ?_)
        · exact absurd h31 (nI_nm (by omega))
        · refine g_sipush (t := 37) dX7_insert_34 c_sipush_m2000 rfl ?_
          refine g_aload_n (i := 0) (r := 41) (t := 38) dX7_insert_37 rfl rfl (Or.inl l9_41) rfl ?_
          refine gm_getI (o := 41) (ci := 7) (k := 6) (t := 41) l6_41 l9_41 s_41 gf_X7_89 rfl dX7_insert_38 rfl ?_
          rw [p3]
          refine g_isub (t := 42) dX7_insert_41 rfl ?_
          exact g_retI dX7_insert_42 rfl rfl (by
    rcases ho with ⟨g, g80, hg, rfl, rfl⟩ | ⟨hg, -⟩ | ⟨hg, -⟩
    · rw [hg] at hf
      cases hf
      exact ⟨p1.wk rfl, rfl, hRJ⟩
    · rw [hg] at hf; cases hf
    · rw [hg] at hf; cases hf)
      · have ⟨_, jC, jH, jT⟩ := hRJ
        rcases ho with ⟨g, g80, hg, -⟩ | ⟨hg, h16, rfl, rfl⟩ | ⟨hg, h16, rfl, o1, o2, o3, o4⟩
        · rw [hg] at hf; cases hf
        · refine g_aload_n (i := 0) (r := 41) (t := 25) dX7_insert_24 rfl rfl (Or.inl l9_41) rfl ?_
          refine gm_getI (o := 41) (ci := 7) (k := 6) (t := 28) l6_41 l9_41 s_41 gf_X7_89 rfl dX7_insert_25 rfl ?_
          refine g_sipush (t := 31) dX7_insert_28 c_sipush_m1001 rfl ?_
          rw [p3]
          refine g_icmp_eq (t1 := 43) (t2 := 34) dX7_insert_31 (by decide) rfl (fun h31 => ?_) (fun h31 => ?_)
          · refine g_aload_n (i := 0) (r := 41) (t := 44) dX7_insert_43 rfl rfl (Or.inl l9_41) rfl ?_
            refine gm_getR (o := 41) (ci := 7) (k := 0) (r := 42) (t := 47) l6_41 l9_41 s_41 gf_X7_7 rfl r_41_0 l9_42 dX7_insert_44 rfl ?_
            refine g_sipush (t := 50) dX7_insert_47 c_sipush_176 rfl ?_
            refine gm_iald_n (a := 42) (n := 184) (t := 51) l6_42 l9_42 s_42 dX7_insert_50 (by omega) (by decide) rfl ?_
            rw [jC.1]
            refine g_bipush (t := 53) dX7_insert_51 c_bipush_16 rfl ?_
            refine g_icmp_ne_n (t1 := 60) (t2 := 56) dX7_insert_53 (by decide) rfl (by omega) (by omega) (fun h53 => ?_) (fun h53 => ?_)
            · exfalso; omega
            · refine g_sipush (t := 59) dX7_insert_56 c_sipush_m1004 rfl ?_
              exact g_retI dX7_insert_59 rfl rfl (⟨p1.wk rfl, rfl, hRJ⟩)
          · exact absurd rfl h31
        · have T92 : ∀ (J1 : Nat → Nat → Int32), gSame [41, 43] J J1 → (∀ k, k ≠ 2 → J1 41 k = J 41 k) → hM J1 (hS S) → ∀ I1 v2, upR I1 J1 it S.1.1 → Wp E fX7_insert 62 92 [.ref 41, .int (nI it), v2] [] (gM I1 h) (gRet fX7_insert 62 (fun r σ' => ∃ (v' : Int32) (I' : Nat → Nat → Int32), r = some (.int v') ∧ σ' = gM I' h ∧ gSame ML I I' ∧ v' = nI (S.1.1 + 1) ∧ rM I' S')) := by
            intro J1 j1 j2 j3 I1 v2 ⟨u1, u2, u3⟩
            have e42 : J1 42 = J 42 := j1.at 42 rfl
            refine g_aload_n (i := 0) (r := 41) (t := 93) dX7_insert_92 rfl rfl (Or.inl l9_41) rfl ?_
            refine g_iload_n (i := 1) (t := 94) dX7_insert_93 rfl rfl rfl ?_
            refine g_cVv (o := 41) (t := 97) mX7_lays k_X7_150 imX7_lays seX7_lays l6_41 l9_41 s_41 rfl dX7_insert_94 (x7_lays (by omega)) rfl rfl (by decide) (by decide) (Nat.le_of_ble_eq_true rfl) rfl (fun I2 q => ?_)
            refine g_aload_n (i := 0) (r := 41) (t := 98) dX7_insert_97 rfl rfl (Or.inl l9_41) rfl ?_
            refine gm_getR (o := 41) (ci := 7) (k := 0) (r := 42) (t := 101) l6_41 l9_41 s_41 gf_X7_7 rfl r_41_0 l9_42 dX7_insert_98 rfl ?_
            refine g_sipush (t := 104) dX7_insert_101 c_sipush_176 rfl ?_
            refine g_dup2 (t := 105) dX7_insert_104 rfl rfl rfl ?_
            refine gm_iald_n (a := 42) (n := 184) (t := 106) l6_42 l9_42 s_42 dX7_insert_105 (by omega) (by decide) rfl ?_
            rw [q.2, if_neg (by omega), u2 176 (Nat.le_refl _), e42, jC.1]
            refine g_iconst (t := 107) dX7_insert_106 c_iconst_1 rfl ?_
            refine g_iadd (t := 108) dX7_insert_107 rfl ?_
            refine g_top (gi_s _) ?_
            refine gm_iast_n (a := 42) (n := 184) (t := 109) l6_42 l9_42 s_42 dX7_insert_108 (by omega) (by decide) rfl ?_
            refine g_aload_n (i := 0) (r := 41) (t := 110) dX7_insert_109 rfl rfl (Or.inl l9_41) rfl ?_
            refine gm_getR (o := 41) (ci := 7) (k := 0) (r := 42) (t := 113) l6_41 l9_41 s_41 gf_X7_7 rfl r_41_0 l9_42 dX7_insert_110 rfl ?_
            refine g_sipush (t := 116) dX7_insert_113 c_sipush_176 rfl ?_
            refine gm_iald_n (a := 42) (n := 184) (t := 117) l6_42 l9_42 s_42 dX7_insert_116 (by omega) (by decide) rfl ?_
            rw [gup_self]
            exact g_retI dX7_insert_117 rfl rfl (by
    have hs : gSame [41, 42, 43, 45] I (gup I2 42 176 (nI (S.1.1 + 1))) := ((((p1.wk rfl).trans (j1.wk rfl)).trans (u1.wk rfl)).trans (q.1.wk rfl)).up rfl
    have hc41 : gup I2 42 176 (nI (S.1.1 + 1)) 41 = J1 41 := by rw [gup_rowo _ _ _ (by decide), q.1.at 41 rfl, u1.at 41 rfl]
    refine ⟨hs.wk rfl, rfl, by rw [o1]; omega, ⟨by rw [gup_self, o1], fun i w hi hw => ?_, fun k hk => ?_⟩, ?_, ?_⟩
    · rw [o1] at hi
      rw [gup_k _ _ _ (by omega), q.2, o4 i w (by omega) hw]
      by_cases y : i = it
      · subst y
        have e : mvI S.1.1 i i = S.1.1 := by unfold mvI; split <;> (repeat' split) <;> omega
        rw [if_pos (by omega), Nat.add_sub_cancel_left, if_pos e, u1.at 45 rfl, j1.at 45 rfl, hv w hw]
      · have e : mvI S.1.1 it i = if it < i then i - 1 else i := by unfold mvI; split <;> (repeat' split) <;> omega
        rw [if_neg (by omega), u3 i w (by omega) hw, e]
        by_cases z : it < i
        · rw [if_pos ⟨z, by omega⟩, if_pos z, if_neg (by omega), e42]
          exact jC.2.1 _ w (by omega) hw
        · rw [if_neg (by omega), if_neg z, if_neg (by omega), e42]
          exact jC.2.1 _ w (by omega) hw
    · rw [gup_k _ _ _ (by omega), q.2, if_neg (by omega), u2 _ (by omega), e42, jC.2.2 k hk, o2]
    · rw [o3]; exact j3.keep (by rw [hc41]) (by rw [gup_rowo _ _ _ (by decide), q.1.at 43 rfl, u1.at 43 rfl])
    · rw [o3]; exact hT.keep (by rw [hc41, j2 4 (by decide)]; exact p2 4 (by decide) (by decide)) (hs.at 44 rfl))
          refine g_aload_n (i := 0) (r := 41) (t := 25) dX7_insert_24 rfl rfl (Or.inl l9_41) rfl ?_
          refine gm_getI (o := 41) (ci := 7) (k := 6) (t := 28) l6_41 l9_41 s_41 gf_X7_89 rfl dX7_insert_25 rfl ?_
          refine g_sipush (t := 31) dX7_insert_28 c_sipush_m1001 rfl ?_
          rw [p3]
          refine g_icmp_eq (t1 := 43) (t2 := 34) dX7_insert_31 (by decide) rfl (fun h31 => ?_) (fun h31 => ?_)
          · refine g_aload_n (i := 0) (r := 41) (t := 44) dX7_insert_43 rfl rfl (Or.inl l9_41) rfl ?_
            refine gm_getR (o := 41) (ci := 7) (k := 0) (r := 42) (t := 47) l6_41 l9_41 s_41 gf_X7_7 rfl r_41_0 l9_42 dX7_insert_44 rfl ?_
            refine g_sipush (t := 50) dX7_insert_47 c_sipush_176 rfl ?_
            refine gm_iald_n (a := 42) (n := 184) (t := 51) l6_42 l9_42 s_42 dX7_insert_50 (by omega) (by decide) rfl ?_
            rw [jC.1]
            refine g_bipush (t := 53) dX7_insert_51 c_bipush_16 rfl ?_
            refine g_icmp_ne_n (t1 := 60) (t2 := 56) dX7_insert_53 (by decide) rfl (by omega) (by omega) (fun h53 => ?_) (fun h53 => ?_)
            · refine g_aload_n (i := 0) (r := 41) (t := 61) dX7_insert_60 rfl rfl (Or.inl l9_41) rfl ?_
              refine g_cVv (o := 41) (t := 64) mX7_keeps k_X7_143 imX7_keeps seX7_keeps l6_41 l9_41 s_41 rfl dX7_insert_61 (x7_keeps hRJ hV.h16) rfl rfl (by decide) (by decide) (Nat.le_of_ble_eq_true rfl) rfl (fun J1 q => ?_)
              refine g_aload_n (i := 0) (r := 41) (t := 65) dX7_insert_64 rfl rfl (Or.inl l9_41) rfl ?_
              refine gm_getR (o := 41) (ci := 7) (k := 0) (r := 42) (t := 68) l6_41 l9_41 s_41 gf_X7_7 rfl r_41_0 l9_42 dX7_insert_65 rfl ?_
              refine g_sipush (t := 71) dX7_insert_68 c_sipush_176 rfl ?_
              refine gm_iald_n (a := 42) (n := 184) (t := 72) l6_42 l9_42 s_42 dX7_insert_71 (by omega) (by decide) rfl ?_
              rw [q.1.at 42 rfl, jC.1]
              refine g_istore_n (i := 2) (t := 73) (L1 := [_, _, _]) dX7_insert_72 rfl (by decide) rfl rfl rfl ?_
              exact x7_in_loop h16 (by omega) (T92 J1 q.1 q.2.1 q.2.2) (S.1.1 - it) S.1.1 J1 (by omega) (Nat.le_refl _) ⟨gSame.rf, fun _ _ => rfl, fun i w hi hw => by rw [if_neg (by omega)]⟩
            · exfalso; omega
          · exact absurd rfl h31
    refine g_iload_n (i := 1) (t := 1) dX7_insert_0 rfl rfl rfl ?_
    refine g_iconst (t := 2) dX7_insert_1 c_iconst_0 rfl ?_
    refine g_aload_n (i := 0) (r := 41) (t := 3) dX7_insert_2 rfl rfl (Or.inl l9_41) rfl ?_
    refine gm_getR (o := 41) (ci := 7) (k := 0) (r := 42) (t := 6) l6_41 l9_41 s_41 gf_X7_7 rfl r_41_0 l9_42 dX7_insert_3 rfl ?_
    refine g_sipush (t := 9) dX7_insert_6 c_sipush_176 rfl ?_
    refine gm_iald_n (a := 42) (n := 184) (t := 10) l6_42 l9_42 s_42 dX7_insert_9 (by omega) (by decide) rfl ?_
    rw [hC.1]
    refine g_cSp (t := 13) mX7_in k_X7_75 smX7_in dX7_insert_10 (x7_in) rfl rfl (by decide) (by decide) (Nat.le_of_ble_eq_true rfl) rfl ?_
    rw [in_t (by omega) (bd_nI (by omega) hit)]
    refine g_if_ne (t1 := 20) (t2 := 16) dX7_insert_13 (by decide) rfl (fun h13 => ?_) (fun h13 => ?_)
    · refine g_aload_n (i := 0) (r := 41) (t := 21) dX7_insert_20 rfl rfl (Or.inl l9_41) rfl ?_
      refine g_cVv (o := 41) (t := 24) mX7_readsItem k_X7_140 imX7_readsItem seX7_readsItem l6_41 l9_41 s_41 rfl dX7_insert_21 (x7_readsItem hT) rfl rfl (by decide) (by decide) (Nat.le_of_ble_eq_true rfl) rfl (fun J q => ?_)
      exact T24 J q
    · exact absurd h13 (by decide)
theorem x7_un_loop {u : Nat} (hu : u < 8) {I0 : Nat → Nat → Int32} (h2 : I0 41 2 = nI u) {R : Int32 → (Nat → Nat → Int32) → Prop} (kk : ∀ I, gSame [42] I0 I → (∀ q, q < 184 → I 42 q = I0 43 (184 * u + q)) → R (nI u) I) : ∀ (d k : Nat) (I : Nat → Nat → Int32), k + d = 184 → gSame [42] I0 I → (∀ q, q < k → I 42 q = I0 43 (184 * u + q)) → Wp E fX7_undo 62 23 [.ref 41, .int (nI k)] [] (gM I h) (gRet fX7_undo 62 (fun r σ' => ∃ (v : Int32) (I' : Nat → Nat → Int32), r = some (.int v) ∧ σ' = gM I' h ∧ R v I')) := by
  intro d
  induction d with
  | zero =>
    intro k I hk hs hq
    have hk : k = 184 := by omega
    subst hk
    refine g_iload_n (i := 1) (t := 24) dX7_undo_23 rfl rfl rfl ?_
    refine g_sipush (t := 27) dX7_undo_24 c_sipush_184 rfl ?_
    refine g_icmp_ge_n (t1 := 57) (t2 := 30) dX7_undo_27 (by decide) rfl (by omega) (by omega) (fun h27 => ?_) (fun h27 => ?_)
    · refine g_aload_n (i := 0) (r := 41) (t := 58) dX7_undo_57 rfl rfl (Or.inl l9_41) rfl ?_
      refine gm_getI (o := 41) (ci := 7) (k := 2) (t := 61) l6_41 l9_41 s_41 gf_X7_71 rfl dX7_undo_58 rfl ?_
      rw [hs.at 41 rfl, h2]
      exact g_retI dX7_undo_61 rfl rfl (kk I hs hq)
    · exfalso; omega
  | succ d ih =>
    intro k I hk hs hq
    refine g_iload_n (i := 1) (t := 24) dX7_undo_23 rfl rfl rfl ?_
    refine g_sipush (t := 27) dX7_undo_24 c_sipush_184 rfl ?_
    refine g_icmp_ge_n (t1 := 57) (t2 := 30) dX7_undo_27 (by decide) rfl (by omega) (by omega) (fun h27 => ?_) (fun h27 => ?_)
    · exfalso; omega
    · refine g_aload_n (i := 0) (r := 41) (t := 31) dX7_undo_30 rfl rfl (Or.inl l9_41) rfl ?_
      refine gm_getR (o := 41) (ci := 7) (k := 0) (r := 42) (t := 34) l6_41 l9_41 s_41 gf_X7_7 rfl r_41_0 l9_42 dX7_undo_31 rfl ?_
      refine g_iload_n (i := 1) (t := 35) dX7_undo_34 rfl rfl rfl ?_
      refine g_aload_n (i := 0) (r := 41) (t := 36) dX7_undo_35 rfl rfl (Or.inl l9_41) rfl ?_
      refine gm_getR (o := 41) (ci := 7) (k := 1) (r := 43) (t := 39) l6_41 l9_41 s_41 gf_X7_13 rfl r_41_1 l9_43 dX7_undo_36 rfl ?_
      refine g_sipush (t := 42) dX7_undo_39 c_sipush_184 rfl ?_
      refine g_aload_n (i := 0) (r := 41) (t := 43) dX7_undo_42 rfl rfl (Or.inl l9_41) rfl ?_
      refine gm_getI (o := 41) (ci := 7) (k := 2) (t := 46) l6_41 l9_41 s_41 gf_X7_71 rfl dX7_undo_43 rfl ?_
      rw [hs.at 41 rfl, h2]
      refine g_imul (t := 47) dX7_undo_46 rfl ?_
      refine g_top (pk_mul _ _) ?_
      refine g_iload_n (i := 1) (t := 48) dX7_undo_47 rfl rfl rfl ?_
      refine g_iadd (t := 49) dX7_undo_48 rfl ?_
      refine g_top (nI_add _ _) ?_
      refine gm_iald_n (a := 43) (n := 1472) (t := 50) l6_43 l9_43 s_43 dX7_undo_49 (by omega) (by decide) rfl ?_
      refine gm_iast_n (a := 42) (n := 184) (t := 51) l6_42 l9_42 s_42 dX7_undo_50 (by omega) (by decide) rfl ?_
      refine g_iinc (i := 1) (t := 54) (L1 := [_, _]) dX7_undo_51 rfl (gi_1 _) (by decide) rfl rfl rfl ?_
      refine g_goto (t := 23) dX7_undo_54 (by decide) ?_
      refine ih (k + 1) _ (by omega) (hs.up rfl) (fun q hq2 => ?_)
      rw [gup_at, hs.at 43 rfl]
      by_cases y : q = k
      · subst y; rw [if_pos rfl]
      · rw [if_neg y]; exact hq q (by omega)
theorem x7_undo {v : Int32} {S' : sT} (hR : rM I S) (hV : vT S) (ho : oUndo S v S') : gQI E fX7_undo [.ref 41] I h (fun v' I' => gSame ML I I' ∧ v' = v ∧ rM I' S') := by
  refine gEv.of rfl (Nat.le_refl _) (Nat.le_of_ble_eq_true rfl) (L := [.ref 41, .null]) rfl ?_
  have ⟨hn, hC, ⟨g1, g2, g3⟩, hT⟩ := hR
  rcases ho with ⟨hH, rfl, rfl⟩ | ⟨s, H, hH, rfl, o1, o2, o3, o4⟩
  · refine g_aload_n (i := 0) (r := 41) (t := 1) dX7_undo_0 rfl rfl (Or.inl l9_41) rfl ?_
    refine gm_getI (o := 41) (ci := 7) (k := 2) (t := 4) l6_41 l9_41 s_41 gf_X7_71 rfl dX7_undo_1 rfl ?_
    rw [g2, hH]
    refine g_if_ne (t1 := 11) (t2 := 7) dX7_undo_4 (by decide) rfl (fun h4 => ?_) (fun h4 => ?_)
    · exact absurd rfl h4
    · refine g_sipush (t := 10) dX7_undo_7 c_sipush_m1003 rfl ?_
      exact g_retI dX7_undo_10 rfl rfl (⟨gSame.rf, rfl, hR⟩)
  · rw [hH] at g1 g2 g3
    have g1 : H.length + 1 ≤ 8 := g1
    have g2 : I 41 2 = nI (H.length + 1) := g2
    have hs16 : s.1 ≤ 16 := hV.h16 0 s (by rw [hH]; rfl)
    refine g_aload_n (i := 0) (r := 41) (t := 1) dX7_undo_0 rfl rfl (Or.inl l9_41) rfl ?_
    refine gm_getI (o := 41) (ci := 7) (k := 2) (t := 4) l6_41 l9_41 s_41 gf_X7_71 rfl dX7_undo_1 rfl ?_
    rw [g2]
    refine g_if_ne (t1 := 11) (t2 := 7) dX7_undo_4 (by decide) rfl (fun h4 => ?_) (fun h4 => ?_)
    · refine g_aload_n (i := 0) (r := 41) (t := 12) dX7_undo_11 rfl rfl (Or.inl l9_41) rfl ?_
      refine g_dup (t := 13) dX7_undo_12 rfl rfl ?_
      refine gm_getI (o := 41) (ci := 7) (k := 2) (t := 16) l6_41 l9_41 s_41 gf_X7_71 rfl dX7_undo_13 rfl ?_
      rw [g2]
      refine g_iconst (t := 17) dX7_undo_16 c_iconst_1 rfl ?_
      refine g_isub (t := 18) dX7_undo_17 rfl ?_
      refine g_top (gi_p _) ?_
      refine gm_putI (o := 41) (ci := 7) (k := 2) (t := 21) l6_41 l9_41 s_41 gp_X7_71 rfl rfl rfl dX7_undo_18 rfl ?_
      refine g_iconst (t := 22) dX7_undo_21 c_iconst_0 rfl ?_
      refine g_istore_n (i := 1) (t := 23) (L1 := [_, _]) dX7_undo_22 rfl (by decide) rfl rfl rfl ?_
      refine x7_un_loop (u := H.length) (by omega) (gup_self _ _ _ _) (fun I' hs hq => ?_) 184 0 _ rfl gSame.rf (fun q hq => absurd hq (Nat.not_lt_zero _))
      have hs2 : gSame [41, 42] I I' := ((gSame.rf (cs := [41, 42])).up rfl).trans (hs.wk rfl)
      have hq' : ∀ q, q < 184 → I' 42 q = I 43 (184 * H.length + q) := fun q a => by rw [hq q a, gup_o _ _ _ _ (by decide)]
      have hu := g3 0 s rfl
      rw [show (s :: H).length - 1 - 0 = H.length from rfl] at hu
      obtain ⟨u1, u2, u3⟩ := hu
      refine ⟨hs2.wk rfl, rfl, by rw [o2]; exact hs16, ⟨by rw [hq' 176 (by decide), u1, o2], fun i w hi hw => ?_, fun k hk => ?_⟩, ?_, ?_⟩
      · rw [o2] at hi
        rw [hq' _ (by omega), u2 i w hi hw, o3 i w (by omega) hw]
      · rw [hq' _ (by omega), u3 k hk, o4 k hk]
      · rw [o1]
        refine ⟨by show H.length ≤ 8; omega, by rw [hs.at 41 rfl, gup_self], fun u t hu => ?_⟩
        have hul := getE_lt hu
        rw [hs2.at 43 rfl]
        have := g3 (u + 1) t hu
        rw [show (s :: H).length - 1 - (u + 1) = H.length - 1 - u by show H.length + 1 - 1 - (u + 1) = _; omega] at this
        exact this
      · rw [o1]
        exact hT.keep (by rw [hs.at 41 rfl, gup_k _ _ _ (by decide)]) (hs2.at 44 rfl)
    · exact absurd h4 (nI_ne0 (by omega) (by omega))
end X7H

