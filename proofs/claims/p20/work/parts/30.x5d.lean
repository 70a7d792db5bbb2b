/-! FlexRows$Text: reading, adding -/
section X5D
variable {E : gE} {I : Nat → Nat → Int32} {h : gX}
theorem x5_append {T : tT} {x : Nat} (hT : tX I T) (hx : x < 128) : gQI E fX5_append [.ref 1, .int (nI x)] I h (fun v I' => (T.1 < 80 → v = nI 1 ∧ I' = gup (gup I 2 T.1 (nI x)) 1 2 (nI (T.1 + 1))) ∧ (T.1 = 80 → v = nI 0 ∧ I' = I)) := by
  refine gEv.of rfl (Nat.le_refl _) (Nat.le_of_ble_eq_true rfl) (L := [.ref 1, .int (nI x)]) rfl ?_
  obtain ⟨e1, e2, e3⟩ := hT
  have hb : (nI x).toInt8.toInt32 = nI x ∧ narrow .byte (.int (nI x)) = .int (nI x) := by
    have : ∀ x, x < 128 → (nI x).toInt8.toInt32 = nI x ∧ narrow .byte (.int (nI x)) = .int (nI x) := by decide +kernel
    exact this x hx
  refine g_aload_n (i := 0) (r := 1) (t := 1) dX5_append_0 rfl rfl (Or.inl l9_1) rfl ?_
  refine gm_getI (o := 1) (ci := 5) (k := 2) (t := 4) l6_1 l9_1 s_1 gf_X5_19 rfl dX5_append_1 rfl ?_
  rw [e1]
  refine g_if_lt (t1 := 16) (t2 := 7) dX5_append_4 (by decide) rfl (fun h4 => ?_) (fun h4 => ?_)
  · exact absurd h4 (by first | decide | exact nI_pos (by omega) | exact nI_ne0 (by omega) (by omega))
  · refine g_aload_n (i := 0) (r := 1) (t := 8) dX5_append_7 rfl rfl (Or.inl l9_1) rfl ?_
    refine gm_getI (o := 1) (ci := 5) (k := 2) (t := 11) l6_1 l9_1 s_1 gf_X5_19 rfl dX5_append_8 rfl ?_
    rw [e1]
    refine g_bipush (t := 13) dX5_append_11 c_bipush_80 rfl ?_
    refine g_icmp_lt_n (t1 := 18) (t2 := 16) dX5_append_13 (by decide) rfl (by omega) (by omega) (fun h13 => ?_) (fun h13 => ?_)
    · refine g_aload_n (i := 0) (r := 1) (t := 19) dX5_append_18 rfl rfl (Or.inl l9_1) rfl ?_
      refine gm_getR (o := 1) (ci := 5) (k := 0) (r := 2) (t := 22) l6_1 l9_1 s_1 gf_X5_9 rfl r_1_0 l9_2 dX5_append_19 rfl ?_
      refine g_aload_n (i := 0) (r := 1) (t := 23) dX5_append_22 rfl rfl (Or.inl l9_1) rfl ?_
      refine gm_getI (o := 1) (ci := 5) (k := 2) (t := 26) l6_1 l9_1 s_1 gf_X5_19 rfl dX5_append_23 rfl ?_
      rw [e1]
      refine g_iload_n (i := 1) (t := 27) dX5_append_26 rfl rfl rfl ?_
      refine g_i2b (t := 28) dX5_append_27 rfl ?_
      rw [hb.1]
      refine gm_bast_n (a := 2) (n := 80) (t := 29) l6_2 l9_2 s_2 hb.2 dX5_append_28 (by omega) (by decide) rfl ?_
      refine g_aload_n (i := 0) (r := 1) (t := 30) dX5_append_29 rfl rfl (Or.inl l9_1) rfl ?_
      refine g_dup (t := 31) dX5_append_30 rfl rfl ?_
      refine gm_getI (o := 1) (ci := 5) (k := 2) (t := 34) l6_1 l9_1 s_1 gf_X5_19 rfl dX5_append_31 rfl ?_
      rw [gup_o _ _ _ _ (by decide), e1]
      refine g_iconst (t := 35) dX5_append_34 c_iconst_1 rfl ?_
      refine g_iadd (t := 36) dX5_append_35 rfl ?_
      refine g_top (gi_s _) ?_
      refine gm_putI (o := 1) (ci := 5) (k := 2) (t := 39) l6_1 l9_1 s_1 gp_X5_19 rfl rfl rfl dX5_append_36 rfl ?_
      refine g_iconst (t := 40) dX5_append_39 c_iconst_1 rfl ?_
      exact g_retI dX5_append_40 rfl (by decide +kernel) (⟨fun _ => ⟨rfl, rfl⟩, fun q => absurd h13 (by omega)⟩)
    · refine g_iconst (t := 17) dX5_append_16 c_iconst_0 rfl ?_
      exact g_retI dX5_append_17 rfl (by decide +kernel) (⟨fun q => absurd h13 (by omega), fun _ => ⟨rfl, rfl⟩⟩)
/-- what read leaves -/
def pR (T : tT) (I : Nat → Nat → Int32) (v : Int32) (I' : Nat → Nat → Int32) : Prop := gSame [1, 3] I I' ∧ I' 1 2 = I 1 2 ∧ ((∃ f, f ≤ 80 ∧ (rdT T).1 = some f ∧ v = nI f) ∨ ((rdT T).1 = none ∧ v = -1 ∧ ∀ k, k < 10 → I' 3 k = (rdT T).2 k))
theorem prs_more {T : tT} {sd : Int32} {vs : Nat → Int32} {j d : Nat} (h : T.1 ≤ j) : prs T d sd vs j = (none, vs) := by
  cases d with
  | zero => rfl
  | succ d => rw [prs, if_pos h]
theorem nI_n0 {n : Nat} (h : n < 1000) : ¬ nI n < 0 := nI_pos (by omega)
theorem ftN_le {T : tT} {w j f : Nat} (hj : j ≤ T.1) (hn : T.1 ≤ 80) (h : ftN T w j = some f) : f ≤ 80 := by
  have h1 := fdN_le (w := w) hj
  have h2 := dgN_le (w := w) hj
  unfold ftN at h
  split at h
  · cases h; omega
  · split at h
    · cases h; omega
    · split at h
      · cases h; omega
      · cases h
theorem x5_rd_loop {T : tT} {I0 : Nat → Nat → Int32} : ∀ (d p j : Nat) (sd : Int32) (vs : Nat → Int32) (I : Nat → Nat → Int32) (v3 : Value), p + d = 80 → tX I T → I 1 3 = nI j → p ≤ j → j ≤ T.1 → I 1 4 = sd → (∀ k, k < 10 → I 3 k = vs k) → gSame [1, 3] I0 I → I 1 2 = I0 1 2 → prs T d sd vs j = rdT T → Wp E fX5_read (gn h) 32 [.ref 1, .int (-1), .int (nI p), v3] [] (gM I h) (gRet fX5_read (gn h) (fun r σ' => ∃ (v : Int32) (I' : Nat → Nat → Int32), r = some (.int v) ∧ σ' = gM I' h ∧ pR T I0 v I')) := by
  intro d
  induction d with
  | zero =>
    intro p j sd vs I v3 hp hT h3 hpj hj h4 hv hs hl hr
    have hr : (none, vs) = rdT T := hr
    refine g_iload_n (i := 2) (t := 33) dX5_read_32 rfl rfl rfl ?_
    refine g_bipush (t := 35) dX5_read_33 c_bipush_80 rfl ?_
    refine g_icmp_ge_n (t1 := 81) (t2 := 38) dX5_read_35 (by decide) rfl (by omega) (by omega) (fun h35 => ?_) (fun h35 => ?_)
    · refine g_iload_n (i := 1) (t := 82) dX5_read_81 rfl rfl rfl ?_
      exact g_retI dX5_read_82 rfl rfl (⟨hs, hl, Or.inr ⟨by rw [← hr], rfl, fun k hk => by rw [← hr]; exact hv k hk⟩⟩)
    · exfalso; omega
  | succ d ih =>
    intro p j sd vs I v3 hp hT h3 hpj hj h4 hv hs hl hr
    have hn := hT.2.1
    have hle := ltE_le hj
    have hsk := skp_le hle.2
    by_cases hjn : T.1 ≤ j
    · rw [prs_more hjn] at hr
      refine g_iload_n (i := 2) (t := 33) dX5_read_32 rfl rfl rfl ?_
      refine g_bipush (t := 35) dX5_read_33 c_bipush_80 rfl ?_
      refine g_icmp_ge_n (t1 := 81) (t2 := 38) dX5_read_35 (by decide) rfl (by omega) (by omega) (fun h35 => ?_) (fun h35 => ?_)
      · exfalso; omega
      · refine g_iload_n (i := 1) (t := 39) dX5_read_38 rfl rfl rfl ?_
        refine g_if_ge (t1 := 81) (t2 := 42) dX5_read_39 (by decide) rfl (fun h39 => ?_) (fun h39 => ?_)
        · exact absurd h39 (by decide)
        · refine g_aload_n (i := 0) (r := 1) (t := 43) dX5_read_42 rfl rfl (Or.inl l9_1) rfl ?_
          refine gm_getI (o := 1) (ci := 5) (k := 3) (t := 46) l6_1 l9_1 s_1 gf_X5_32 rfl dX5_read_43 rfl ?_
          rw [h3]
          refine g_aload_n (i := 0) (r := 1) (t := 47) dX5_read_46 rfl rfl (Or.inl l9_1) rfl ?_
          refine gm_getI (o := 1) (ci := 5) (k := 2) (t := 50) l6_1 l9_1 s_1 gf_X5_19 rfl dX5_read_47 rfl ?_
          rw [hT.1]
          refine g_icmp_ge_n (t1 := 81) (t2 := 53) dX5_read_50 (by decide) rfl (by omega) (by omega) (fun h50 => ?_) (fun h50 => ?_)
          · refine g_iload_n (i := 1) (t := 82) dX5_read_81 rfl rfl rfl ?_
            exact g_retI dX5_read_82 rfl rfl (⟨hs, hl, Or.inr ⟨by rw [← hr], rfl, fun k hk => by rw [← hr]; exact hv k hk⟩⟩)
          · exfalso; omega
    · rw [prs, if_neg hjn] at hr
      have TF : ∀ (I : Nat → Nat → Int32) (v3 : Value) (f : Nat), (rdT T).1 = some f → f ≤ 80 → gSame [1, 3] I0 I → I 1 2 = I0 1 2 → Wp E fX5_read (gn h) 74 [.ref 1, .int (-1), .int (nI p), v3] [.int (nI f)] (gM I h) (gRet fX5_read (gn h) (fun r σ' => ∃ (v : Int32) (I' : Nat → Nat → Int32), r = some (.int v) ∧ σ' = gM I' h ∧ pR T I0 v I')) := by
        intro I v3 f hf h80 hs hl
        refine g_istore_n (i := 1) (t := 75) (L1 := [_, _, _, _]) dX5_read_74 rfl (by decide) rfl rfl rfl ?_
        refine g_iinc (i := 2) (t := 78) (L1 := [_, _, _, _]) dX5_read_75 rfl (gi_1 _) (by decide) rfl rfl rfl ?_
        refine g_goto (t := 32) dX5_read_78 (by decide) ?_
        refine g_iload_n (i := 2) (t := 33) dX5_read_32 rfl rfl rfl ?_
        refine g_bipush (t := 35) dX5_read_33 c_bipush_80 rfl ?_
        refine g_icmp_ge_n (t1 := 81) (t2 := 38) dX5_read_35 (by decide) rfl (by omega) (by omega) (fun h35 => ?_) (fun h35 => ?_)
        · refine g_iload_n (i := 1) (t := 82) dX5_read_81 rfl rfl rfl ?_
          exact g_retI dX5_read_82 rfl rfl (⟨hs, hl, Or.inl ⟨f, h80, hf, rfl⟩⟩)
        · refine g_iload_n (i := 1) (t := 39) dX5_read_38 rfl rfl rfl ?_
          refine g_if_ge (t1 := 81) (t2 := 42) dX5_read_39 (by decide) rfl (fun h39 => ?_) (fun h39 => ?_)
          · refine g_iload_n (i := 1) (t := 82) dX5_read_81 rfl rfl rfl ?_
            exact g_retI dX5_read_82 rfl rfl (⟨hs, hl, Or.inl ⟨f, h80, hf, rfl⟩⟩)
          · exact absurd (nI_pos' (by omega)) h39
      have TN : ∀ (w : Nat) (v3 : Value), w < 10 → ftN T w (skp T (ltE T j)) = none → prs T d (orW sd w) (upd vs w (vlN T w (skp T (ltE T j)))) (nxN T w (skp T (ltE T j))) = rdT T → Wp E fX5_read (gn h) 74 [.ref 1, .int (-1), .int (nI p), v3] [.int (-1)] (gM (gup (gup (gup (gup I 1 4 (orW sd w)) 1 3 (nI (ltE T j))) 3 w (vlN T w (skp T (ltE T j)))) 1 3 (nI (nxN T w (skp T (ltE T j))))) h) (gRet fX5_read (gn h) (fun r σ' => ∃ (v : Int32) (I' : Nat → Nat → Int32), r = some (.int v) ∧ σ' = gM I' h ∧ pR T I0 v I')) := by
        intro w v3 hw hft hr
        have hnx := nxN_le (w := w) hsk.2 hft
        refine g_istore_n (i := 1) (t := 75) (L1 := [_, _, _, _]) dX5_read_74 rfl (by decide) rfl rfl rfl ?_
        refine g_iinc (i := 2) (t := 78) (L1 := [_, _, _, _]) dX5_read_75 rfl (gi_1 _) (by decide) rfl rfl rfl ?_
        refine g_goto (t := 32) dX5_read_78 (by decide) ?_
        refine ih (p + 1) (nxN T w (skp T (ltE T j))) (orW sd w) _ _ _ (by omega) ⟨?_, hn, ?_⟩ (gup_self _ _ _ _) (by omega) hnx.2 ?_ (fun k hk => ?_) (hs.trans ((((gSame.rf.up rfl).up rfl).up rfl).up rfl)) ?_ hr
        · rw [gup_k _ _ _ (by decide), gup_o _ _ _ _ (by decide), gup_k _ _ _ (by decide), gup_k _ _ _ (by decide)]; exact hT.1
        · rw [gup_rowo _ _ _ (by decide), gup_rowo _ _ _ (by decide), gup_rowo _ _ _ (by decide), gup_rowo _ _ _ (by decide)]; exact hT.2.2
        · rw [gup_k _ _ _ (by decide), gup_o _ _ _ _ (by decide), gup_k _ _ _ (by decide), gup_self]
        · rw [gup_o _ _ _ _ (by decide), gup_at, gup_o _ _ _ _ (by decide), gup_o _ _ _ _ (by decide), hv k hk]
          rfl
        · rw [gup_k _ _ _ (by decide), gup_o _ _ _ _ (by decide), gup_k _ _ _ (by decide), gup_k _ _ _ (by decide)]; exact hl
      have TW : ∀ (v : Int32) (I' : Nat → Nat → Int32), pW T j sd I v I' → Wp E fX5_read (gn h) 57 [.ref 1, .int (-1), .int (nI p), v3] [.int v] (gM I' h) (gRet fX5_read (gn h) (fun r σ' => ∃ (v : Int32) (I' : Nat → Nat → Int32), r = some (.int v) ∧ σ' = gM I' h ∧ pR T I0 v I')) := by
        intro v I' q
        rcases q with ⟨q1, q2, rfl, rfl⟩ | ⟨q1, rfl, rfl⟩
        · rw [if_neg (fun z => z.elim q1 (fun y => y q2))] at hr
          have hwl := wdO_lt T j (ltE T j) 9 0
          obtain ⟨w, hw⟩ : ∃ w, w = wdO T j (ltE T j) 9 0 := ⟨_, rfl⟩
          rw [← hw] at hr q1 q2 hwl ⊢
          have hTa : tX (gup (gup I 1 4 (orW sd w)) 1 3 (nI (ltE T j))) T := tX.up ⟨by rw [gup_k _ _ _ (by decide)]; exact hT.1, hn, by rw [gup_rowo _ _ _ (by decide)]; exact hT.2.2⟩
          have hsa : gSame [1] I (gup (gup I 1 4 (orW sd w)) 1 3 (nI (ltE T j))) := (gSame.rf.up rfl).up rfl
          have hla : gup (gup I 1 4 (orW sd w)) 1 3 (nI (ltE T j)) 1 2 = I 1 2 := by rw [gup_k _ _ _ (by decide), gup_k _ _ _ (by decide)]
          refine g_istore_n (i := 3) (t := 58) (L1 := [_, _, _, _]) dX5_read_57 rfl (by decide) rfl rfl rfl ?_
          refine g_iload_n (i := 3) (t := 59) dX5_read_58 rfl rfl rfl ?_
          refine g_if_ge (t1 := 69) (t2 := 62) dX5_read_59 (by decide) rfl (fun h59 => ?_) (fun h59 => ?_)
          · refine g_aload_n (i := 0) (r := 1) (t := 70) dX5_read_69 rfl rfl (Or.inl l9_1) rfl ?_
            refine g_iload_n (i := 3) (t := 71) dX5_read_70 rfl rfl rfl ?_
            refine g_cVi (o := 1) (t := 74) mX5_readNumber k_X5_38 imX5_readNumber seX5_readNumber l6_1 l9_1 s_1 rfl dX5_read_71 (x5_readNumber (j := skp T (ltE T j)) hTa (gup_self _ _ _ _) hle.2 (by omega) rfl) rfl rfl (by decide) (by decide) (Nat.le_of_ble_eq_true rfl) rfl (Nat.le_refl _) (fun u J qN => ?_)
            cases hft : ftN T w (skp T (ltE T j)) with
            | some f =>
              obtain ⟨rfl, r2, r3⟩ := qN.1 f hft
              rw [hft] at hr
              have hr : (some f, vs) = rdT T := hr
              exact TF J _ f (by rw [← hr]) (ftN_le (by omega) hn hft) (hs.trans ((hsa.trans r2).wk rfl)) (by rw [r3 2 (by decide), hla, hl])
            | none =>
              obtain ⟨rfl, rfl⟩ := qN.2 hft
              rw [hft] at hr
              exact TN w _ (by omega) hft hr
          · exact absurd (nI_pos' (by omega)) h59
        · rw [if_pos q1] at hr
          refine g_istore_n (i := 3) (t := 58) (L1 := [_, _, _, _]) dX5_read_57 rfl (by decide) rfl rfl rfl ?_
          refine g_iload_n (i := 3) (t := 59) dX5_read_58 rfl rfl rfl ?_
          refine g_if_ge (t1 := 69) (t2 := 62) dX5_read_59 (by decide) rfl (fun h59 => ?_) (fun h59 => ?_)
          · exact absurd h59 (by decide)
          · refine g_aload_n (i := 0) (r := 1) (t := 63) dX5_read_62 rfl rfl (Or.inl l9_1) rfl ?_
            refine gm_getI (o := 1) (ci := 5) (k := 3) (t := 66) l6_1 l9_1 s_1 gf_X5_32 rfl dX5_read_63 rfl ?_
            rw [h3]
            refine g_goto (t := 74) dX5_read_66 (by decide) ?_
            exact TF _ _ j (by rw [← hr]) (by omega) hs hl
      refine g_iload_n (i := 2) (t := 33) dX5_read_32 rfl rfl rfl ?_
      refine g_bipush (t := 35) dX5_read_33 c_bipush_80 rfl ?_
      refine g_icmp_ge_n (t1 := 81) (t2 := 38) dX5_read_35 (by decide) rfl (by omega) (by omega) (fun h35 => ?_) (fun h35 => ?_)
      · exfalso; omega
      · refine g_iload_n (i := 1) (t := 39) dX5_read_38 rfl rfl rfl ?_
        refine g_if_ge (t1 := 81) (t2 := 42) dX5_read_39 (by decide) rfl (fun h39 => ?_) (fun h39 => ?_)
        · exact absurd h39 (by decide)
        · refine g_aload_n (i := 0) (r := 1) (t := 43) dX5_read_42 rfl rfl (Or.inl l9_1) rfl ?_
          refine gm_getI (o := 1) (ci := 5) (k := 3) (t := 46) l6_1 l9_1 s_1 gf_X5_32 rfl dX5_read_43 rfl ?_
          rw [h3]
          refine g_aload_n (i := 0) (r := 1) (t := 47) dX5_read_46 rfl rfl (Or.inl l9_1) rfl ?_
          refine gm_getI (o := 1) (ci := 5) (k := 2) (t := 50) l6_1 l9_1 s_1 gf_X5_19 rfl dX5_read_47 rfl ?_
          rw [hT.1]
          refine g_icmp_ge_n (t1 := 81) (t2 := 53) dX5_read_50 (by decide) rfl (by omega) (by omega) (fun h50 => ?_) (fun h50 => ?_)
          · exfalso; omega
          · refine g_aload_n (i := 0) (r := 1) (t := 54) dX5_read_53 rfl rfl (Or.inl l9_1) rfl ?_
            refine g_cVi (o := 1) (t := 57) mX5_readWord k_X5_42 imX5_readWord seX5_readWord l6_1 l9_1 s_1 rfl dX5_read_54 (x5_readWord hT h3 hj h4) rfl rfl (by decide) (by decide) (Nat.le_of_ble_eq_true rfl) rfl (Nat.le_refl _) (fun v I' q => ?_)
            exact TW v I' q
theorem x5_read {T : tT} (hT : tX I T) : gQI E fX5_read [.ref 1] I h (pR T I) := by
  refine gEv.of rfl (Nat.le_refl _) (Nat.le_of_ble_eq_true rfl) (L := [.ref 1, .null, .null, .null]) rfl ?_
  have hn := hT.2.1
  have hsk := skp_le (T := T) (Nat.zero_le _)
  obtain ⟨J, hJ⟩ : ∃ J, J = gup (gup (gcpy I 3 (fun k => (gst.getD 2 ("", [])).2.getD k 0) 0 0 10) 1 3 (nI 0)) 1 4 (nI 0) := ⟨_, rfl⟩
  have hc : ∀ o, o ≠ 3 → gcpy I 3 (fun k => (gst.getD 2 ("", [])).2.getD k 0) 0 0 10 o = I o := fun o ho => if_neg ho
  have hsJ : gSame [1, 3] I J := by
    intro o ho
    have h3 : o ≠ 3 := fun z => ho (by rw [z]; decide)
    have h1 : o ≠ 1 := fun z => ho (by rw [z]; decide)
    rw [hJ, gup_rowo _ _ _ h1, gup_rowo _ _ _ h1, hc o h3]
  have hTJ : tX J T := ⟨by rw [hJ, gup_k _ _ _ (by decide), gup_k _ _ _ (by decide), hc 1 (by decide)]; exact hT.1, hn, by rw [hsJ.at 2 rfl]; exact hT.2.2⟩
  have hlJ : J 1 2 = I 1 2 := by rw [hTJ.1, hT.1]
  have h3J : J 1 3 = nI 0 := by rw [hJ, gup_k _ _ _ (by decide), gup_self]
  have h4J : J 1 4 = nI 0 := by rw [hJ, gup_self]
  have hvJ : ∀ k, k < 10 → J 3 k = uwt k := by
    intro k hk
    rw [hJ, gup_o _ _ _ _ (by decide), gup_o _ _ _ _ (by decide)]
    show (if (3 : Nat) = 3 then va_cpy _ (I 3) 0 0 10 else I 3) k = _
    rw [if_pos rfl, pk_cpy_in (Nat.zero_le _) (by omega)]
    show (gst.getD 2 ("", [])).2.getD (0 + (k - 0)) 0 = _
    rw [Nat.zero_add, Nat.sub_zero]
    rfl
  have T24 : Wp E fX5_read (gn h) 24 [.ref 1, .null, .null, .null] [] (gM J h) (gRet fX5_read (gn h) (fun r σ' => ∃ (v : Int32) (I' : Nat → Nat → Int32), r = some (.int v) ∧ σ' = gM I' h ∧ pR T I v I')) := by
    have TF : ∀ (f : Nat) (K : Nat → Nat → Int32), (rdT T).1 = some f → f ≤ 80 → gSame [1] J K → K 1 2 = J 1 2 → Wp E fX5_read (gn h) 29 [.ref 1, .null, .null, .null] [.int (nI f)] (gM K h) (gRet fX5_read (gn h) (fun r σ' => ∃ (v : Int32) (I' : Nat → Nat → Int32), r = some (.int v) ∧ σ' = gM I' h ∧ pR T I v I')) := by
      intro f K hf h80 hs hl
      refine g_istore_n (i := 1) (t := 30) (L1 := [_, _, _, _]) dX5_read_29 rfl (by decide) rfl rfl rfl ?_
      refine g_iconst (t := 31) dX5_read_30 c_iconst_0 rfl ?_
      refine g_istore_n (i := 2) (t := 32) (L1 := [_, _, _, _]) dX5_read_31 rfl (by decide) rfl rfl rfl ?_
      refine g_iload_n (i := 2) (t := 33) dX5_read_32 rfl rfl rfl ?_
      refine g_bipush (t := 35) dX5_read_33 c_bipush_80 rfl ?_
      refine g_icmp_ge (t1 := 81) (t2 := 38) dX5_read_35 (by decide) rfl (fun h35 => ?_) (fun h35 => ?_)
      · refine g_iload_n (i := 1) (t := 82) dX5_read_81 rfl rfl rfl ?_
        exact g_retI dX5_read_82 rfl rfl (⟨hsJ.trans (hs.wk rfl), hl.trans hlJ, Or.inl ⟨f, h80, hf, rfl⟩⟩)
      · refine g_iload_n (i := 1) (t := 39) dX5_read_38 rfl rfl rfl ?_
        refine g_if_ge (t1 := 81) (t2 := 42) dX5_read_39 (by decide) rfl (fun h39 => ?_) (fun h39 => ?_)
        · refine g_iload_n (i := 1) (t := 82) dX5_read_81 rfl rfl rfl ?_
          exact g_retI dX5_read_82 rfl rfl (⟨hsJ.trans (hs.wk rfl), hl.trans hlJ, Or.inl ⟨f, h80, hf, rfl⟩⟩)
        · exact absurd (nI_pos' (by omega)) h39
    have TN : ftN T 0 (skp T 0) = none → prs T 80 (nI 0) (upd uwt 0 (vlN T 0 (skp T 0))) (nxN T 0 (skp T 0)) = rdT T → Wp E fX5_read (gn h) 29 [.ref 1, .null, .null, .null] [.int (-1)] (gM (gup (gup J 3 0 (vlN T 0 (skp T 0))) 1 3 (nI (nxN T 0 (skp T 0)))) h) (gRet fX5_read (gn h) (fun r σ' => ∃ (v : Int32) (I' : Nat → Nat → Int32), r = some (.int v) ∧ σ' = gM I' h ∧ pR T I v I')) := by
      intro hft hr
      have hnx := nxN_le (w := 0) hsk.2 hft
      refine g_istore_n (i := 1) (t := 30) (L1 := [_, _, _, _]) dX5_read_29 rfl (by decide) rfl rfl rfl ?_
      refine g_iconst (t := 31) dX5_read_30 c_iconst_0 rfl ?_
      refine g_istore_n (i := 2) (t := 32) (L1 := [_, _, _, _]) dX5_read_31 rfl (by decide) rfl rfl rfl ?_
      refine x5_rd_loop 80 0 (nxN T 0 (skp T 0)) (nI 0) _ _ _ rfl ⟨?_, hn, ?_⟩ (gup_self _ _ _ _) (Nat.zero_le _) hnx.2 ?_ (fun k hk => ?_) (hsJ.trans ((gSame.rf.up rfl).up rfl)) ?_ hr
      · rw [gup_k _ _ _ (by decide), gup_o _ _ _ _ (by decide)]; exact hTJ.1
      · rw [gup_rowo _ _ _ (by decide), gup_rowo _ _ _ (by decide)]; exact hTJ.2.2
      · rw [gup_k _ _ _ (by decide), gup_o _ _ _ _ (by decide)]; exact h4J
      · rw [gup_o _ _ _ _ (by decide), gup_at, hvJ k hk]; rfl
      · rw [gup_k _ _ _ (by decide), gup_o _ _ _ _ (by decide)]; exact hlJ
    refine g_aload_n (i := 0) (r := 1) (t := 25) dX5_read_24 rfl rfl (Or.inl l9_1) rfl ?_
    refine g_iconst (t := 26) dX5_read_25 c_iconst_0 rfl ?_
    refine g_cVi (o := 1) (t := 29) mX5_readNumber k_X5_38 imX5_readNumber seX5_readNumber l6_1 l9_1 s_1 rfl dX5_read_26 (x5_readNumber (w := 0) (j := skp T 0) hTJ h3J (Nat.zero_le _) (by decide) rfl) rfl rfl (by decide) (by decide) (Nat.le_of_ble_eq_true rfl) rfl (Nat.le_refl _) (fun v K qN => ?_)
    cases hft : ftN T 0 (skp T 0) with
    | some f =>
      obtain ⟨rfl, r2, r3⟩ := qN.1 f hft
      exact TF f K (by rw [rdT, hft]) (ftN_le hsk.2 hn hft) r2 (r3 2 (by decide))
    | none =>
      obtain ⟨rfl, rfl⟩ := qN.2 hft
      have hr : prs T 80 (nI 0) (upd uwt 0 (vlN T 0 (skp T 0))) (nxN T 0 (skp T 0)) = rdT T := by rw [rdT, hft]
      exact TN hft hr
  refine g_getsN (j := 2) (r := 1003) (t := 3) rfl rfl (List.mem_of_getElem? (i := 3) rfl) dX5_read_0 rfl ?_
  refine g_iconst (t := 4) dX5_read_3 c_iconst_0 rfl ?_
  refine g_aload_n (i := 0) (r := 1) (t := 5) dX5_read_4 rfl rfl (Or.inl l9_1) rfl ?_
  refine gm_getR (o := 1) (ci := 5) (k := 1) (r := 3) (t := 8) l6_1 l9_1 s_1 gf_X5_15 rfl r_1_1 l9_3 dX5_read_5 rfl ?_
  refine g_iconst (t := 9) dX5_read_8 c_iconst_0 rfl ?_
  refine g_bipush (t := 11) dX5_read_9 c_bipush_10 rfl ?_
  refine gm_copyT (j := 2) (r := 1003) (b := 3) (n1 := 10) (t := 14) k_X5_26 rfl rfl l6_3 l9_3 s_3 (by decide) (by omega) (by decide) (by decide) (by decide) (by decide) (Nat.le_of_ble_eq_true rfl) dX5_read_11 rfl ?_
  refine g_aload_n (i := 0) (r := 1) (t := 15) dX5_read_14 rfl rfl (Or.inl l9_1) rfl ?_
  refine g_iconst (t := 16) dX5_read_15 c_iconst_0 rfl ?_
  refine gm_putI (o := 1) (ci := 5) (k := 3) (t := 19) l6_1 l9_1 s_1 gp_X5_32 rfl rfl rfl dX5_read_16 rfl ?_
  refine g_aload_n (i := 0) (r := 1) (t := 20) dX5_read_19 rfl rfl (Or.inl l9_1) rfl ?_
  refine g_iconst (t := 21) dX5_read_20 c_iconst_0 rfl ?_
  refine gm_putI (o := 1) (ci := 5) (k := 4) (t := 24) l6_1 l9_1 s_1 gp_X5_35 rfl rfl rfl dX5_read_21 rfl ?_
  rw [hJ] at T24
  exact T24
end X5D

