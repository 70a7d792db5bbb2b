/-! FlexRowsModel: an item is read -/
section X7F
variable {E : gE} {I : Nat → Nat → Int32} {h : Int64}
/-- what readsItem leaves -/
def pM (T : tT) (I I' : Nat → Nat → Int32) : Prop := gSame [41, 45] I I' ∧ (∀ k, k ≠ 5 → k ≠ 6 → I' 41 k = I 41 k) ∧ ((∃ f, f ≤ 80 ∧ (rdT T).1 = some f ∧ I' 41 6 = nI f) ∨ ((rdT T).1 = none ∧ I' 41 6 = -1001 ∧ ∀ k, k < 11 → I' 45 k = if k < 10 then (rdT T).2 k else 0))
theorem x7_ri_let {T : tT} {j : Nat} {w1 : Int32} (hT : tM I T) {K : gK} : ∀ (d e : Nat), e + d = T.1 → ltE T e = ltE T j →
    Wp E fX7_readsItem 62 138 [.ref 41, .int w1, .int (nI j), .null] [] (gM (gup I 41 5 (nI (ltE T j))) h) K →
    Wp E fX7_readsItem 62 111 [.ref 41, .int w1, .int (nI j), .null] [] (gM (gup I 41 5 (nI e)) h) K := by
  have hn := hT.2.1
  intro d
  induction d with
  | zero =>
    intro e he hl kk
    have hb : byt T e = -1 := byt_out (by omega)
    have : ltE T e = e := ltE_no (by rw [hb]; decide)
    rw [← hl, this] at kk
    refine g_aload_n (i := 0) (r := 41) (t := 112) dX7_readsItem_111 rfl rfl (Or.inl l9_41) rfl ?_
    refine g_cVp (o := 41) (t := 115) mX7_next k_X7_85 imX7_next seX7_next l6_41 l9_41 s_41 rfl dX7_readsItem_112 (x7_next hT.up5 (gup_self _ _ _ _) (by omega)) rfl rfl (by decide) (by decide) (Nat.le_of_ble_eq_true rfl) rfl ?_
    refine g_bipush (t := 117) dX7_readsItem_115 c_bipush_97 rfl ?_
    refine g_bipush (t := 119) dX7_readsItem_117 c_bipush_122 rfl ?_
    refine g_cSp (t := 122) mX7_in k_X7_75 smX7_in dX7_readsItem_119 (x7_in) rfl rfl (by decide) (by decide) (Nat.le_of_ble_eq_true rfl) rfl ?_
    refine g_if_eq (t1 := 138) (t2 := 125) dX7_readsItem_122 (by decide) rfl (fun h122 => ?_) (fun h122 => ?_)
    · exact kk
    · exact absurd h122 (by rw [hb]; decide)
  | succ d ih =>
    intro e he hl kk
    have el : inI (byt T e) (nI 97) (nI 122) = isL (byt T e) := rfl
    refine g_aload_n (i := 0) (r := 41) (t := 112) dX7_readsItem_111 rfl rfl (Or.inl l9_41) rfl ?_
    refine g_cVp (o := 41) (t := 115) mX7_next k_X7_85 imX7_next seX7_next l6_41 l9_41 s_41 rfl dX7_readsItem_112 (x7_next hT.up5 (gup_self _ _ _ _) (by omega)) rfl rfl (by decide) (by decide) (Nat.le_of_ble_eq_true rfl) rfl ?_
    refine g_bipush (t := 117) dX7_readsItem_115 c_bipush_97 rfl ?_
    refine g_bipush (t := 119) dX7_readsItem_117 c_bipush_122 rfl ?_
    refine g_cSp (t := 122) mX7_in k_X7_75 smX7_in dX7_readsItem_119 (x7_in) rfl rfl (by decide) (by decide) (Nat.le_of_ble_eq_true rfl) rfl ?_
    rw [el]
    refine g_if_eq (t1 := 138) (t2 := 125) dX7_readsItem_122 (by decide) rfl (fun h122 => ?_) (fun h122 => ?_)
    · have : ltE T e = e := ltE_no (by rw [bI_0 h122]; decide)
      rw [← hl, this] at kk
      exact kk
    · have hd := bI_n0 h122
      refine g_aload_n (i := 0) (r := 41) (t := 126) dX7_readsItem_125 rfl rfl (Or.inl l9_41) rfl ?_
      refine g_dup (t := 127) dX7_readsItem_126 rfl rfl ?_
      refine gm_getI (o := 41) (ci := 7) (k := 5) (t := 130) l6_41 l9_41 s_41 gf_X7_82 rfl dX7_readsItem_127 rfl ?_
      rw [gup_self]
      refine g_iconst (t := 131) dX7_readsItem_130 c_iconst_1 rfl ?_
      refine g_iadd (t := 132) dX7_readsItem_131 rfl ?_
      refine g_top (gi_s _) ?_
      refine gm_putI (o := 41) (ci := 7) (k := 5) (t := 135) l6_41 l9_41 s_41 gp_X7_82 rfl rfl rfl dX7_readsItem_132 rfl ?_
      refine g_goto (t := 111) dX7_readsItem_135 (by decide) ?_
      rw [gup_gup]
      exact ih (e + 1) (by omega) ((ltE_at hd).symm.trans hl) kk
theorem x7_ri_loop {T : tT} {I0 : Nat → Nat → Int32} : ∀ (d p j : Nat) (sd : Int32) (vs : Nat → Int32) (I : Nat → Nat → Int32), p + d = 80 → tM I T → I 41 5 = nI j → p ≤ j → j ≤ T.1 → I 41 6 = -1001 → (∀ k, k < 11 → I 45 k = if k < 10 then vs k else 0) → gSame [41, 45] I0 I → (∀ k, k ≠ 5 → k ≠ 6 → I 41 k = I0 41 k) → prs T d sd vs j = rdT T → Wp E fX7_readsItem 62 85 [.ref 41, .int sd, .null, .null] [] (gM I h) (gRet fX7_readsItem 62 (fun r σ' => ∃ I', r = none ∧ σ' = gM I' h ∧ pM T I0 I')) := by
  intro d
  have TE : ∀ (I : Nat → Nat → Int32) (f : Nat) (sd : Int32) (v2 v3 : Value), f ≤ 80 → (rdT T).1 = some f → I 41 6 = nI f → gSame [41, 45] I0 I → (∀ k, k ≠ 5 → k ≠ 6 → I 41 k = I0 41 k) → Wp E fX7_readsItem 62 85 [.ref 41, .int sd, v2, v3] [] (gM I h) (gRet fX7_readsItem 62 (fun r σ' => ∃ I', r = none ∧ σ' = gM I' h ∧ pM T I0 I')) := by
    intro I f sd v2 v3 f80 hf h6 hs hk
    refine g_aload_n (i := 0) (r := 41) (t := 86) dX7_readsItem_85 rfl rfl (Or.inl l9_41) rfl ?_
    refine gm_getI (o := 41) (ci := 7) (k := 6) (t := 89) l6_41 l9_41 s_41 gf_X7_89 rfl dX7_readsItem_86 rfl ?_
    rw [h6]
    refine g_sipush (t := 92) dX7_readsItem_89 c_sipush_m1001 rfl ?_
    refine g_icmp_ne (t1 := 183) (t2 := 95) dX7_readsItem_92 (by decide) rfl (fun h92 => ?_) (fun h92 => ?_)
    · exact g_retV dX7_readsItem_183 rfl (⟨hs, hk, Or.inl ⟨f, f80, hf, h6⟩⟩)
    · exact absurd h92 (nI_nm (by omega))
  induction d with
  | zero =>
    intro p j sd vs I hp hT h5 hpj hj h6 hv hs hk hr
    have hr : (none, vs) = rdT T := hr
    have hn := hT.2.1
    refine g_aload_n (i := 0) (r := 41) (t := 86) dX7_readsItem_85 rfl rfl (Or.inl l9_41) rfl ?_
    refine gm_getI (o := 41) (ci := 7) (k := 6) (t := 89) l6_41 l9_41 s_41 gf_X7_89 rfl dX7_readsItem_86 rfl ?_
    rw [h6]
    refine g_sipush (t := 92) dX7_readsItem_89 c_sipush_m1001 rfl ?_
    refine g_icmp_ne (t1 := 183) (t2 := 95) dX7_readsItem_92 (by decide) rfl (fun h92 => ?_) (fun h92 => ?_)
    · exact absurd rfl h92
    · refine g_aload_n (i := 0) (r := 41) (t := 96) dX7_readsItem_95 rfl rfl (Or.inl l9_41) rfl ?_
      refine gm_getI (o := 41) (ci := 7) (k := 5) (t := 99) l6_41 l9_41 s_41 gf_X7_82 rfl dX7_readsItem_96 rfl ?_
      rw [h5]
      refine g_aload_n (i := 0) (r := 41) (t := 100) dX7_readsItem_99 rfl rfl (Or.inl l9_41) rfl ?_
      refine gm_getI (o := 41) (ci := 7) (k := 4) (t := 103) l6_41 l9_41 s_41 gf_X7_79 rfl dX7_readsItem_100 rfl ?_
      rw [hT.1]
      refine g_icmp_ge_n (t1 := 183) (t2 := 106) dX7_readsItem_103 (by decide) rfl (by omega) (by omega) (fun h103 => ?_) (fun h103 => ?_)
      · exact g_retV dX7_readsItem_183 rfl (⟨hs, hk, Or.inr ⟨by rw [← hr], h6, fun k hk2 => by rw [← hr]; exact hv k hk2⟩⟩)
      · exfalso; omega
  | succ d ih =>
    intro p j sd vs I hp hT h5 hpj hj h6 hv hs hk hr
    have hn := hT.2.1
    have hle := ltE_le hj
    have hsk := skp_le hle.2
    by_cases hjn : T.1 ≤ j
    · rw [prs_more hjn] at hr
      refine g_aload_n (i := 0) (r := 41) (t := 86) dX7_readsItem_85 rfl rfl (Or.inl l9_41) rfl ?_
      refine gm_getI (o := 41) (ci := 7) (k := 6) (t := 89) l6_41 l9_41 s_41 gf_X7_89 rfl dX7_readsItem_86 rfl ?_
      rw [h6]
      refine g_sipush (t := 92) dX7_readsItem_89 c_sipush_m1001 rfl ?_
      refine g_icmp_ne (t1 := 183) (t2 := 95) dX7_readsItem_92 (by decide) rfl (fun h92 => ?_) (fun h92 => ?_)
      · exact absurd rfl h92
      · refine g_aload_n (i := 0) (r := 41) (t := 96) dX7_readsItem_95 rfl rfl (Or.inl l9_41) rfl ?_
        refine gm_getI (o := 41) (ci := 7) (k := 5) (t := 99) l6_41 l9_41 s_41 gf_X7_82 rfl dX7_readsItem_96 rfl ?_
        rw [h5]
        refine g_aload_n (i := 0) (r := 41) (t := 100) dX7_readsItem_99 rfl rfl (Or.inl l9_41) rfl ?_
        refine gm_getI (o := 41) (ci := 7) (k := 4) (t := 103) l6_41 l9_41 s_41 gf_X7_79 rfl dX7_readsItem_100 rfl ?_
        rw [hT.1]
        refine g_icmp_ge_n (t1 := 183) (t2 := 106) dX7_readsItem_103 (by decide) rfl (by omega) (by omega) (fun h103 => ?_) (fun h103 => ?_)
        · exact g_retV dX7_readsItem_183 rfl (⟨hs, hk, Or.inr ⟨by rw [← hr], h6, fun k hk2 => by rw [← hr]; exact hv k hk2⟩⟩)
        · exfalso; omega
    · rw [prs, if_neg hjn] at hr
      have hwl := wdO_lt T j (ltE T j) 9 0
      obtain ⟨w, hw⟩ : ∃ w, w = wdO T j (ltE T j) 9 0 := ⟨_, rfl⟩
      rw [← hw] at hr hwl
      have hTa : tM (gup I 41 5 (nI (ltE T j))) T := hT.up5
      have hsa : gSame [41, 45] I0 (gup I 41 5 (nI (ltE T j))) := hs.trans (gSame.rf.up rfl)
      have hka : ∀ k, k ≠ 5 → k ≠ 6 → gup I 41 5 (nI (ltE T j)) 41 k = I0 41 k := fun k a b => by rw [gup_k _ _ _ a]; exact hk k a b
      have h6a : gup I 41 5 (nI (ltE T j)) 41 6 = -1001 := by rw [gup_k _ _ _ (by decide)]; exact h6
      have T143 : Wp E fX7_readsItem 62 143 [.ref 41, .int sd, .int (nI j), .null] [.int (nI w)] (gM (gup I 41 5 (nI (ltE T j))) h) (gRet fX7_readsItem 62 (fun r σ' => ∃ I', r = none ∧ σ' = gM I' h ∧ pM T I0 I')) := by
        by_cases hbad : w = 0 ∨ ¬ bitW sd w = 0
        · rw [if_pos hbad] at hr
          have T157 : Wp E fX7_readsItem 62 157 [.ref 41, .int sd, .int (nI j), .int (nI w)] [] (gM (gup I 41 5 (nI (ltE T j))) h) (gRet fX7_readsItem 62 (fun r σ' => ∃ I', r = none ∧ σ' = gM I' h ∧ pM T I0 I')) := by
            refine g_aload_n (i := 0) (r := 41) (t := 158) dX7_readsItem_157 rfl rfl (Or.inl l9_41) rfl ?_
            refine g_iload_n (i := 2) (t := 159) dX7_readsItem_158 rfl rfl rfl ?_
            refine g_cVd (o := 41) (t := 162) mX7_fails k_X7_96 imX7_fails seX7_fails l6_41 l9_41 s_41 rfl dX7_readsItem_159 (x7_fails_n h6a) rfl rfl (by decide) (by decide) (Nat.le_of_ble_eq_true rfl) rfl ?_
            refine g_goto (t := 180) dX7_readsItem_162 (by decide) ?_
            refine g_goto (t := 85) dX7_readsItem_180 (by decide) ?_
            exact TE _ j _ _ _ (by omega) (by rw [← hr]) (gup_self _ _ _ _) (hsa.trans (gSame.rf.up rfl)) (fun k a b => by rw [gup_k _ _ _ b]; exact hka k a b)
          refine g_istore_n (i := 3) (t := 144) (L1 := [_, _, _, _]) dX7_readsItem_143 rfl (by decide) rfl rfl rfl ?_
          refine g_iload_n (i := 3) (t := 145) dX7_readsItem_144 rfl rfl rfl ?_
          refine g_if_eq (t1 := 157) (t2 := 148) dX7_readsItem_145 (by decide) rfl (fun h145 => ?_) (fun h145 => ?_)
          · exact T157
          · refine g_iload_n (i := 1) (t := 149) dX7_readsItem_148 rfl rfl rfl ?_
            refine g_iload_n (i := 3) (t := 150) dX7_readsItem_149 rfl rfl rfl ?_
            refine g_ishr (t := 151) dX7_readsItem_150 rfl ?_
            refine g_iconst (t := 152) dX7_readsItem_151 c_iconst_1 rfl ?_
            refine g_iand (t := 153) dX7_readsItem_152 rfl ?_
            refine g_iconst (t := 154) dX7_readsItem_153 c_iconst_1 rfl ?_
            refine g_icmp_ne (t1 := 165) (t2 := 157) dX7_readsItem_154 (by decide) rfl (fun h154 => ?_) (fun h154 => ?_)
            · rcases hbad with u | u
              · exact absurd (by rw [u]; rfl) h145
              · exact absurd ((and1 _).resolve_left u) h154
            · exact T157
        · rw [if_neg hbad] at hr
          have hw0 : w ≠ 0 := fun u => hbad (Or.inl u)
          have hbt : bitW sd w = 0 := Classical.byContradiction fun u => hbad (Or.inr u)
          refine g_istore_n (i := 3) (t := 144) (L1 := [_, _, _, _]) dX7_readsItem_143 rfl (by decide) rfl rfl rfl ?_
          refine g_iload_n (i := 3) (t := 145) dX7_readsItem_144 rfl rfl rfl ?_
          refine g_if_eq (t1 := 157) (t2 := 148) dX7_readsItem_145 (by decide) rfl (fun h145 => ?_) (fun h145 => ?_)
          · exact absurd h145 (nI_ne0 (by omega) (by omega))
          · refine g_iload_n (i := 1) (t := 149) dX7_readsItem_148 rfl rfl rfl ?_
            refine g_iload_n (i := 3) (t := 150) dX7_readsItem_149 rfl rfl rfl ?_
            refine g_ishr (t := 151) dX7_readsItem_150 rfl ?_
            refine g_iconst (t := 152) dX7_readsItem_151 c_iconst_1 rfl ?_
            refine g_iand (t := 153) dX7_readsItem_152 rfl ?_
            refine g_top (y := 0) hbt ?_
            refine g_iconst (t := 154) dX7_readsItem_153 c_iconst_1 rfl ?_
            refine g_icmp_ne (t1 := 165) (t2 := 157) dX7_readsItem_154 (by decide) rfl (fun h154 => ?_) (fun h154 => ?_)
            · refine g_iload_n (i := 1) (t := 166) dX7_readsItem_165 rfl rfl rfl ?_
              refine g_iconst (t := 167) dX7_readsItem_166 c_iconst_1 rfl ?_
              refine g_iload_n (i := 3) (t := 168) dX7_readsItem_167 rfl rfl rfl ?_
              refine g_ishl (t := 169) dX7_readsItem_168 rfl ?_
              refine g_ior (t := 170) dX7_readsItem_169 rfl ?_
              refine g_istore_n (i := 1) (t := 171) (L1 := [_, _, _, _]) dX7_readsItem_170 rfl (by decide) rfl rfl rfl ?_
              refine g_aload_n (i := 0) (r := 41) (t := 172) dX7_readsItem_171 rfl rfl (Or.inl l9_41) rfl ?_
              refine g_cVd (o := 41) (t := 175) mX7_skips k_X7_107 imX7_skips seX7_skips l6_41 l9_41 s_41 rfl dX7_readsItem_172 (x7_skips hTa (gup_self _ _ _ _) hle.2) rfl rfl (by decide) (by decide) (Nat.le_of_ble_eq_true rfl) rfl ?_
              rw [gup_gup]
              refine g_aload_n (i := 0) (r := 41) (t := 176) dX7_readsItem_175 rfl rfl (Or.inl l9_41) rfl ?_
              refine g_iload_n (i := 3) (t := 177) dX7_readsItem_176 rfl rfl rfl ?_
              refine g_cVv (o := 41) (t := 180) mX7_readsNumber k_X7_134 imX7_readsNumber seX7_readsNumber l6_41 l9_41 s_41 rfl dX7_readsItem_177 (x7_readsNumber (w := w) (j := skp T (ltE T j)) hT.up5 (gup_self _ _ _ _) hsk.2 (by omega) (by rw [gup_k _ _ _ (by decide)]; exact h6)) rfl rfl (by decide) (by decide) (Nat.le_of_ble_eq_true rfl) rfl (fun J q => ?_)
              refine g_goto (t := 85) dX7_readsItem_180 (by decide) ?_
              obtain ⟨q1, q2, q3, q4⟩ := q
              have hs2 : gSame [41, 45] I0 J := (hs.trans (gSame.rf.up rfl)).trans q1
              have hk2 : ∀ k, k ≠ 5 → k ≠ 6 → J 41 k = I0 41 k := fun k a b => by rw [q2 k a b, gup_k _ _ _ a]; exact hk k a b
              cases hft : ftN T w (skp T (ltE T j)) with
              | some f =>
                rw [hft] at hr
                have hr : (some f, vs) = rdT T := hr
                exact TE J f _ _ _ (ftN_le hsk.2 hn hft) (by rw [← hr]) (q3 f hft) hs2 hk2
              | none =>
                rw [hft] at hr
                have hnx := nxN_le (w := w) hsk.2 hft
                obtain ⟨r1, r2, r3⟩ := q4 hft
                refine Wp.drop [.ref 41, .int (orW sd w), .null, .null] (fun i v a b => ?_) (ih (p + 1) (nxN T w (skp T (ltE T j))) (orW sd w) _ J (by omega) (hT.keep (by rw [q2 4 (by decide) (by decide), gup_k _ _ _ (by decide)]) ((hs2.at 44 rfl).trans (hs.at 44 rfl).symm)) r2 (by omega) hnx.2 r1 (fun k hk3 => ?_) hs2 hk2 hr)
                · match i with
                  | 0 => exact a
                  | 1 => exact a
                  | 2 => cases a; exact absurd rfl b
                  | 3 => cases a; exact absurd rfl b
                  | i + 4 => cases a
                · rw [r3, gup_rowo _ _ _ (by decide)]
                  by_cases y : k = w
                  · subst y
                    rw [pk_us, if_pos (by omega), pk_us]
                  · rw [pk_un y, hv k hk3]
                    by_cases z : k < 10
                    · rw [if_pos z, if_pos z, pk_un y]
                    · rw [if_neg z, if_neg z]
            · exact absurd h154 (by decide)
      have T138 : Wp E fX7_readsItem 62 138 [.ref 41, .int sd, .int (nI j), .null] [] (gM (gup I 41 5 (nI (ltE T j))) h) (gRet fX7_readsItem 62 (fun r σ' => ∃ I', r = none ∧ σ' = gM I' h ∧ pM T I0 I')) := by
        rw [hw] at T143
        refine g_aload_n (i := 0) (r := 41) (t := 139) dX7_readsItem_138 rfl rfl (Or.inl l9_41) rfl ?_
        refine g_iload_n (i := 2) (t := 140) dX7_readsItem_139 rfl rfl rfl ?_
        refine g_cVp (o := 41) (t := 143) mX7_wordOf k_X7_137 imX7_wordOf seX7_wordOf l6_41 l9_41 s_41 rfl dX7_readsItem_140 (x7_wordOf hTa (gup_self _ _ _ _) hle.1 hle.2) rfl rfl (by decide) (by decide) (Nat.le_of_ble_eq_true rfl) rfl ?_
        exact T143
      refine g_aload_n (i := 0) (r := 41) (t := 86) dX7_readsItem_85 rfl rfl (Or.inl l9_41) rfl ?_
      refine gm_getI (o := 41) (ci := 7) (k := 6) (t := 89) l6_41 l9_41 s_41 gf_X7_89 rfl dX7_readsItem_86 rfl ?_
      rw [h6]
      refine g_sipush (t := 92) dX7_readsItem_89 c_sipush_m1001 rfl ?_
      refine g_icmp_ne (t1 := 183) (t2 := 95) dX7_readsItem_92 (by decide) rfl (fun h92 => ?_) (fun h92 => ?_)
      · exact absurd rfl h92
      · refine g_aload_n (i := 0) (r := 41) (t := 96) dX7_readsItem_95 rfl rfl (Or.inl l9_41) rfl ?_
        refine gm_getI (o := 41) (ci := 7) (k := 5) (t := 99) l6_41 l9_41 s_41 gf_X7_82 rfl dX7_readsItem_96 rfl ?_
        rw [h5]
        refine g_aload_n (i := 0) (r := 41) (t := 100) dX7_readsItem_99 rfl rfl (Or.inl l9_41) rfl ?_
        refine gm_getI (o := 41) (ci := 7) (k := 4) (t := 103) l6_41 l9_41 s_41 gf_X7_79 rfl dX7_readsItem_100 rfl ?_
        rw [hT.1]
        refine g_icmp_ge_n (t1 := 183) (t2 := 106) dX7_readsItem_103 (by decide) rfl (by omega) (by omega) (fun h103 => ?_) (fun h103 => ?_)
        · exfalso; omega
        · refine g_aload_n (i := 0) (r := 41) (t := 107) dX7_readsItem_106 rfl rfl (Or.inl l9_41) rfl ?_
          refine gm_getI (o := 41) (ci := 7) (k := 5) (t := 110) l6_41 l9_41 s_41 gf_X7_82 rfl dX7_readsItem_107 rfl ?_
          rw [h5]
          refine g_istore_n (i := 2) (t := 111) (L1 := [_, _, _, _]) dX7_readsItem_110 rfl (by decide) rfl rfl rfl ?_
          have := x7_ri_let (E := E) (w1 := sd) hT (T.1 - j) j (by omega) rfl T138
          rw [gup_id h5] at this
          exact this
end X7F

