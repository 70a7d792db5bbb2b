/-! the line's room; its items at first -/
section SHR2
variable {E : gE} {I : Nat → Nat → Int32} {h : gX} {S : sT} {K : gK} {nE z w l : Nat} {u5 u6 u7 u9 u10 u11 u12 u13 u14 u15 u16 u17 u18 u19 u20 u21 u22 u23 : Value}
theorem sh_room {J : Nat → Nat → Int32} (hB : shB J S l w) (hn : 0 < (sA S l).2.2) (kk : Wp E fL_shares nE 119 [.ref 41, .ref 42, .ref 43, .ref z, .int (nI l), .int (nI (sA S l).2.2), .int (smS (fun p => wsh S.1.2.1 ((sQ S.1).2.2.2 p)) (sA S l).2.1 (sA S l).2.2), .int (smS (fun p => S.1.2.1 ((sQ S.1).2.2.2 p) 5) (sA S l).2.1 (sA S l).2.2), .ref w, .int (rmL (sA S l)), .int (bI (grL (sA S l))), u11, u12, u13, u14, u15, u16, u17, u18, u19, u20, u21, u22, u23] [] (gM J h) K) : Wp E fL_shares nE 86 [.ref 41, .ref 42, .ref 43, .ref z, .int (nI l), .int (nI (sA S l).2.2), .int (smS (fun p => wsh S.1.2.1 ((sQ S.1).2.2.2 p)) (sA S l).2.1 (sA S l).2.2), .int (smS (fun p => S.1.2.1 ((sQ S.1).2.2.2 p) 5) (sA S l).2.1 (sA S l).2.2), .ref w, u9, u10, u11, u12, u13, u14, u15, u16, u17, u18, u19, u20, u21, u22, u23] [] (gM J h) K := by
  obtain ⟨b1, b2, b3, b4⟩ := id hB
  have er : S.1.2.2 0 - S.1.2.2 1 * nI ((sA S l).2.2 - 1) - nI 2 * smS (fun p => S.1.2.1 ((sQ S.1).2.2.2 p) 5) (sA S l).2.1 (sA S l).2.2 = rmL (sA S l) := by
    unfold rmL
    rw [sbS_eq, smS_2]
    rfl
  have eg : grL (sA S l) = decide (smS (fun p => wsh S.1.2.1 ((sQ S.1).2.2.2 p)) (sA S l).2.1 (sA S l).2.2 < rmL (sA S l)) := rfl
  refine g_aload_n (i := 1) (r := 42) (t := 87) dL_shares_86 rfl rfl (Or.inl l9_42) rfl ?_
  refine g_iconst (t := 88) dL_shares_87 c_iconst_0 rfl ?_
  refine gm_iald_x (a := 42) (n := 8) (t := 89) l6_42 l9_42 s_42 dL_shares_88 rfl (by omega) (by decide) rfl ?_
  rw [b3 0 (by decide)]
  refine g_aload_n (i := 1) (r := 42) (t := 90) dL_shares_89 rfl rfl (Or.inl l9_42) rfl ?_
  refine g_iconst (t := 91) dL_shares_90 c_iconst_1 rfl ?_
  refine gm_iald_x (a := 42) (n := 8) (t := 92) l6_42 l9_42 s_42 dL_shares_91 rfl (by omega) (by decide) rfl ?_
  rw [b3 1 (by decide)]
  refine g_iload (i := 5) (t := 94) dL_shares_92 rfl rfl ?_
  refine g_iconst (t := 95) dL_shares_94 c_iconst_1 rfl ?_
  refine g_isub (t := 96) dL_shares_95 rfl ?_
  refine g_top (y := nI ((sA S l).2.2 - 1)) (pk_sub (by omega)) ?_
  refine g_imul (t := 97) dL_shares_96 rfl ?_
  refine g_isub (t := 98) dL_shares_97 rfl ?_
  refine g_iconst (t := 99) dL_shares_98 c_iconst_2 rfl ?_
  refine g_iload (i := 7) (t := 101) dL_shares_99 rfl rfl ?_
  refine g_imul (t := 102) dL_shares_101 rfl ?_
  refine g_isub (t := 103) dL_shares_102 rfl ?_
  refine g_top er ?_
  refine g_istore (i := 9) (t := 105) (L1 := [_, _, _, _, _, _, _, _, _, _, _, _, _, _, _, _, _, _, _, _, _, _, _, _]) dL_shares_103 (by decide) rfl rfl rfl ?_
  refine g_iload (i := 6) (t := 107) dL_shares_105 rfl rfl ?_
  refine g_iload (i := 9) (t := 109) dL_shares_107 rfl rfl ?_
  refine g_icmp_ge (t1 := 116) (t2 := 112) dL_shares_109 (by decide) rfl (fun h109 => ?_) (fun h109 => ?_)
  · refine g_iconst (t := 117) dL_shares_116 c_iconst_0 rfl ?_
    refine g_istore (i := 10) (t := 119) (L1 := [_, _, _, _, _, _, _, _, _, _, _, _, _, _, _, _, _, _, _, _, _, _, _, _]) dL_shares_117 (by decide) rfl rfl rfl ?_
    first
    | (rw [eg, decide_eq_true (Int32.not_le.mp h109)] at kk
       exact kk)
    | (rw [eg, decide_eq_false (fun q => absurd h109 (Int32.not_le.mpr q))] at kk
       exact kk)
    | done
  · refine g_iconst (t := 113) dL_shares_112 c_iconst_1 rfl ?_
    refine g_goto (t := 117) dL_shares_113 (by decide) ?_
    refine g_istore (i := 10) (t := 119) (L1 := [_, _, _, _, _, _, _, _, _, _, _, _, _, _, _, _, _, _, _, _, _, _, _, _]) dL_shares_117 (by decide) rfl rfl rfl ?_
    first
    | (rw [eg, decide_eq_true (Int32.not_le.mp h109)] at kk
       exact kk)
    | (rw [eg, decide_eq_false (fun q => absurd h109 (Int32.not_le.mpr q))] at kk
       exact kk)
    | done
/-- in the first pass: what keeps its wish -/
theorem sh_l2 {g : Bool} {R : Int32} (hzw : zwX h z w) (hE : gn h ≤ nE) (hg : grL (sA S l) = g) (kk : ∀ (J : Nat → Nat → Int32) (u13 u14 : Value), gSame [z] I J → shB J S l w → zS J z S l (zL0 (sA S l)) (sA S l).2.2 → Wp E fL_shares nE 260 [.ref 41, .ref 42, .ref 43, .ref z, .int (nI l), .int (nI (sA S l).2.2), u6, u7, .ref w, .int R, .int (bI g), .int (nI (opn (sA S l) (zL0 (sA S l)) (sA S l).2.2)), .int (nI (sA S l).2.2), u13, u14, u15, u16, u17, u18, u19, u20, u21, u22, u23] [] (gM J h) K) : ∀ (d i : Nat) (J : Nat → Nat → Int32) (u13 u14 : Value), i + d = (sA S l).2.2 → gSame [z] I J → shB J S l w → zS J z S l (zL0 (sA S l)) i → Wp E fL_shares nE 125 [.ref 41, .ref 42, .ref 43, .ref z, .int (nI l), .int (nI (sA S l).2.2), u6, u7, .ref w, .int R, .int (bI g), .int (nI (opn (sA S l) (zL0 (sA S l)) i)), .int (nI i), u13, u14, u15, u16, u17, u18, u19, u20, u21, u22, u23] [] (gM J h) K := by
  obtain ⟨⟨l6_z, l9_z, s_z⟩, ⟨l6_w, l9_w, s_w⟩, hne, hz4, hw4⟩ := id hzw
  have hsl := sA_le S l
  have hc5 : sC S.1 ≤ S.1.1 := ordS_le S.1.2.1 S.1.1
  intro d
  induction d with
  | zero =>
    intro i J u13 u14 hi hs hB hZ
    have hi : i = (sA S l).2.2 := by omega
    subst hi
    have b1 := hB.1
    refine g_iload (i := 12) (t := 127) dL_shares_125 rfl rfl ?_
    refine g_iload (i := 5) (t := 129) dL_shares_127 rfl rfl ?_
    refine g_icmp_ge_n (t1 := 260) (t2 := 132) dL_shares_129 (by decide) rfl (by omega) (by omega) (fun h129 => ?_) (fun h129 => ?_)
    · exact kk J _ _ hs hB hZ
    · exfalso; omega
  | succ d ih =>
    intro i J u13 u14 hi hs hB hZ
    obtain ⟨b1, b2, b3, b4⟩ := id hB
    have hf : fA S l i < S.1.1 := fA_lt (show i < (sA S l).2.2 by omega)
    have e0 : J 41 (12 * fA S l i) = S.1.2.1 (fA S l i) 0 := b2 _ 0 hf (by decide)
    have e1 := b2 _ 1 hf (by decide)
    have e2 := b2 _ 2 hf (by decide)
    have ew : wsh (aP J) (fA S l i) = wsh S.1.2.1 (fA S l i) := hB.ws hf
    have est : stf (sA S l).1.1 (grL (sA S l)) ((sA S l).1.2.2.2 ((sA S l).2.1 + i)) = stf S.1.2.1 g (fA S l i) := by rw [hg]; rfl
    have T210 : ∀ b : Bool, b = stf S.1.2.1 g (fA S l i) → Wp E fL_shares nE 210 [.ref 41, .ref 42, .ref 43, .ref z, .int (nI l), .int (nI (sA S l).2.2), u6, u7, .ref w, .int R, .int (bI g), .int (nI (opn (sA S l) (zL0 (sA S l)) i)), .int (nI i), .int (nI (fA S l i)), u14, u15, u16, u17, u18, u19, u20, u21, u22, u23] [.int (bI b)] (gM J h) K := by
      intro b hb
      have hz1 : (zL0 (sA S l)).1 ((sA S l).2.1 + i) = if b then some 0 else none := by
        show (if stf (sA S l).1.1 (grL (sA S l)) ((sA S l).1.2.2.2 ((sA S l).2.1 + i)) then some 0 else none) = _
        rw [est, ← hb]
      have hop : opn (sA S l) (zL0 (sA S l)) (i + 1) = opn (sA S l) (zL0 (sA S l)) i + if b then 0 else 1 := by
        rw [opn, hz1]
        cases b <;> rfl
      have hle := opn_le (sA S l) (zL0 (sA S l)) i
      have T238 : ∀ v : Int32, v = ovS (if b then some 0 else none) → Wp E fL_shares nE 238 [.ref 41, .ref 42, .ref 43, .ref z, .int (nI l), .int (nI (sA S l).2.2), u6, u7, .ref w, .int R, .int (bI g), .int (nI (opn (sA S l) (zL0 (sA S l)) i)), .int (nI i), .int (nI (fA S l i)), .int (bI b), u15, u16, u17, u18, u19, u20, u21, u22, u23] [.int v, .int (nI 8 + nI (fA S l i)), .ref z] (gM (gup J z (fA S l i) (wsh S.1.2.1 (fA S l i))) h) K := by
        intro v hv
        have hB2 : shB (gup (gup J z (fA S l i) (wsh S.1.2.1 (fA S l i))) z (8 + fA S l i) v) S l w := (hB.upz hz4 hne).upz hz4 hne
        have hZ2 : zS (gup (gup J z (fA S l i) (wsh S.1.2.1 (fA S l i))) z (8 + fA S l i) v) z S l (zL0 (sA S l)) (i + 1) := by
          intro j hj
          have hfj : fA S l j < S.1.1 := fA_lt (show j < (sA S l).2.2 by omega)
          rw [gup_at, if_neg (by omega), gup_at, gup_at]
          by_cases q : j = i
          · subst q
            rw [if_pos rfl, if_pos rfl, hz1]
            exact ⟨rfl, hv⟩
          · have nf : ¬ fA S l j = fA S l i := fun y => q (fA_inj (by omega) (by omega) y)
            rw [if_neg nf, if_neg (by omega), gup_k _ _ _ (by omega)]
            exact hZ j (by omega)
        have hs2 : gSame [z] I (gup (gup J z (fA S l i) (wsh S.1.2.1 (fA S l i))) z (8 + fA S l i) v) := (hs.up (by simp)).up (by simp)
        have ih := ih (i + 1) _ (.int (nI (fA S l i))) (.int (bI b)) (by omega) hs2 hB2 hZ2
        rw [hop] at ih
        cases b with
        | true =>
          refine gm_iast_x (a := z) (n := 48) (t := 239) l6_z l9_z s_z dL_shares_238 (ix_a _ _) (by omega) (by decide) rfl ?_
          refine g_iload (i := 11) (t := 241) dL_shares_239 rfl rfl ?_
          refine g_iload (i := 14) (t := 243) dL_shares_241 rfl rfl ?_
          refine g_if_eq (t1 := 250) (t2 := 246) dL_shares_243 (by decide) rfl (fun h243 => ?_) (fun h243 => ?_)
          · exact absurd h243 (by decide)
          · refine g_iconst (t := 247) dL_shares_246 c_iconst_0 rfl ?_
            refine g_goto (t := 251) dL_shares_247 (by decide) ?_
            refine g_iadd (t := 252) dL_shares_251 rfl ?_
            refine g_top (nI_add _ _) ?_
            refine g_istore (i := 11) (t := 254) (L1 := [_, _, _, _, _, _, _, _, _, _, _, _, _, _, _, _, _, _, _, _, _, _, _, _]) dL_shares_252 (by decide) rfl rfl rfl ?_
            refine g_iinc (i := 12) (t := 257) (L1 := [_, _, _, _, _, _, _, _, _, _, _, _, _, _, _, _, _, _, _, _, _, _, _, _]) dL_shares_254 rfl (gi_1 _) (by decide) rfl rfl rfl ?_
            refine g_goto (t := 125) dL_shares_257 (by decide) ?_
            exact ih
        | false =>
          refine gm_iast_x (a := z) (n := 48) (t := 239) l6_z l9_z s_z dL_shares_238 (ix_a _ _) (by omega) (by decide) rfl ?_
          refine g_iload (i := 11) (t := 241) dL_shares_239 rfl rfl ?_
          refine g_iload (i := 14) (t := 243) dL_shares_241 rfl rfl ?_
          refine g_if_eq (t1 := 250) (t2 := 246) dL_shares_243 (by decide) rfl (fun h243 => ?_) (fun h243 => ?_)
          · refine g_iconst (t := 251) dL_shares_250 c_iconst_1 rfl ?_
            refine g_iadd (t := 252) dL_shares_251 rfl ?_
            refine g_top (nI_add _ _) ?_
            refine g_istore (i := 11) (t := 254) (L1 := [_, _, _, _, _, _, _, _, _, _, _, _, _, _, _, _, _, _, _, _, _, _, _, _]) dL_shares_252 (by decide) rfl rfl rfl ?_
            refine g_iinc (i := 12) (t := 257) (L1 := [_, _, _, _, _, _, _, _, _, _, _, _, _, _, _, _, _, _, _, _, _, _, _, _]) dL_shares_254 rfl (gi_1 _) (by decide) rfl rfl rfl ?_
            refine g_goto (t := 125) dL_shares_257 (by decide) ?_
            exact ih
          · exact absurd rfl h243
      cases b with
      | true =>
        refine g_istore (i := 14) (t := 212) (L1 := [_, _, _, _, _, _, _, _, _, _, _, _, _, _, _, _, _, _, _, _, _, _, _, _]) dL_shares_210 (by decide) rfl rfl rfl ?_
        refine g_aload_n (i := 3) (r := z) (t := 213) dL_shares_212 rfl rfl (Or.inl l9_z) rfl ?_
        refine g_iload (i := 13) (t := 215) dL_shares_213 rfl rfl ?_
        refine g_aload_n (i := 0) (r := 41) (t := 216) dL_shares_215 rfl rfl (Or.inl l9_41) rfl ?_
        refine g_iload (i := 13) (t := 218) dL_shares_216 rfl rfl ?_
        refine g_cSp (t := 221) mL_wish k_L_79 smL_wish dL_shares_218 (l_wish (by omega)) rfl rfl (by decide) (by decide) (Nat.le_of_ble_eq_true rfl) rfl hE ?_
        rw [ew]
        refine gm_iast_x (a := z) (n := 48) (t := 222) l6_z l9_z s_z dL_shares_221 rfl (by omega) (by decide) rfl ?_
        refine g_aload_n (i := 3) (r := z) (t := 223) dL_shares_222 rfl rfl (Or.inl l9_z) rfl ?_
        refine g_bipush (t := 225) dL_shares_223 c_bipush_8 rfl ?_
        refine g_iload (i := 13) (t := 227) dL_shares_225 rfl rfl ?_
        refine g_iadd (t := 228) dL_shares_227 rfl ?_
        refine g_iload (i := 14) (t := 230) dL_shares_228 rfl rfl ?_
        refine g_if_eq (t1 := 237) (t2 := 233) dL_shares_230 (by decide) rfl (fun h230 => ?_) (fun h230 => ?_)
        · exact absurd h230 (by decide)
        · refine g_iconst (t := 234) dL_shares_233 c_iconst_0 rfl ?_
          refine g_goto (t := 238) dL_shares_234 (by decide) ?_
          exact T238 _ rfl
      | false =>
        refine g_istore (i := 14) (t := 212) (L1 := [_, _, _, _, _, _, _, _, _, _, _, _, _, _, _, _, _, _, _, _, _, _, _, _]) dL_shares_210 (by decide) rfl rfl rfl ?_
        refine g_aload_n (i := 3) (r := z) (t := 213) dL_shares_212 rfl rfl (Or.inl l9_z) rfl ?_
        refine g_iload (i := 13) (t := 215) dL_shares_213 rfl rfl ?_
        refine g_aload_n (i := 0) (r := 41) (t := 216) dL_shares_215 rfl rfl (Or.inl l9_41) rfl ?_
        refine g_iload (i := 13) (t := 218) dL_shares_216 rfl rfl ?_
        refine g_cSp (t := 221) mL_wish k_L_79 smL_wish dL_shares_218 (l_wish (by omega)) rfl rfl (by decide) (by decide) (Nat.le_of_ble_eq_true rfl) rfl hE ?_
        rw [ew]
        refine gm_iast_x (a := z) (n := 48) (t := 222) l6_z l9_z s_z dL_shares_221 rfl (by omega) (by decide) rfl ?_
        refine g_aload_n (i := 3) (r := z) (t := 223) dL_shares_222 rfl rfl (Or.inl l9_z) rfl ?_
        refine g_bipush (t := 225) dL_shares_223 c_bipush_8 rfl ?_
        refine g_iload (i := 13) (t := 227) dL_shares_225 rfl rfl ?_
        refine g_iadd (t := 228) dL_shares_227 rfl ?_
        refine g_iload (i := 14) (t := 230) dL_shares_228 rfl rfl ?_
        refine g_if_eq (t1 := 237) (t2 := 233) dL_shares_230 (by decide) rfl (fun h230 => ?_) (fun h230 => ?_)
        · refine g_iconst (t := 238) dL_shares_237 c_iconst_m1 rfl ?_
          exact T238 _ rfl
        · exact absurd rfl h230
    have hz0 : nI 0 = 0 := nI_0
    cases g with
    | true =>
      have es : stf S.1.2.1 true (fA S l i) = decide (S.1.2.1 (fA S l i) 1 = 0 ∨ wsh S.1.2.1 (fA S l i) < S.1.2.1 (fA S l i) 0) := rfl
      rw [es] at T210
      refine g_iload (i := 12) (t := 127) dL_shares_125 rfl rfl ?_
      refine g_iload (i := 5) (t := 129) dL_shares_127 rfl rfl ?_
      refine g_icmp_ge_n (t1 := 260) (t2 := 132) dL_shares_129 (by decide) rfl (by omega) (by omega) (fun h129 => ?_) (fun h129 => ?_)
      · exfalso; omega
      · refine g_aload (i := 8) (r := w) (t := 134) dL_shares_132 rfl (Or.inl l9_w) rfl ?_
        refine g_iload (i := 12) (t := 136) dL_shares_134 rfl rfl ?_
        refine gm_iald_x (a := w) (n := 16) (t := 137) l6_w l9_w s_w dL_shares_136 rfl (by omega) (by decide) rfl ?_
        rw [b4 i (by omega)]
        refine g_istore (i := 13) (t := 139) (L1 := [_, _, _, _, _, _, _, _, _, _, _, _, _, _, _, _, _, _, _, _, _, _, _, _]) dL_shares_137 (by decide) rfl rfl rfl ?_
        refine g_iload (i := 10) (t := 141) dL_shares_139 rfl rfl ?_
        refine g_if_eq (t1 := 172) (t2 := 144) dL_shares_141 (by decide) rfl (fun h141 => ?_) (fun h141 => ?_)
        · exact absurd h141 (by decide)
        · refine g_aload_n (i := 0) (r := 41) (t := 145) dL_shares_144 rfl rfl (Or.inl l9_41) rfl ?_
          refine g_bipush (t := 147) dL_shares_145 c_bipush_12 rfl ?_
          refine g_iload (i := 13) (t := 149) dL_shares_147 rfl rfl ?_
          refine g_imul (t := 150) dL_shares_149 rfl ?_
          refine g_iconst (t := 151) dL_shares_150 c_iconst_1 rfl ?_
          refine g_iadd (t := 152) dL_shares_151 rfl ?_
          refine gm_iald_x (a := 41) (n := 64) (t := 153) l6_41 l9_41 s_41 dL_shares_152 (ix_ma _ _ _) (by omega) (by decide) rfl ?_
          rw [e1]
          refine g_if_eq (t1 := 205) (t2 := 156) dL_shares_153 (by decide) rfl (fun h153 => ?_) (fun h153 => ?_)
          · refine g_iconst (t := 206) dL_shares_205 c_iconst_1 rfl ?_
            refine g_goto (t := 210) dL_shares_206 (by decide) ?_
            first
            | exact T210 true (by rw [decide_eq_true (Or.inl h153)])
            | exact T210 true (by rw [decide_eq_true (Or.inr h169)])
            | exact T210 false (by rw [decide_eq_false (fun q => q.elim h153 (fun y => h169 y))])
            | done
          · refine g_aload_n (i := 0) (r := 41) (t := 157) dL_shares_156 rfl rfl (Or.inl l9_41) rfl ?_
            refine g_bipush (t := 159) dL_shares_157 c_bipush_12 rfl ?_
            refine g_iload (i := 13) (t := 161) dL_shares_159 rfl rfl ?_
            refine g_imul (t := 162) dL_shares_161 rfl ?_
            refine gm_iald_x (a := 41) (n := 64) (t := 163) l6_41 l9_41 s_41 dL_shares_162 (ix_m _ _) (by omega) (by decide) rfl ?_
            rw [e0]
            refine g_aload_n (i := 0) (r := 41) (t := 164) dL_shares_163 rfl rfl (Or.inl l9_41) rfl ?_
            refine g_iload (i := 13) (t := 166) dL_shares_164 rfl rfl ?_
            refine g_cSp (t := 169) mL_wish k_L_79 smL_wish dL_shares_166 (l_wish (by omega)) rfl rfl (by decide) (by decide) (Nat.le_of_ble_eq_true rfl) rfl hE ?_
            rw [ew]
            refine g_icmp_gt (t1 := 205) (t2 := 172) dL_shares_169 (by decide) rfl (fun h169 => ?_) (fun h169 => ?_)
            · refine g_iconst (t := 206) dL_shares_205 c_iconst_1 rfl ?_
              refine g_goto (t := 210) dL_shares_206 (by decide) ?_
              first
              | exact T210 true (by rw [decide_eq_true (Or.inl h153)])
              | exact T210 true (by rw [decide_eq_true (Or.inr h169)])
              | exact T210 false (by rw [decide_eq_false (fun q => q.elim h153 (fun y => h169 y))])
              | done
            · refine g_iload (i := 10) (t := 174) dL_shares_172 rfl rfl ?_
              refine g_if_ne (t1 := 209) (t2 := 177) dL_shares_174 (by decide) rfl (fun h174 => ?_) (fun h174 => ?_)
              · refine g_iconst (t := 210) dL_shares_209 c_iconst_0 rfl ?_
                first
                | exact T210 true (by rw [decide_eq_true (Or.inl h153)])
                | exact T210 true (by rw [decide_eq_true (Or.inr h169)])
                | exact T210 false (by rw [decide_eq_false (fun q => q.elim h153 (fun y => h169 y))])
                | done
              · exact absurd (show bI true = 0 from h174) (by decide)
    | false =>
      have es : stf S.1.2.1 false (fA S l i) = decide (S.1.2.1 (fA S l i) 2 = 0 ∨ S.1.2.1 (fA S l i) 0 < wsh S.1.2.1 (fA S l i)) := rfl
      rw [es] at T210
      refine g_iload (i := 12) (t := 127) dL_shares_125 rfl rfl ?_
      refine g_iload (i := 5) (t := 129) dL_shares_127 rfl rfl ?_
      refine g_icmp_ge_n (t1 := 260) (t2 := 132) dL_shares_129 (by decide) rfl (by omega) (by omega) (fun h129 => ?_) (fun h129 => ?_)
      · exfalso; omega
      · refine g_aload (i := 8) (r := w) (t := 134) dL_shares_132 rfl (Or.inl l9_w) rfl ?_
        refine g_iload (i := 12) (t := 136) dL_shares_134 rfl rfl ?_
        refine gm_iald_x (a := w) (n := 16) (t := 137) l6_w l9_w s_w dL_shares_136 rfl (by omega) (by decide) rfl ?_
        rw [b4 i (by omega)]
        refine g_istore (i := 13) (t := 139) (L1 := [_, _, _, _, _, _, _, _, _, _, _, _, _, _, _, _, _, _, _, _, _, _, _, _]) dL_shares_137 (by decide) rfl rfl rfl ?_
        refine g_iload (i := 10) (t := 141) dL_shares_139 rfl rfl ?_
        refine g_if_eq (t1 := 172) (t2 := 144) dL_shares_141 (by decide) rfl (fun h141 => ?_) (fun h141 => ?_)
        · refine g_iload (i := 10) (t := 174) dL_shares_172 rfl rfl ?_
          refine g_if_ne (t1 := 209) (t2 := 177) dL_shares_174 (by decide) rfl (fun h174 => ?_) (fun h174 => ?_)
          · exact absurd rfl h174
          · refine g_aload_n (i := 0) (r := 41) (t := 178) dL_shares_177 rfl rfl (Or.inl l9_41) rfl ?_
            refine g_bipush (t := 180) dL_shares_178 c_bipush_12 rfl ?_
            refine g_iload (i := 13) (t := 182) dL_shares_180 rfl rfl ?_
            refine g_imul (t := 183) dL_shares_182 rfl ?_
            refine g_iconst (t := 184) dL_shares_183 c_iconst_2 rfl ?_
            refine g_iadd (t := 185) dL_shares_184 rfl ?_
            refine gm_iald_x (a := 41) (n := 64) (t := 186) l6_41 l9_41 s_41 dL_shares_185 (ix_ma _ _ _) (by omega) (by decide) rfl ?_
            rw [e2]
            refine g_if_eq (t1 := 205) (t2 := 189) dL_shares_186 (by decide) rfl (fun h186 => ?_) (fun h186 => ?_)
            · refine g_iconst (t := 206) dL_shares_205 c_iconst_1 rfl ?_
              refine g_goto (t := 210) dL_shares_206 (by decide) ?_
              first
              | exact T210 true (by rw [decide_eq_true (Or.inl h186)])
              | exact T210 true (by rw [decide_eq_true (Or.inr (Int32.not_le.mp h202))])
              | exact T210 false (by rw [decide_eq_false (fun q => q.elim h186 (fun y => absurd y (Int32.not_lt.mpr h202)))])
              | done
            · refine g_aload_n (i := 0) (r := 41) (t := 190) dL_shares_189 rfl rfl (Or.inl l9_41) rfl ?_
              refine g_bipush (t := 192) dL_shares_190 c_bipush_12 rfl ?_
              refine g_iload (i := 13) (t := 194) dL_shares_192 rfl rfl ?_
              refine g_imul (t := 195) dL_shares_194 rfl ?_
              refine gm_iald_x (a := 41) (n := 64) (t := 196) l6_41 l9_41 s_41 dL_shares_195 (ix_m _ _) (by omega) (by decide) rfl ?_
              rw [e0]
              refine g_aload_n (i := 0) (r := 41) (t := 197) dL_shares_196 rfl rfl (Or.inl l9_41) rfl ?_
              refine g_iload (i := 13) (t := 199) dL_shares_197 rfl rfl ?_
              refine g_cSp (t := 202) mL_wish k_L_79 smL_wish dL_shares_199 (l_wish (by omega)) rfl rfl (by decide) (by decide) (Nat.le_of_ble_eq_true rfl) rfl hE ?_
              rw [ew]
              refine g_icmp_ge (t1 := 209) (t2 := 205) dL_shares_202 (by decide) rfl (fun h202 => ?_) (fun h202 => ?_)
              · refine g_iconst (t := 210) dL_shares_209 c_iconst_0 rfl ?_
                first
                | exact T210 true (by rw [decide_eq_true (Or.inl h186)])
                | exact T210 true (by rw [decide_eq_true (Or.inr (Int32.not_le.mp h202))])
                | exact T210 false (by rw [decide_eq_false (fun q => q.elim h186 (fun y => absurd y (Int32.not_lt.mpr h202)))])
                | done
              · refine g_iconst (t := 206) dL_shares_205 c_iconst_1 rfl ?_
                refine g_goto (t := 210) dL_shares_206 (by decide) ?_
                first
                | exact T210 true (by rw [decide_eq_true (Or.inl h186)])
                | exact T210 true (by rw [decide_eq_true (Or.inr (Int32.not_le.mp h202))])
                | exact T210 false (by rw [decide_eq_false (fun q => q.elim h186 (fun y => absurd y (Int32.not_lt.mpr h202)))])
                | done
        · exact absurd rfl h141
end SHR2

