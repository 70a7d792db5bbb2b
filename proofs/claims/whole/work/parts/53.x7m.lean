/-! FlexRowsModel: a line's sizes -/
section X7M
variable {E : gE} {I : Nat → Nat → Int32} {h : Int64} {s : sS} {A : lA} {l : Nat}
theorem x7_sz_room {I0 : Nat → Nat → Int32} {r : Int32} {w2 : Int32} (hB : mB I0 s A l) {K : gK} : ∀ (d k : Nat) (I : Nat → Nat → Int32), k + d = A.2.2 → gSame [54] I0 I → oneN I I0 54 l (sbS r (fun p => nI 2 * A.1.1 (A.1.2.2.2 p) 5) A.2.1 k) →
    (∀ I v4, gSame [54] I0 I → oneN I I0 54 l (sbS r (fun p => nI 2 * A.1.1 (A.1.2.2.2 p) 5) A.2.1 A.2.2) → Wp E fX7_sizes 62 96 [.ref 41, .int (nI l), .int w2, .int (smS (fun p => wsh A.1.1 (A.1.2.2.2 p)) A.2.1 A.2.2), v4, .null] [] (gM I h) K) →
    Wp E fX7_sizes 62 42 [.ref 41, .int (nI l), .int w2, .int (smS (fun p => wsh A.1.1 (A.1.2.2.2 p)) A.2.1 k), .int (nI (A.2.1 + k)), .null] [] (gM I h) K := by
  have ⟨b1, b2, b3, b4, b5, b6, b7, b8, b9⟩ := hB
  intro d
  induction d with
  | zero =>
    intro k I hk hs ho kk
    have hk : k = A.2.2 := by omega
    subst hk
    refine g_iload (i := 4) (t := 44) dX7_sizes_42 rfl rfl ?_
    refine g_aload_n (i := 0) (r := 41) (t := 45) dX7_sizes_44 rfl rfl (Or.inl l9_41) rfl ?_
    refine gm_getR (o := 41) (ci := 7) (k := 12) (r := 49) (t := 48) l6_41 l9_41 s_41 gf_X7_31 rfl r_41_12 l9_49 dX7_sizes_45 rfl ?_
    refine g_iload_n (i := 1) (t := 49) dX7_sizes_48 rfl rfl rfl ?_
    refine gm_iald_n (a := 49) (n := 16) (t := 50) l6_49 l9_49 s_49 dX7_sizes_49 (by omega) (by decide) rfl ?_
    rw [show I 49 l = nI (A.2.1 + A.2.2) by rw [hs.at 49 rfl]; exact b5]
    refine g_icmp_ge_n (t1 := 96) (t2 := 53) dX7_sizes_50 (by decide) rfl (by omega) (by omega) (fun h50 => ?_) (fun h50 => ?_)
    · exact kk I _ hs ho
    · exfalso; omega
  | succ d ih =>
    intro k I hk hs ho kk
    obtain ⟨x1, x2⟩ := b7 (A.2.1 + k) (by omega) (by omega)
    have bI1 := b1.keep (hs.at 42 rfl)
    have i46 : I 46 (A.2.1 + k) = nI (A.1.2.2.2 (A.2.1 + k)) := by rw [hs.at 46 rfl]; exact x1
    refine g_iload (i := 4) (t := 44) dX7_sizes_42 rfl rfl ?_
    refine g_aload_n (i := 0) (r := 41) (t := 45) dX7_sizes_44 rfl rfl (Or.inl l9_41) rfl ?_
    refine gm_getR (o := 41) (ci := 7) (k := 12) (r := 49) (t := 48) l6_41 l9_41 s_41 gf_X7_31 rfl r_41_12 l9_49 dX7_sizes_45 rfl ?_
    refine g_iload_n (i := 1) (t := 49) dX7_sizes_48 rfl rfl rfl ?_
    refine gm_iald_n (a := 49) (n := 16) (t := 50) l6_49 l9_49 s_49 dX7_sizes_49 (by omega) (by decide) rfl ?_
    rw [show I 49 l = nI (A.2.1 + A.2.2) by rw [hs.at 49 rfl]; exact b5]
    refine g_icmp_ge_n (t1 := 96) (t2 := 53) dX7_sizes_50 (by decide) rfl (by omega) (by omega) (fun h50 => ?_) (fun h50 => ?_)
    · exfalso; omega
    · refine g_iload_n (i := 3) (t := 54) dX7_sizes_53 rfl rfl rfl ?_
      refine g_aload_n (i := 0) (r := 41) (t := 55) dX7_sizes_54 rfl rfl (Or.inl l9_41) rfl ?_
      refine g_aload_n (i := 0) (r := 41) (t := 56) dX7_sizes_55 rfl rfl (Or.inl l9_41) rfl ?_
      refine gm_getR (o := 41) (ci := 7) (k := 8) (r := 46) (t := 59) l6_41 l9_41 s_41 gf_X7_22 rfl r_41_8 l9_46 dX7_sizes_56 rfl ?_
      refine g_iload (i := 4) (t := 61) dX7_sizes_59 rfl rfl ?_
      refine gm_iald_n (a := 46) (n := 16) (t := 62) l6_46 l9_46 s_46 dX7_sizes_61 (by omega) (by decide) rfl ?_
      rw [i46]
      refine g_cVp (o := 41) (t := 65) mX7_wish k_X7_179 imX7_wish seX7_wish l6_41 l9_41 s_41 rfl dX7_sizes_62 (x7_wish bI1 b2 x2) rfl rfl (by decide) (by decide) (Nat.le_of_ble_eq_true rfl) rfl ?_
      refine g_iadd (t := 66) dX7_sizes_65 rfl ?_
      refine g_top (y := smS (fun p => wsh A.1.1 (A.1.2.2.2 p)) A.2.1 (k + 1)) (by rw [smS, b8]) ?_
      refine g_istore_n (i := 3) (t := 67) (L1 := [_, _, _, _, _, _]) dX7_sizes_66 rfl (by decide) rfl rfl rfl ?_
      refine g_aload_n (i := 0) (r := 41) (t := 68) dX7_sizes_67 rfl rfl (Or.inl l9_41) rfl ?_
      refine gm_getR (o := 41) (ci := 7) (k := 18) (r := 54) (t := 71) l6_41 l9_41 s_41 gf_X7_47 rfl r_41_18 l9_54 dX7_sizes_68 rfl ?_
      refine g_iload_n (i := 1) (t := 72) dX7_sizes_71 rfl rfl rfl ?_
      refine g_dup2 (t := 73) dX7_sizes_72 rfl rfl rfl ?_
      refine gm_iald_n (a := 54) (n := 16) (t := 74) l6_54 l9_54 s_54 dX7_sizes_73 (by omega) (by decide) rfl ?_
      rw [ho.at]
      refine g_iconst (t := 75) dX7_sizes_74 c_iconst_2 rfl ?_
      refine g_aload_n (i := 0) (r := 41) (t := 76) dX7_sizes_75 rfl rfl (Or.inl l9_41) rfl ?_
      refine g_aload_n (i := 0) (r := 41) (t := 77) dX7_sizes_76 rfl rfl (Or.inl l9_41) rfl ?_
      refine gm_getR (o := 41) (ci := 7) (k := 8) (r := 46) (t := 80) l6_41 l9_41 s_41 gf_X7_22 rfl r_41_8 l9_46 dX7_sizes_77 rfl ?_
      refine g_iload (i := 4) (t := 82) dX7_sizes_80 rfl rfl ?_
      refine gm_iald_n (a := 46) (n := 16) (t := 83) l6_46 l9_46 s_46 dX7_sizes_82 (by omega) (by decide) rfl ?_
      rw [i46]
      refine g_iconst (t := 84) dX7_sizes_83 c_iconst_5 rfl ?_
      refine g_cVp (o := 41) (t := 87) mX7_of k_X7_157 imX7_of seX7_of l6_41 l9_41 s_41 rfl dX7_sizes_84 (x7_of (by omega) (by omega)) rfl rfl (by decide) (by decide) (Nat.le_of_ble_eq_true rfl) rfl ?_
      refine g_imul (t := 88) dX7_sizes_87 rfl ?_
      refine g_isub (t := 89) dX7_sizes_88 rfl ?_
      refine g_top (y := sbS r (fun p => nI 2 * A.1.1 (A.1.2.2.2 p) 5) A.2.1 (k + 1)) (by rw [sbS, bI1.2.1 _ 5 x2 (by decide), b8]) ?_
      refine gm_iast_n (a := 54) (n := 16) (t := 90) l6_54 l9_54 s_54 dX7_sizes_89 (by omega) (by decide) rfl ?_
      refine g_iinc (i := 4) (t := 93) (L1 := [_, _, _, _, _, _]) dX7_sizes_90 rfl (gi_1 _) (by decide) rfl rfl rfl ?_
      refine g_goto (t := 42) dX7_sizes_93 (by decide) ?_
      exact ih (k + 1) _ (by omega) (hs.up rfl) ho.two kk
theorem x7_sz_fr {I0 : Nat → Nat → Int32} {w2 w3 : Int32} (hB : mB I0 s A l) (hg : I0 57 l = bI (grL A)) {K : gK} : ∀ (d k : Nat) (I : Nat → Nat → Int32) (v5 : Value), k + d = A.2.2 → gSame [50, 52, 53] I0 I → strN I I0 50 A.2.1 (A.2.1 + k) (zL0 A).2 → strN I I0 52 A.2.1 (A.2.1 + k) (fun _ => nI 0) → strN I I0 53 A.2.1 (A.2.1 + k) (fun p => bI ((zL0 A).1 p).isSome) →
    (∀ I L1, gSame [50, 52, 53] I0 I → strN I I0 50 A.2.1 (A.2.1 + A.2.2) (zL0 A).2 → strN I I0 52 A.2.1 (A.2.1 + A.2.2) (fun _ => nI 0) → strN I I0 53 A.2.1 (A.2.1 + A.2.2) (fun p => bI ((zL0 A).1 p).isSome) → Wp E fX7_sizes 62 253 ([.ref 41, .int (nI l), .int w2, .int w3] ++ L1) [] (gM I h) K) →
    Wp E fX7_sizes 62 125 [.ref 41, .int (nI l), .int w2, .int w3, .int (nI (A.2.1 + k)), v5] [] (gM I h) K := by
  have ⟨b1, b2, b3, b4, b5, b6, b7, b8, b9⟩ := hB
  intro d
  induction d with
  | zero =>
    intro k I v5 hk hs s50 s52 s53 kk
    have hk : k = A.2.2 := by omega
    subst hk
    refine g_iload (i := 4) (t := 127) dX7_sizes_125 rfl rfl ?_
    refine g_aload_n (i := 0) (r := 41) (t := 128) dX7_sizes_127 rfl rfl (Or.inl l9_41) rfl ?_
    refine gm_getR (o := 41) (ci := 7) (k := 12) (r := 49) (t := 131) l6_41 l9_41 s_41 gf_X7_31 rfl r_41_12 l9_49 dX7_sizes_128 rfl ?_
    refine g_iload_n (i := 1) (t := 132) dX7_sizes_131 rfl rfl rfl ?_
    refine gm_iald_n (a := 49) (n := 16) (t := 133) l6_49 l9_49 s_49 dX7_sizes_132 (by omega) (by decide) rfl ?_
    rw [show I 49 l = nI (A.2.1 + A.2.2) by rw [hs.at 49 rfl]; exact b5]
    refine g_icmp_ge_n (t1 := 253) (t2 := 136) dX7_sizes_133 (by decide) rfl (by omega) (by omega) (fun h133 => ?_) (fun h133 => ?_)
    · exact kk I [_, _] hs s50 s52 s53
    · exfalso; omega
  | succ d ih =>
    intro k I v5 hk hs s50 s52 s53 kk
    obtain ⟨x1, x2⟩ := b7 (A.2.1 + k) (by omega) (by omega)
    have bI1 := b1.keep (hs.at 42 rfl)
    have i46 : I 46 (A.2.1 + k) = nI (A.1.2.2.2 (A.2.1 + k)) := by rw [hs.at 46 rfl]; exact x1
    have i57 : I 57 l = bI (grL A) := by rw [hs.at 57 rfl]; exact hg
    have est : ((zL0 A).1 (A.2.1 + k)).isSome = stf s.2.1 (grL A) (A.1.2.2.2 (A.2.1 + k)) := by
      show (if stf A.1.1 (grL A) (A.1.2.2.2 (A.2.1 + k)) then some 0 else none : Option Nat).isSome = _
      rw [b8]
      cases stf s.2.1 (grL A) (A.1.2.2.2 (A.2.1 + k)) <;> rfl
    have T225 : ∀ b : Bool, stf s.2.1 (grL A) (A.1.2.2.2 (A.2.1 + k)) = b → Wp E fX7_sizes 62 225 [.ref 41, .int (nI l), .int w2, .int w3, .int (nI (A.2.1 + k)), .int (nI (A.1.2.2.2 (A.2.1 + k)))] [.int (bI b), .int (nI (A.2.1 + k)), .ref 53] (gM I h) K := by
      intro b hb
      refine gm_zast_n (a := 53) (n := 16) (t := 226) l6_53 l9_53 s_53 (by cases b <;> decide +kernel) dX7_sizes_225 (by omega) (by decide) rfl ?_
      refine g_aload_n (i := 0) (r := 41) (t := 227) dX7_sizes_226 rfl rfl (Or.inl l9_41) rfl ?_
      refine gm_getR (o := 41) (ci := 7) (k := 14) (r := 50) (t := 230) l6_41 l9_41 s_41 gf_X7_34 rfl r_41_14 l9_50 dX7_sizes_227 rfl ?_
      refine g_iload (i := 4) (t := 232) dX7_sizes_230 rfl rfl ?_
      refine g_aload_n (i := 0) (r := 41) (t := 233) dX7_sizes_232 rfl rfl (Or.inl l9_41) rfl ?_
      refine g_iload (i := 5) (t := 235) dX7_sizes_233 rfl rfl ?_
      refine g_cVp (o := 41) (t := 238) mX7_wish k_X7_179 imX7_wish seX7_wish l6_41 l9_41 s_41 rfl dX7_sizes_235 (x7_wish (bI1.keep (gup_rowo _ _ _ (by decide))) b2 x2) rfl rfl (by decide) (by decide) (Nat.le_of_ble_eq_true rfl) rfl ?_
      refine gm_iast_n (a := 50) (n := 16) (t := 239) l6_50 l9_50 s_50 dX7_sizes_238 (by omega) (by decide) rfl ?_
      refine g_aload_n (i := 0) (r := 41) (t := 240) dX7_sizes_239 rfl rfl (Or.inl l9_41) rfl ?_
      refine gm_getR (o := 41) (ci := 7) (k := 16) (r := 52) (t := 243) l6_41 l9_41 s_41 gf_X7_40 rfl r_41_16 l9_52 dX7_sizes_240 rfl ?_
      refine g_iload (i := 4) (t := 245) dX7_sizes_243 rfl rfl ?_
      refine g_iconst (t := 246) dX7_sizes_245 c_iconst_0 rfl ?_
      refine gm_iast_n (a := 52) (n := 16) (t := 247) l6_52 l9_52 s_52 dX7_sizes_246 (by omega) (by decide) rfl ?_
      refine g_iinc (i := 4) (t := 250) (L1 := [_, _, _, _, _, _]) dX7_sizes_247 rfl (gi_1 _) (by decide) rfl rfl rfl ?_
      refine g_goto (t := 125) dX7_sizes_250 (by decide) ?_
      refine ih (k + 1) _ _ (by omega) (((hs.up rfl).up rfl).up rfl) ?_ ?_ ?_ kk
      · exact ((s50.keep (gup_rowo _ _ _ (by decide))).next (Nat.le_add_right _ _) (by rw [← b8]; rfl)).keep (gup_rowo _ _ _ (by decide))
      · exact ((s52.keep (gup_rowo _ _ _ (by decide))).keep (gup_rowo _ _ _ (by decide))).next (Nat.le_add_right _ _) rfl
      · exact ((s53.next (Nat.le_add_right _ _) (by rw [est, hb])).keep (gup_rowo _ _ _ (by decide))).keep (gup_rowo _ _ _ (by decide))
    have q0 := bI1.2.1 _ 0 x2 (by decide)
    have q1 := bI1.2.1 _ 1 x2 (by decide)
    have q2 := bI1.2.1 _ 2 x2 (by decide)
    refine g_iload (i := 4) (t := 127) dX7_sizes_125 rfl rfl ?_
    refine g_aload_n (i := 0) (r := 41) (t := 128) dX7_sizes_127 rfl rfl (Or.inl l9_41) rfl ?_
    refine gm_getR (o := 41) (ci := 7) (k := 12) (r := 49) (t := 131) l6_41 l9_41 s_41 gf_X7_31 rfl r_41_12 l9_49 dX7_sizes_128 rfl ?_
    refine g_iload_n (i := 1) (t := 132) dX7_sizes_131 rfl rfl rfl ?_
    refine gm_iald_n (a := 49) (n := 16) (t := 133) l6_49 l9_49 s_49 dX7_sizes_132 (by omega) (by decide) rfl ?_
    rw [show I 49 l = nI (A.2.1 + A.2.2) by rw [hs.at 49 rfl]; exact b5]
    refine g_icmp_ge_n (t1 := 253) (t2 := 136) dX7_sizes_133 (by decide) rfl (by omega) (by omega) (fun h133 => ?_) (fun h133 => ?_)
    · exfalso; omega
    · refine g_aload_n (i := 0) (r := 41) (t := 137) dX7_sizes_136 rfl rfl (Or.inl l9_41) rfl ?_
      refine gm_getR (o := 41) (ci := 7) (k := 8) (r := 46) (t := 140) l6_41 l9_41 s_41 gf_X7_22 rfl r_41_8 l9_46 dX7_sizes_137 rfl ?_
      refine g_iload (i := 4) (t := 142) dX7_sizes_140 rfl rfl ?_
      refine gm_iald_n (a := 46) (n := 16) (t := 143) l6_46 l9_46 s_46 dX7_sizes_142 (by omega) (by decide) rfl ?_
      rw [i46]
      refine g_istore (i := 5) (t := 145) (L1 := [_, _, _, _, _, _]) dX7_sizes_143 (by decide) rfl rfl rfl ?_
      refine g_aload_n (i := 0) (r := 41) (t := 146) dX7_sizes_145 rfl rfl (Or.inl l9_41) rfl ?_
      refine gm_getR (o := 41) (ci := 7) (k := 17) (r := 53) (t := 149) l6_41 l9_41 s_41 gf_X7_43 rfl r_41_17 l9_53 dX7_sizes_146 rfl ?_
      refine g_iload (i := 4) (t := 151) dX7_sizes_149 rfl rfl ?_
      refine g_aload_n (i := 0) (r := 41) (t := 152) dX7_sizes_151 rfl rfl (Or.inl l9_41) rfl ?_
      refine gm_getR (o := 41) (ci := 7) (k := 21) (r := 57) (t := 155) l6_41 l9_41 s_41 gf_X7_56 rfl r_41_21 l9_57 dX7_sizes_152 rfl ?_
      refine g_iload_n (i := 1) (t := 156) dX7_sizes_155 rfl rfl rfl ?_
      refine gm_zald_n (a := 57) (n := 16) (t := 157) l6_57 l9_57 s_57 dX7_sizes_156 (by omega) (by decide) rfl ?_
      rw [i57]
      refine g_if_eq (t1 := 194) (t2 := 160) dX7_sizes_157 (by decide) rfl (fun h157 => ?_) (fun h157 => ?_)
      · refine g_aload_n (i := 0) (r := 41) (t := 195) dX7_sizes_194 rfl rfl (Or.inl l9_41) rfl ?_
        refine g_iload (i := 5) (t := 197) dX7_sizes_195 rfl rfl ?_
        refine g_iconst (t := 198) dX7_sizes_197 c_iconst_2 rfl ?_
        refine g_cVp (o := 41) (t := 201) mX7_of k_X7_157 imX7_of seX7_of l6_41 l9_41 s_41 rfl dX7_sizes_198 (x7_of (by omega) (by omega)) rfl rfl (by decide) (by decide) (Nat.le_of_ble_eq_true rfl) rfl ?_
        rw [q2]
        refine g_if_eq (t1 := 220) (t2 := 204) dX7_sizes_201 (by decide) rfl (fun h201 => ?_) (fun h201 => ?_)
        · refine g_iconst (t := 221) dX7_sizes_220 c_iconst_1 rfl ?_
          refine g_goto (t := 225) dX7_sizes_221 (by decide) ?_
          first
          | (refine T225 true ?_
             unfold stf
             first
             | (rw [if_pos (bI_n0 h157)]; exact decide_eq_true (Or.inl h167))
             | (rw [if_pos (bI_n0 h157)]; exact decide_eq_true (Or.inr (i_gt h183)))
             | (rw [if_neg (by rw [bI_0 h157]; decide)]; exact decide_eq_true (Or.inl h201))
             | (rw [if_neg (by rw [bI_0 h157]; decide)]; exact decide_eq_true (Or.inr (i_gt h217))))
          | (refine T225 false ?_
             unfold stf
             first
             | (rw [if_pos (bI_n0 h157)]; exact decide_eq_false (fun u => u.elim h167 (fun y => absurd y (i_nlt h183))))
             | (rw [if_neg (by rw [bI_0 h157]; decide)]; exact decide_eq_false (fun u => u.elim h201 (fun y => absurd y (i_nlt h217)))))
        · refine g_aload_n (i := 0) (r := 41) (t := 205) dX7_sizes_204 rfl rfl (Or.inl l9_41) rfl ?_
          refine g_iload (i := 5) (t := 207) dX7_sizes_205 rfl rfl ?_
          refine g_iconst (t := 208) dX7_sizes_207 c_iconst_0 rfl ?_
          refine g_cVp (o := 41) (t := 211) mX7_of k_X7_157 imX7_of seX7_of l6_41 l9_41 s_41 rfl dX7_sizes_208 (x7_of (by omega) (by omega)) rfl rfl (by decide) (by decide) (Nat.le_of_ble_eq_true rfl) rfl ?_
          refine g_aload_n (i := 0) (r := 41) (t := 212) dX7_sizes_211 rfl rfl (Or.inl l9_41) rfl ?_
          refine g_iload (i := 5) (t := 214) dX7_sizes_212 rfl rfl ?_
          refine g_cVp (o := 41) (t := 217) mX7_wish k_X7_179 imX7_wish seX7_wish l6_41 l9_41 s_41 rfl dX7_sizes_214 (x7_wish bI1 b2 x2) rfl rfl (by decide) (by decide) (Nat.le_of_ble_eq_true rfl) rfl ?_
          rw [q0]
          refine g_icmp_ge (t1 := 224) (t2 := 220) dX7_sizes_217 (by decide) rfl (fun h217 => ?_) (fun h217 => ?_)
          · refine g_iconst (t := 225) dX7_sizes_224 c_iconst_0 rfl ?_
            first
            | (refine T225 true ?_
               unfold stf
               first
               | (rw [if_pos (bI_n0 h157)]; exact decide_eq_true (Or.inl h167))
               | (rw [if_pos (bI_n0 h157)]; exact decide_eq_true (Or.inr (i_gt h183)))
               | (rw [if_neg (by rw [bI_0 h157]; decide)]; exact decide_eq_true (Or.inl h201))
               | (rw [if_neg (by rw [bI_0 h157]; decide)]; exact decide_eq_true (Or.inr (i_gt h217))))
            | (refine T225 false ?_
               unfold stf
               first
               | (rw [if_pos (bI_n0 h157)]; exact decide_eq_false (fun u => u.elim h167 (fun y => absurd y (i_nlt h183))))
               | (rw [if_neg (by rw [bI_0 h157]; decide)]; exact decide_eq_false (fun u => u.elim h201 (fun y => absurd y (i_nlt h217)))))
          · refine g_iconst (t := 221) dX7_sizes_220 c_iconst_1 rfl ?_
            refine g_goto (t := 225) dX7_sizes_221 (by decide) ?_
            first
            | (refine T225 true ?_
               unfold stf
               first
               | (rw [if_pos (bI_n0 h157)]; exact decide_eq_true (Or.inl h167))
               | (rw [if_pos (bI_n0 h157)]; exact decide_eq_true (Or.inr (i_gt h183)))
               | (rw [if_neg (by rw [bI_0 h157]; decide)]; exact decide_eq_true (Or.inl h201))
               | (rw [if_neg (by rw [bI_0 h157]; decide)]; exact decide_eq_true (Or.inr (i_gt h217))))
            | (refine T225 false ?_
               unfold stf
               first
               | (rw [if_pos (bI_n0 h157)]; exact decide_eq_false (fun u => u.elim h167 (fun y => absurd y (i_nlt h183))))
               | (rw [if_neg (by rw [bI_0 h157]; decide)]; exact decide_eq_false (fun u => u.elim h201 (fun y => absurd y (i_nlt h217)))))
      · refine g_aload_n (i := 0) (r := 41) (t := 161) dX7_sizes_160 rfl rfl (Or.inl l9_41) rfl ?_
        refine g_iload (i := 5) (t := 163) dX7_sizes_161 rfl rfl ?_
        refine g_iconst (t := 164) dX7_sizes_163 c_iconst_1 rfl ?_
        refine g_cVp (o := 41) (t := 167) mX7_of k_X7_157 imX7_of seX7_of l6_41 l9_41 s_41 rfl dX7_sizes_164 (x7_of (by omega) (by omega)) rfl rfl (by decide) (by decide) (Nat.le_of_ble_eq_true rfl) rfl ?_
        rw [q1]
        refine g_if_eq (t1 := 186) (t2 := 170) dX7_sizes_167 (by decide) rfl (fun h167 => ?_) (fun h167 => ?_)
        · refine g_iconst (t := 187) dX7_sizes_186 c_iconst_1 rfl ?_
          refine g_goto (t := 225) dX7_sizes_187 (by decide) ?_
          first
          | (refine T225 true ?_
             unfold stf
             first
             | (rw [if_pos (bI_n0 h157)]; exact decide_eq_true (Or.inl h167))
             | (rw [if_pos (bI_n0 h157)]; exact decide_eq_true (Or.inr (i_gt h183)))
             | (rw [if_neg (by rw [bI_0 h157]; decide)]; exact decide_eq_true (Or.inl h201))
             | (rw [if_neg (by rw [bI_0 h157]; decide)]; exact decide_eq_true (Or.inr (i_gt h217))))
          | (refine T225 false ?_
             unfold stf
             first
             | (rw [if_pos (bI_n0 h157)]; exact decide_eq_false (fun u => u.elim h167 (fun y => absurd y (i_nlt h183))))
             | (rw [if_neg (by rw [bI_0 h157]; decide)]; exact decide_eq_false (fun u => u.elim h201 (fun y => absurd y (i_nlt h217)))))
        · refine g_aload_n (i := 0) (r := 41) (t := 171) dX7_sizes_170 rfl rfl (Or.inl l9_41) rfl ?_
          refine g_iload (i := 5) (t := 173) dX7_sizes_171 rfl rfl ?_
          refine g_iconst (t := 174) dX7_sizes_173 c_iconst_0 rfl ?_
          refine g_cVp (o := 41) (t := 177) mX7_of k_X7_157 imX7_of seX7_of l6_41 l9_41 s_41 rfl dX7_sizes_174 (x7_of (by omega) (by omega)) rfl rfl (by decide) (by decide) (Nat.le_of_ble_eq_true rfl) rfl ?_
          refine g_aload_n (i := 0) (r := 41) (t := 178) dX7_sizes_177 rfl rfl (Or.inl l9_41) rfl ?_
          refine g_iload (i := 5) (t := 180) dX7_sizes_178 rfl rfl ?_
          refine g_cVp (o := 41) (t := 183) mX7_wish k_X7_179 imX7_wish seX7_wish l6_41 l9_41 s_41 rfl dX7_sizes_180 (x7_wish bI1 b2 x2) rfl rfl (by decide) (by decide) (Nat.le_of_ble_eq_true rfl) rfl ?_
          rw [q0]
          refine g_icmp_le (t1 := 190) (t2 := 186) dX7_sizes_183 (by decide) rfl (fun h183 => ?_) (fun h183 => ?_)
          · refine g_iconst (t := 191) dX7_sizes_190 c_iconst_0 rfl ?_
            refine g_goto (t := 225) dX7_sizes_191 (by decide) ?_
            first
            | (refine T225 true ?_
               unfold stf
               first
               | (rw [if_pos (bI_n0 h157)]; exact decide_eq_true (Or.inl h167))
               | (rw [if_pos (bI_n0 h157)]; exact decide_eq_true (Or.inr (i_gt h183)))
               | (rw [if_neg (by rw [bI_0 h157]; decide)]; exact decide_eq_true (Or.inl h201))
               | (rw [if_neg (by rw [bI_0 h157]; decide)]; exact decide_eq_true (Or.inr (i_gt h217))))
            | (refine T225 false ?_
               unfold stf
               first
               | (rw [if_pos (bI_n0 h157)]; exact decide_eq_false (fun u => u.elim h167 (fun y => absurd y (i_nlt h183))))
               | (rw [if_neg (by rw [bI_0 h157]; decide)]; exact decide_eq_false (fun u => u.elim h201 (fun y => absurd y (i_nlt h217)))))
          · refine g_iconst (t := 187) dX7_sizes_186 c_iconst_1 rfl ?_
            refine g_goto (t := 225) dX7_sizes_187 (by decide) ?_
            first
            | (refine T225 true ?_
               unfold stf
               first
               | (rw [if_pos (bI_n0 h157)]; exact decide_eq_true (Or.inl h167))
               | (rw [if_pos (bI_n0 h157)]; exact decide_eq_true (Or.inr (i_gt h183)))
               | (rw [if_neg (by rw [bI_0 h157]; decide)]; exact decide_eq_true (Or.inl h201))
               | (rw [if_neg (by rw [bI_0 h157]; decide)]; exact decide_eq_true (Or.inr (i_gt h217))))
            | (refine T225 false ?_
               unfold stf
               first
               | (rw [if_pos (bI_n0 h157)]; exact decide_eq_false (fun u => u.elim h167 (fun y => absurd y (i_nlt h183))))
               | (rw [if_neg (by rw [bI_0 h157]; decide)]; exact decide_eq_false (fun u => u.elim h201 (fun y => absurd y (i_nlt h217)))))
theorem x7_sz_turns {I0 : Nat → Nat → Int32} {w2 w3 : Int32} {v4 v5 : Value} (hB : mB I0 s A l) (hV : aV A) {K : gK} : ∀ (d t : Nat) (I : Nat → Nat → Int32), opn A (ztL A t) A.2.2 ≤ d → t + d ≤ 16 → psL A (16 - t) t = npL A → gSame [50, 51, 52, 53, 56] I0 I → mZ I A (ztL A t) l → oneN I I0 56 l (nI t) → outU I I0 A 50 → outU I I0 A 52 →
    (∀ I, gSame [50, 51, 52, 53, 56] I0 I → mZ I A (ztL A (npL A)) l → oneN I I0 56 l (nI (npL A)) → outU I I0 A 50 → outU I I0 A 52 → Wp E fX7_sizes 62 286 [.ref 41, .int (nI l), .int w2, .int w3, v4, v5] [] (gM I h) K) →
    Wp E fX7_sizes 62 260 [.ref 41, .int (nI l), .int w2, .int w3, v4, v5] [] (gM I h) K := by
  have h3 := hB.2.2.1
  intro d
  induction d with
  | zero =>
    intro t I ho ht hp hs hZ h56 o1 o2 kk
    have hop : opL A (ztL A t) = false := opn_0 (Nat.le_zero.mp ho)
    have hBI := hB.keep hs rfl
    rw [psL_done A hop] at hp
    rw [← hp] at kk
    refine g_aload_n (i := 0) (r := 41) (t := 261) dX7_sizes_260 rfl rfl (Or.inl l9_41) rfl ?_
    refine g_iload_n (i := 1) (t := 262) dX7_sizes_261 rfl rfl rfl ?_
    refine g_cVp (o := 41) (t := 265) mX7_isLeft k_X7_195 imX7_isLeft seX7_isLeft l6_41 l9_41 s_41 rfl dX7_sizes_262 (x7_isLeft hBI hZ) rfl rfl (by decide) (by decide) (Nat.le_of_ble_eq_true rfl) rfl ?_
    refine g_if_eq (t1 := 286) (t2 := 268) dX7_sizes_265 (by decide) rfl (fun h265 => ?_) (fun h265 => ?_)
    · exact kk I hs hZ h56 o1 o2
    · exact absurd (bI_n0 h265) (by rw [hop]; decide)
  | succ d ih =>
    intro t I ho ht hp hs hZ h56 o1 o2 kk
    have hBI := hB.keep hs rfl
    have hs2 : gSame [56] I (gup I 56 l (nI (t + 1))) := gSame.rf.up rfl
    refine g_aload_n (i := 0) (r := 41) (t := 261) dX7_sizes_260 rfl rfl (Or.inl l9_41) rfl ?_
    refine g_iload_n (i := 1) (t := 262) dX7_sizes_261 rfl rfl rfl ?_
    refine g_cVp (o := 41) (t := 265) mX7_isLeft k_X7_195 imX7_isLeft seX7_isLeft l6_41 l9_41 s_41 rfl dX7_sizes_262 (x7_isLeft hBI hZ) rfl rfl (by decide) (by decide) (Nat.le_of_ble_eq_true rfl) rfl ?_
    refine g_if_eq (t1 := 286) (t2 := 268) dX7_sizes_265 (by decide) rfl (fun h265 => ?_) (fun h265 => ?_)
    · rw [psL_done A (bI_0 h265)] at hp
      rw [← hp] at kk
      exact kk I hs hZ h56 o1 o2
    · have hop := bI_n0 h265
      refine g_aload_n (i := 0) (r := 41) (t := 269) dX7_sizes_268 rfl rfl (Or.inl l9_41) rfl ?_
      refine gm_getR (o := 41) (ci := 7) (k := 20) (r := 56) (t := 272) l6_41 l9_41 s_41 gf_X7_53 rfl r_41_20 l9_56 dX7_sizes_269 rfl ?_
      refine g_iload_n (i := 1) (t := 273) dX7_sizes_272 rfl rfl rfl ?_
      refine g_dup2 (t := 274) dX7_sizes_273 rfl rfl rfl ?_
      refine gm_iald_n (a := 56) (n := 16) (t := 275) l6_56 l9_56 s_56 dX7_sizes_274 (by omega) (by decide) rfl ?_
      rw [h56.at]
      refine g_iconst (t := 276) dX7_sizes_275 c_iconst_1 rfl ?_
      refine g_iadd (t := 277) dX7_sizes_276 rfl ?_
      refine g_top (gi_s _) ?_
      refine gm_iast_n (a := 56) (n := 16) (t := 278) l6_56 l9_56 s_56 dX7_sizes_277 (by omega) (by decide) rfl ?_
      refine g_aload_n (i := 0) (r := 41) (t := 279) dX7_sizes_278 rfl rfl (Or.inl l9_41) rfl ?_
      refine g_iload_n (i := 1) (t := 280) dX7_sizes_279 rfl rfl rfl ?_
      refine g_cVv (o := 41) (t := 283) mX7_pass k_X7_198 imX7_pass seX7_pass l6_41 l9_41 s_41 rfl dX7_sizes_280 (x7_pass (t := t + 1) (hBI.keep hs2 rfl) (hZ.keep hs2 rfl) hV (zV_t hV t) (gup_self _ _ _ _)) rfl rfl (by decide) (by decide) (Nat.le_of_ble_eq_true rfl) rfl (fun J q => ?_)
      refine g_goto (t := 260) dX7_sizes_283 (by decide) ?_
      obtain ⟨j, j1, j2, j3⟩ := fz_some hV (zV_t hV t) hop
      have hlt := (opn_nx A (ztL A t) (t + 1) A.2.2).2 j j1 j2 j3
      refine ih (t + 1) J (by show opn A (nxL A (ztL A t) (t + 1)) A.2.2 ≤ d; omega) (by omega) ?_ ((hs.trans (hs2.wk rfl)).trans (q.1.wk rfl)) q.2.1 (h56.two.keep (q.1.at 56 rfl)) ((o1.keep (gup_rowo _ _ _ (by decide))).trans q.2.2.1) ((o2.keep (gup_rowo _ _ _ (by decide))).trans q.2.2.2.1) kk
      rw [show 16 - t = (16 - (t + 1)) + 1 by omega, psL, if_pos hop] at hp
      exact hp
theorem x7_sz_rest {I0 : Nat → Nat → Int32} {r : Int32} {w2 w3 : Int32} {v5 : Value} {z : Nat → Int32} (h3 : l < 16) (h6 : A.2.1 + A.2.2 ≤ 16) (h5 : I0 49 l = nI (A.2.1 + A.2.2)) (hz : ∀ p, A.2.1 ≤ p → p < A.2.1 + A.2.2 → I0 50 p = z p) {K : gK} : ∀ (d k : Nat) (I : Nat → Nat → Int32), k + d = A.2.2 → gSame [55] I0 I → oneN I I0 55 l (sbS r z A.2.1 k) →
    (∀ I L, gSame [55] I0 I → oneN I I0 55 l (sbS r z A.2.1 A.2.2) → Wp E fX7_sizes 62 339 L [] (gM I h) K) →
    Wp E fX7_sizes 62 306 [.ref 41, .int (nI l), .int w2, .int w3, .int (nI (A.2.1 + k)), v5] [] (gM I h) K := by
  intro d
  induction d with
  | zero =>
    intro k I hk hs ho kk
    have hk : k = A.2.2 := by omega
    subst hk
    refine g_iload (i := 4) (t := 308) dX7_sizes_306 rfl rfl ?_
    refine g_aload_n (i := 0) (r := 41) (t := 309) dX7_sizes_308 rfl rfl (Or.inl l9_41) rfl ?_
    refine gm_getR (o := 41) (ci := 7) (k := 12) (r := 49) (t := 312) l6_41 l9_41 s_41 gf_X7_31 rfl r_41_12 l9_49 dX7_sizes_309 rfl ?_
    refine g_iload_n (i := 1) (t := 313) dX7_sizes_312 rfl rfl rfl ?_
    refine gm_iald_n (a := 49) (n := 16) (t := 314) l6_49 l9_49 s_49 dX7_sizes_313 (by omega) (by decide) rfl ?_
    rw [show I 49 l = nI (A.2.1 + A.2.2) by rw [hs.at 49 rfl]; exact h5]
    refine g_icmp_ge_n (t1 := 339) (t2 := 317) dX7_sizes_314 (by decide) rfl (by omega) (by omega) (fun h314 => ?_) (fun h314 => ?_)
    · exact kk I _ hs ho
    · exfalso; omega
  | succ d ih =>
    intro k I hk hs ho kk
    refine g_iload (i := 4) (t := 308) dX7_sizes_306 rfl rfl ?_
    refine g_aload_n (i := 0) (r := 41) (t := 309) dX7_sizes_308 rfl rfl (Or.inl l9_41) rfl ?_
    refine gm_getR (o := 41) (ci := 7) (k := 12) (r := 49) (t := 312) l6_41 l9_41 s_41 gf_X7_31 rfl r_41_12 l9_49 dX7_sizes_309 rfl ?_
    refine g_iload_n (i := 1) (t := 313) dX7_sizes_312 rfl rfl rfl ?_
    refine gm_iald_n (a := 49) (n := 16) (t := 314) l6_49 l9_49 s_49 dX7_sizes_313 (by omega) (by decide) rfl ?_
    rw [show I 49 l = nI (A.2.1 + A.2.2) by rw [hs.at 49 rfl]; exact h5]
    refine g_icmp_ge_n (t1 := 339) (t2 := 317) dX7_sizes_314 (by decide) rfl (by omega) (by omega) (fun h314 => ?_) (fun h314 => ?_)
    · exfalso; omega
    · refine g_aload_n (i := 0) (r := 41) (t := 318) dX7_sizes_317 rfl rfl (Or.inl l9_41) rfl ?_
      refine gm_getR (o := 41) (ci := 7) (k := 19) (r := 55) (t := 321) l6_41 l9_41 s_41 gf_X7_50 rfl r_41_19 l9_55 dX7_sizes_318 rfl ?_
      refine g_iload_n (i := 1) (t := 322) dX7_sizes_321 rfl rfl rfl ?_
      refine g_dup2 (t := 323) dX7_sizes_322 rfl rfl rfl ?_
      refine gm_iald_n (a := 55) (n := 16) (t := 324) l6_55 l9_55 s_55 dX7_sizes_323 (by omega) (by decide) rfl ?_
      rw [ho.at]
      refine g_aload_n (i := 0) (r := 41) (t := 325) dX7_sizes_324 rfl rfl (Or.inl l9_41) rfl ?_
      refine gm_getR (o := 41) (ci := 7) (k := 14) (r := 50) (t := 328) l6_41 l9_41 s_41 gf_X7_34 rfl r_41_14 l9_50 dX7_sizes_325 rfl ?_
      refine g_iload (i := 4) (t := 330) dX7_sizes_328 rfl rfl ?_
      refine gm_iald_n (a := 50) (n := 16) (t := 331) l6_50 l9_50 s_50 dX7_sizes_330 (by omega) (by decide) rfl ?_
      rw [show I 50 (A.2.1 + k) = z (A.2.1 + k) by rw [hs.at 50 rfl]; exact hz _ (by omega) (by omega)]
      refine g_isub (t := 332) dX7_sizes_331 rfl ?_
      refine gm_iast_n (a := 55) (n := 16) (t := 333) l6_55 l9_55 s_55 dX7_sizes_332 (by omega) (by decide) rfl ?_
      refine g_iinc (i := 4) (t := 336) (L1 := [_, _, _, _, _, _]) dX7_sizes_333 rfl (gi_1 _) (by decide) rfl rfl rfl ?_
      refine g_goto (t := 306) dX7_sizes_336 (by decide) ?_
      exact ih (k + 1) _ (by omega) (hs.up rfl) ho.two kk
/-- what sizes leaves of a line -/
def mS (I I0 : Nat → Nat → Int32) (A : lA) (l : Nat) : Prop := oneN I I0 55 l (reL A) ∧ oneN I I0 56 l (nI (npL A)) ∧ oneN I I0 57 l (bI (grL A)) ∧ (∀ p, A.2.1 ≤ p → p < A.2.1 + A.2.2 → I 50 p = szA A p ∧ I 52 p = ovS ((ztL A (npL A)).1 p)) ∧ outU I I0 A 50 ∧ outU I I0 A 52
theorem x7_sizes (hB : mB I s A l) (hV : aV A) (hn : 1 ≤ A.2.2) : gQV E fX7_sizes [.ref 41, .int (nI l), .int A.1.2.2.1] I h (fun I' => gSame [50, 51, 52, 53, 54, 55, 56, 57] I I' ∧ mS I' I A l) := by
  refine gEv.of rfl (Nat.le_refl _) (Nat.le_of_ble_eq_true rfl) (L := [.ref 41, .int (nI l), .int A.1.2.2.1, .null, .null, .null]) rfl ?_
  have ⟨b1, b2, b3, b4, b5, b6, b7, b8, b9⟩ := hB
  have T286 : ∀ (J : Nat → Nat → Int32) (w3 : Int32) (v4 v5 : Value), gSame [50, 51, 52, 53, 54, 56, 57] I J → oneN J I 57 l (bI (grL A)) → oneN J I 56 l (nI (npL A)) → mZ J A (ztL A (npL A)) l → outU J I A 50 → outU J I A 52 → Wp E fX7_sizes 62 286 [.ref 41, .int (nI l), .int A.1.2.2.1, .int w3, v4, v5] [] (gM J h) (gRet fX7_sizes 62 (fun r σ' => ∃ I', r = none ∧ σ' = gM I' h ∧ gSame [50, 51, 52, 53, 54, 55, 56, 57] I I' ∧ mS I' I A l)) := by
    intro J w3 v4 v5 hs o57 o56 hZ o50 o52
    have hd := np_done hV
    have hall : ∀ p, A.2.1 ≤ p → p < A.2.1 + A.2.2 → (ztL A (npL A)).1 p ≠ none := fun p p1 p2 q => by
      have := (opL_iff A (ztL A (npL A))).mpr ⟨p - A.2.1, by omega, by rw [Nat.add_sub_cancel' p1]; exact q⟩
      rw [hd] at this
      exact absurd this (by decide)
    refine g_aload_n (i := 0) (r := 41) (t := 287) dX7_sizes_286 rfl rfl (Or.inl l9_41) rfl ?_
    refine gm_getR (o := 41) (ci := 7) (k := 19) (r := 55) (t := 290) l6_41 l9_41 s_41 gf_X7_50 rfl r_41_19 l9_55 dX7_sizes_287 rfl ?_
    refine g_iload_n (i := 1) (t := 291) dX7_sizes_290 rfl rfl rfl ?_
    refine g_aload_n (i := 0) (r := 41) (t := 292) dX7_sizes_291 rfl rfl (Or.inl l9_41) rfl ?_
    refine gm_getR (o := 41) (ci := 7) (k := 18) (r := 54) (t := 295) l6_41 l9_41 s_41 gf_X7_47 rfl r_41_18 l9_54 dX7_sizes_292 rfl ?_
    refine g_iload_n (i := 1) (t := 296) dX7_sizes_295 rfl rfl rfl ?_
    refine gm_iald_n (a := 54) (n := 16) (t := 297) l6_54 l9_54 s_54 dX7_sizes_296 (by omega) (by decide) rfl ?_
    rw [hZ.1]
    refine gm_iast_n (a := 55) (n := 16) (t := 298) l6_55 l9_55 s_55 dX7_sizes_297 (by omega) (by decide) rfl ?_
    refine g_aload_n (i := 0) (r := 41) (t := 299) dX7_sizes_298 rfl rfl (Or.inl l9_41) rfl ?_
    refine gm_getR (o := 41) (ci := 7) (k := 11) (r := 48) (t := 302) l6_41 l9_41 s_41 gf_X7_28 rfl r_41_11 l9_48 dX7_sizes_299 rfl ?_
    refine g_iload_n (i := 1) (t := 303) dX7_sizes_302 rfl rfl rfl ?_
    refine gm_iald_n (a := 48) (n := 16) (t := 304) l6_48 l9_48 s_48 dX7_sizes_303 (by omega) (by decide) rfl ?_
    rw [gup_o _ _ _ _ (by decide), show J 48 l = nI A.2.1 by rw [hs.at 48 rfl]; exact b4]
    refine g_istore (i := 4) (t := 306) (L1 := [_, _, _, _, _, _]) dX7_sizes_304 (by decide) rfl rfl rfl ?_
    refine x7_sz_rest (I0 := gup J 55 l (rmL A)) (r := rmL A) (z := (ztL A (npL A)).2) b3 b6 ?_ (fun p p1 p2 => ?_) A.2.2 0 _ (Nat.zero_add _) gSame.rf ?_ (fun I' L hs2 o55 => ?_)
    · rw [gup_o _ _ _ _ (by decide), hs.at 49 rfl]; exact b5
    · rw [gup_o _ _ _ _ (by decide)]; exact ((hZ.2.2 p p1 p2).2 (hall p p1 p2)).1
    · intro q
      by_cases y : q = l
      · rw [if_pos y, y, gup_self]; rfl
      · rw [if_neg y]
    · have hk : ∀ {o' : Nat}, o' ≠ 55 → gup J 55 l (rmL A) o' = J o' := fun q => gup_rowo J l _ q
      refine g_retV dX7_sizes_339 rfl ⟨((hs.wk rfl).up rfl).trans (hs2.wk rfl), fun q => ?_, o56.keep ((hs2.at 56 rfl).trans (hk (by decide))), o57.keep ((hs2.at 57 rfl).trans (hk (by decide))), fun p p1 p2 => ?_, o50.keep ((hs2.at 50 rfl).trans (hk (by decide))), o52.keep ((hs2.at 52 rfl).trans (hk (by decide)))⟩
      · rw [o55 q]
        by_cases y : q = l
        · rw [if_pos y, if_pos y]; rfl
        · rw [if_neg y, if_neg y, gup_k _ _ _ y, hs.at 55 rfl]
      · rw [hs2.at 50 rfl, hs2.at 52 rfl, hk (by decide), hk (by decide)]
        exact (hZ.2.2 p p1 p2).2 (hall p p1 p2)
  have T117 : ∀ (J : Nat → Nat → Int32) (w3 : Int32) (v4 : Value), gSame [54] I J → J 54 l = rmL A → Wp E fX7_sizes 62 117 [.ref 41, .int (nI l), .int A.1.2.2.1, .int w3, v4, .null] [] (gM (gup J 57 l (bI (grL A))) h) (gRet fX7_sizes 62 (fun r σ' => ∃ I', r = none ∧ σ' = gM I' h ∧ gSame [50, 51, 52, 53, 54, 55, 56, 57] I I' ∧ mS I' I A l)) := by
    intro J w3 v4 hs j54
    have hG : gSame [54, 57] I (gup J 57 l (bI (grL A))) := (hs.wk rfl).up rfl
    have hBG := hB.keep hG rfl
    have T253 : ∀ K L1, gSame [50, 52, 53] (gup J 57 l (bI (grL A))) K → strN K (gup J 57 l (bI (grL A))) 50 A.2.1 (A.2.1 + A.2.2) (zL0 A).2 → strN K (gup J 57 l (bI (grL A))) 52 A.2.1 (A.2.1 + A.2.2) (fun _ => nI 0) → strN K (gup J 57 l (bI (grL A))) 53 A.2.1 (A.2.1 + A.2.2) (fun p => bI ((zL0 A).1 p).isSome) → Wp E fX7_sizes 62 253 ([.ref 41, .int (nI l), .int A.1.2.2.1, .int w3] ++ L1) [] (gM K h) (gRet fX7_sizes 62 (fun r σ' => ∃ I', r = none ∧ σ' = gM I' h ∧ gSame [50, 51, 52, 53, 54, 55, 56, 57] I I' ∧ mS I' I A l)) := by
      intro K L1 hsK s50 s52 s53
      refine Wp.drop [.ref 41, .int (nI l), .int A.1.2.2.1, .int w3, .null, .null] (fun i v a b => ?_) ?_
      · match i with
        | 0 => exact a
        | 1 => exact a
        | 2 => exact a
        | 3 => exact a
        | 4 => cases a; exact absurd rfl b
        | 5 => cases a; exact absurd rfl b
        | i + 6 => cases a
      · have hIK : gSame [50, 52, 53, 54, 57] I K := (hG.wk rfl).trans (hsK.wk rfl)
        have k57 : oneN K I 57 l (bI (grL A)) := (oneN.one (hs.at 57 rfl)).keep (hsK.at 57 rfl)
        refine g_aload_n (i := 0) (r := 41) (t := 254) dX7_sizes_253 rfl rfl (Or.inl l9_41) rfl ?_
        refine gm_getR (o := 41) (ci := 7) (k := 20) (r := 56) (t := 257) l6_41 l9_41 s_41 gf_X7_53 rfl r_41_20 l9_56 dX7_sizes_254 rfl ?_
        refine g_iload_n (i := 1) (t := 258) dX7_sizes_257 rfl rfl rfl ?_
        refine g_iconst (t := 259) dX7_sizes_258 c_iconst_0 rfl ?_
        refine gm_iast_n (a := 56) (n := 16) (t := 260) l6_56 l9_56 s_56 dX7_sizes_259 (by omega) (by decide) rfl ?_
        refine x7_sz_turns (I0 := K) (hB.keep hIK rfl) hV A.2.2 0 _ (opn_le _ _ _) (by have := hV.1; omega) rfl ((gSame.rf (cs := [50, 51, 52, 53, 56])).up rfl) ⟨?_, ?_, fun p p1 p2 => ⟨?_, fun u => ⟨?_, ?_⟩⟩⟩ (oneN.one rfl) (outU.rf.keep (gup_rowo _ _ _ (by decide))) (outU.rf.keep (gup_rowo _ _ _ (by decide))) (fun J2 hs2 hZ2 h56 o50 o52 => ?_)
        · rw [gup_o _ _ _ _ (by decide), hsK.at 54 rfl, gup_o _ _ _ _ (by decide)]; exact j54
        · rw [gup_o _ _ _ _ (by decide)]; exact k57.at
        · rw [gup_o _ _ _ _ (by decide)]; exact s53.in p1 p2
        · rw [gup_o _ _ _ _ (by decide)]; exact s50.in p1 p2
        · rw [gup_o _ _ _ _ (by decide), s52.in p1 p2]
          have u : ¬ (if stf A.1.1 (grL A) (A.1.2.2.2 p) then some 0 else none : Option Nat) = none := u
          show nI 0 = ovS (if stf A.1.1 (grL A) (A.1.2.2.2 p) then some 0 else none)
          by_cases y : stf A.1.1 (grL A) (A.1.2.2.2 p) = true
          · rw [if_pos y]; rfl
          · rw [if_neg y] at u; exact absurd rfl u
        · refine T286 J2 _ _ _ ((hIK.wk rfl).trans (hs2.wk rfl)) (k57.keep (hs2.at 57 rfl)) (fun q => ?_) hZ2 ((?_ : outU K I A 50).trans o50) ((?_ : outU K I A 52).trans o52)
          · rw [h56 q, hIK.at 56 rfl]
          · exact fun q hq => (outU.str s50 q hq).trans (by rw [hG.at 50 rfl])
          · exact fun q hq => (outU.str s52 q hq).trans (by rw [hG.at 52 rfl])
    refine g_aload_n (i := 0) (r := 41) (t := 118) dX7_sizes_117 rfl rfl (Or.inl l9_41) rfl ?_
    refine gm_getR (o := 41) (ci := 7) (k := 11) (r := 48) (t := 121) l6_41 l9_41 s_41 gf_X7_28 rfl r_41_11 l9_48 dX7_sizes_118 rfl ?_
    refine g_iload_n (i := 1) (t := 122) dX7_sizes_121 rfl rfl rfl ?_
    refine gm_iald_n (a := 48) (n := 16) (t := 123) l6_48 l9_48 s_48 dX7_sizes_122 (by omega) (by decide) rfl ?_
    rw [show (gup J 57 l (bI (grL A))) 48 l = nI A.2.1 by rw [hG.at 48 rfl]; exact b4]
    refine g_istore (i := 4) (t := 125) (L1 := [_, _, _, _, _, _]) dX7_sizes_123 (by decide) rfl rfl rfl ?_
    exact x7_sz_fr hBG (gup_self _ _ _ _) A.2.2 0 _ _ (Nat.zero_add _) gSame.rf strN.rf strN.rf strN.rf T253
  have erm : rmL A = sbS (A.1.2.2.1 - A.1.2.1 1 * nI (A.2.2 - 1)) (fun p => nI 2 * A.1.1 (A.1.2.2.2 p) 5) A.2.1 A.2.2 := rfl
  have T96 : ∀ J v4, gSame [54] (gup I 54 l (A.1.2.2.1 - A.1.2.1 1 * nI (A.2.2 - 1))) J → oneN J (gup I 54 l (A.1.2.2.1 - A.1.2.1 1 * nI (A.2.2 - 1))) 54 l (sbS (A.1.2.2.1 - A.1.2.1 1 * nI (A.2.2 - 1)) (fun p => nI 2 * A.1.1 (A.1.2.2.2 p) 5) A.2.1 A.2.2) → Wp E fX7_sizes 62 96 [.ref 41, .int (nI l), .int A.1.2.2.1, .int (smS (fun p => wsh A.1.1 (A.1.2.2.2 p)) A.2.1 A.2.2), v4, .null] [] (gM J h) (gRet fX7_sizes 62 (fun r σ' => ∃ I', r = none ∧ σ' = gM I' h ∧ gSame [50, 51, 52, 53, 54, 55, 56, 57] I I' ∧ mS I' I A l)) := by
    intro J v4 hs ho
    have hsJ : gSame [54] I J := ((gSame.rf (cs := [54])).up rfl).trans hs
    have e54 : J 54 l = rmL A := by rw [ho.at, erm]
    have T := T117 J (smS (fun p => wsh A.1.1 (A.1.2.2.2 p)) A.2.1 A.2.2) v4 hsJ e54
    have eg : grL A = decide (smS (fun p => wsh A.1.1 (A.1.2.2.2 p)) A.2.1 A.2.2 < rmL A) := rfl
    refine g_aload_n (i := 0) (r := 41) (t := 97) dX7_sizes_96 rfl rfl (Or.inl l9_41) rfl ?_
    refine gm_getR (o := 41) (ci := 7) (k := 21) (r := 57) (t := 100) l6_41 l9_41 s_41 gf_X7_56 rfl r_41_21 l9_57 dX7_sizes_97 rfl ?_
    refine g_iload_n (i := 1) (t := 101) dX7_sizes_100 rfl rfl rfl ?_
    refine g_iload_n (i := 3) (t := 102) dX7_sizes_101 rfl rfl rfl ?_
    refine g_aload_n (i := 0) (r := 41) (t := 103) dX7_sizes_102 rfl rfl (Or.inl l9_41) rfl ?_
    refine gm_getR (o := 41) (ci := 7) (k := 18) (r := 54) (t := 106) l6_41 l9_41 s_41 gf_X7_47 rfl r_41_18 l9_54 dX7_sizes_103 rfl ?_
    refine g_iload_n (i := 1) (t := 107) dX7_sizes_106 rfl rfl rfl ?_
    refine gm_iald_n (a := 54) (n := 16) (t := 108) l6_54 l9_54 s_54 dX7_sizes_107 (by omega) (by decide) rfl ?_
    rw [e54]
    refine g_icmp_ge (t1 := 115) (t2 := 111) dX7_sizes_108 (by decide) rfl (fun h108 => ?_) (fun h108 => ?_)
    · refine g_iconst (t := 116) dX7_sizes_115 c_iconst_0 rfl ?_
      refine gm_zast_n (a := 57) (n := 16) (t := 117) l6_57 l9_57 s_57 (by decide +kernel) dX7_sizes_116 (by omega) (by decide) rfl ?_
      first
      | (rw [show grL A = true from eg.trans (decide_eq_true (i_gt h108))] at T; exact T)
      | (rw [show grL A = false from eg.trans (decide_eq_false (i_nlt h108))] at T; exact T)
    · refine g_iconst (t := 112) dX7_sizes_111 c_iconst_1 rfl ?_
      refine g_goto (t := 116) dX7_sizes_112 (by decide) ?_
      refine gm_zast_n (a := 57) (n := 16) (t := 117) l6_57 l9_57 s_57 (by decide +kernel) dX7_sizes_116 (by omega) (by decide) rfl ?_
      first
      | (rw [show grL A = true from eg.trans (decide_eq_true (i_gt h108))] at T; exact T)
      | (rw [show grL A = false from eg.trans (decide_eq_false (i_nlt h108))] at T; exact T)
  refine g_iconst (t := 1) dX7_sizes_0 c_iconst_0 rfl ?_
  refine g_istore_n (i := 3) (t := 2) (L1 := [_, _, _, _, _, _]) dX7_sizes_1 rfl (by decide) rfl rfl rfl ?_
  refine g_aload_n (i := 0) (r := 41) (t := 3) dX7_sizes_2 rfl rfl (Or.inl l9_41) rfl ?_
  refine gm_getR (o := 41) (ci := 7) (k := 18) (r := 54) (t := 6) l6_41 l9_41 s_41 gf_X7_47 rfl r_41_18 l9_54 dX7_sizes_3 rfl ?_
  refine g_iload_n (i := 1) (t := 7) dX7_sizes_6 rfl rfl rfl ?_
  refine g_iload_n (i := 2) (t := 8) dX7_sizes_7 rfl rfl rfl ?_
  refine g_aload_n (i := 0) (r := 41) (t := 9) dX7_sizes_8 rfl rfl (Or.inl l9_41) rfl ?_
  refine gm_getR (o := 41) (ci := 7) (k := 0) (r := 42) (t := 12) l6_41 l9_41 s_41 gf_X7_7 rfl r_41_0 l9_42 dX7_sizes_9 rfl ?_
  refine g_sipush (t := 15) dX7_sizes_12 c_sipush_178 rfl ?_
  refine gm_iald_n (a := 42) (n := 184) (t := 16) l6_42 l9_42 s_42 dX7_sizes_15 (by omega) (by decide) rfl ?_
  rw [show I 42 178 = A.1.2.1 1 by rw [b9]; exact b1.2.2 1 (by decide)]
  refine g_aload_n (i := 0) (r := 41) (t := 17) dX7_sizes_16 rfl rfl (Or.inl l9_41) rfl ?_
  refine gm_getR (o := 41) (ci := 7) (k := 12) (r := 49) (t := 20) l6_41 l9_41 s_41 gf_X7_31 rfl r_41_12 l9_49 dX7_sizes_17 rfl ?_
  refine g_iload_n (i := 1) (t := 21) dX7_sizes_20 rfl rfl rfl ?_
  refine gm_iald_n (a := 49) (n := 16) (t := 22) l6_49 l9_49 s_49 dX7_sizes_21 (by omega) (by decide) rfl ?_
  rw [b5]
  refine g_aload_n (i := 0) (r := 41) (t := 23) dX7_sizes_22 rfl rfl (Or.inl l9_41) rfl ?_
  refine gm_getR (o := 41) (ci := 7) (k := 11) (r := 48) (t := 26) l6_41 l9_41 s_41 gf_X7_28 rfl r_41_11 l9_48 dX7_sizes_23 rfl ?_
  refine g_iload_n (i := 1) (t := 27) dX7_sizes_26 rfl rfl rfl ?_
  refine gm_iald_n (a := 48) (n := 16) (t := 28) l6_48 l9_48 s_48 dX7_sizes_27 (by omega) (by decide) rfl ?_
  rw [b4]
  refine g_isub (t := 29) dX7_sizes_28 rfl ?_
  refine g_top (y := nI A.2.2) (by rw [pk_sub (by omega), Nat.add_sub_cancel_left]) ?_
  refine g_iconst (t := 30) dX7_sizes_29 c_iconst_1 rfl ?_
  refine g_isub (t := 31) dX7_sizes_30 rfl ?_
  refine g_top (y := nI (A.2.2 - 1)) (pk_sub hn) ?_
  refine g_imul (t := 32) dX7_sizes_31 rfl ?_
  refine g_isub (t := 33) dX7_sizes_32 rfl ?_
  refine gm_iast_n (a := 54) (n := 16) (t := 34) l6_54 l9_54 s_54 dX7_sizes_33 (by omega) (by decide) rfl ?_
  refine g_aload_n (i := 0) (r := 41) (t := 35) dX7_sizes_34 rfl rfl (Or.inl l9_41) rfl ?_
  refine gm_getR (o := 41) (ci := 7) (k := 11) (r := 48) (t := 38) l6_41 l9_41 s_41 gf_X7_28 rfl r_41_11 l9_48 dX7_sizes_35 rfl ?_
  refine g_iload_n (i := 1) (t := 39) dX7_sizes_38 rfl rfl rfl ?_
  refine gm_iald_n (a := 48) (n := 16) (t := 40) l6_48 l9_48 s_48 dX7_sizes_39 (by omega) (by decide) rfl ?_
  rw [gup_o _ _ _ _ (by decide), b4]
  refine g_istore (i := 4) (t := 42) (L1 := [_, _, _, _, _, _]) dX7_sizes_40 (by decide) rfl rfl rfl ?_
  refine x7_sz_room (hB.keep ((gSame.rf (cs := [54])).up rfl) rfl) A.2.2 0 _ (Nat.zero_add _) gSame.rf (fun q => ?_) T96
  by_cases y : q = l
  · rw [if_pos y, y, gup_self]; rfl
  · rw [if_neg y]
end X7M

