/-! FlexRows$Text: a number -/
section X5B
variable {E : gE} {I : Nat → Nat → Int32} {h : gX}
/-- what readNumber leaves -/
def pN (T : tT) (w j : Nat) (I : Nat → Nat → Int32) (v : Int32) (I' : Nat → Nat → Int32) : Prop :=
  (∀ f, ftN T w j = some f → v = nI f ∧ gSame [1] I I' ∧ ∀ k, k ≠ 3 → I' 1 k = I 1 k) ∧ (ftN T w j = none → v = -1 ∧ I' = gup (gup I 3 w (vlN T w j)) 1 3 (nI (nxN T w j)))
theorem gup_comm (I : Nat → Nat → Int32) {o o' : Nat} (k k' : Nat) (v w : Int32) (hne : o ≠ o') : gup (gup I o k v) o' k' w = gup (gup I o' k' w) o k v := by
  funext a b
  simp only [gup]
  by_cases p : a = o ∧ b = k
  · obtain ⟨rfl, rfl⟩ := p
    rw [if_neg (fun q => hne q.1), if_pos ⟨rfl, rfl⟩, if_pos ⟨rfl, rfl⟩]
  · rw [if_neg p, if_neg p]
theorem x5_rn_dig {T : tT} {w : Nat} {j : Nat} {w3 : Int32} {fd : Nat} (hT : tX I T) (hfd : fd ≤ T.1) {K : gK} : ∀ (d e : Nat) (v : Int32), e + d = fd + 3 → e ≤ T.1 →
    Wp E fX5_readNumber (gn h) 114 [.ref 1, .int (nI w), .int (nI j), .int w3, .int (nI fd), .int (dgs T d e v).2] [] (gM (gup I 1 3 (nI (dgs T d e v).1)) h) K →
    Wp E fX5_readNumber (gn h) 57 [.ref 1, .int (nI w), .int (nI j), .int w3, .int (nI fd), .int v] [] (gM (gup I 1 3 (nI e)) h) K := by
  have hn := hT.2.1
  intro d
  induction d with
  | zero =>
    intro e v he hl kk
    refine g_aload_n (i := 0) (r := 1) (t := 58) dX5_readNumber_57 rfl rfl (Or.inl l9_1) rfl ?_
    refine gm_getI (o := 1) (ci := 5) (k := 3) (t := 61) l6_1 l9_1 s_1 gf_X5_32 rfl dX5_readNumber_58 rfl ?_
    rw [gup_self]
    refine g_iload (i := 4) (t := 63) dX5_readNumber_61 rfl rfl ?_
    refine g_iconst (t := 64) dX5_readNumber_63 c_iconst_3 rfl ?_
    refine g_iadd (t := 65) dX5_readNumber_64 rfl ?_
    refine g_top (nI_add _ _) ?_
    refine g_icmp_ge_n (t1 := 114) (t2 := 68) dX5_readNumber_65 (by decide) rfl (by omega) (by omega) (fun h65 => ?_) (fun h65 => ?_)
    · exact kk
    · exfalso; omega
  | succ d ih =>
    intro e v he hl kk
    rw [dgs] at kk
    refine g_aload_n (i := 0) (r := 1) (t := 58) dX5_readNumber_57 rfl rfl (Or.inl l9_1) rfl ?_
    refine gm_getI (o := 1) (ci := 5) (k := 3) (t := 61) l6_1 l9_1 s_1 gf_X5_32 rfl dX5_readNumber_58 rfl ?_
    rw [gup_self]
    refine g_iload (i := 4) (t := 63) dX5_readNumber_61 rfl rfl ?_
    refine g_iconst (t := 64) dX5_readNumber_63 c_iconst_3 rfl ?_
    refine g_iadd (t := 65) dX5_readNumber_64 rfl ?_
    refine g_top (nI_add _ _) ?_
    refine g_icmp_ge_n (t1 := 114) (t2 := 68) dX5_readNumber_65 (by decide) rfl (by omega) (by omega) (fun h65 => ?_) (fun h65 => ?_)
    · exfalso; omega
    · refine g_aload_n (i := 0) (r := 1) (t := 69) dX5_readNumber_68 rfl rfl (Or.inl l9_1) rfl ?_
      refine g_aload_n (i := 0) (r := 1) (t := 70) dX5_readNumber_69 rfl rfl (Or.inl l9_1) rfl ?_
      refine gm_getI (o := 1) (ci := 5) (k := 3) (t := 73) l6_1 l9_1 s_1 gf_X5_32 rfl dX5_readNumber_70 rfl ?_
      rw [gup_self]
      refine g_cVp (o := 1) (t := 76) mX5_byteAt k_X5_49 imX5_byteAt seX5_byteAt l6_1 l9_1 s_1 rfl dX5_readNumber_73 (x5_byteAt hT.up (by omega)) rfl rfl (by decide) (by decide) (Nat.le_of_ble_eq_true rfl) rfl (Nat.le_refl _) ?_
      refine g_cSp (t := 79) mX5_isDigit k_X5_52 smX5_isDigit dX5_readNumber_76 (x5_isDigit) rfl rfl (by decide) (by decide) (Nat.le_of_ble_eq_true rfl) rfl (Nat.le_refl _) ?_
      refine g_if_eq (t1 := 114) (t2 := 82) dX5_readNumber_79 (by decide) rfl (fun h79 => ?_) (fun h79 => ?_)
      · rw [if_neg (by rw [bI_0 h79]; decide)] at kk
        exact kk
      · have hd := bI_n0 h79
        have hlt := isD_lt hd
        rw [if_pos hd] at kk
        refine g_iload (i := 5) (t := 84) dX5_readNumber_82 rfl rfl ?_
        refine g_bipush (t := 86) dX5_readNumber_84 c_bipush_10 rfl ?_
        refine g_imul (t := 87) dX5_readNumber_86 rfl ?_
        refine g_aload_n (i := 0) (r := 1) (t := 88) dX5_readNumber_87 rfl rfl (Or.inl l9_1) rfl ?_
        refine g_aload_n (i := 0) (r := 1) (t := 89) dX5_readNumber_88 rfl rfl (Or.inl l9_1) rfl ?_
        refine gm_getI (o := 1) (ci := 5) (k := 3) (t := 92) l6_1 l9_1 s_1 gf_X5_32 rfl dX5_readNumber_89 rfl ?_
        rw [gup_self]
        refine g_cVp (o := 1) (t := 95) mX5_byteAt k_X5_49 imX5_byteAt seX5_byteAt l6_1 l9_1 s_1 rfl dX5_readNumber_92 (x5_byteAt hT.up (by omega)) rfl rfl (by decide) (by decide) (Nat.le_of_ble_eq_true rfl) rfl (Nat.le_refl _) ?_
        refine g_iadd (t := 96) dX5_readNumber_95 rfl ?_
        refine g_bipush (t := 98) dX5_readNumber_96 c_bipush_48 rfl ?_
        refine g_isub (t := 99) dX5_readNumber_98 rfl ?_
        refine g_istore (i := 5) (t := 101) (L1 := [_, _, _, _, _, _]) dX5_readNumber_99 (by decide) rfl rfl rfl ?_
        refine g_aload_n (i := 0) (r := 1) (t := 102) dX5_readNumber_101 rfl rfl (Or.inl l9_1) rfl ?_
        refine g_dup (t := 103) dX5_readNumber_102 rfl rfl ?_
        refine gm_getI (o := 1) (ci := 5) (k := 3) (t := 106) l6_1 l9_1 s_1 gf_X5_32 rfl dX5_readNumber_103 rfl ?_
        refine g_iconst (t := 107) dX5_readNumber_106 c_iconst_1 rfl ?_
        refine g_iadd (t := 108) dX5_readNumber_107 rfl ?_
        rw [gup_self, gi_s]
        refine gm_putI (o := 1) (ci := 5) (k := 3) (t := 111) l6_1 l9_1 s_1 gp_X5_32 rfl rfl rfl dX5_readNumber_108 rfl ?_
        refine g_goto (t := 57) dX5_readNumber_111 (by decide) ?_
        rw [gup_gup]
        exact ih (e + 1) _ (by omega) (by omega) kk
theorem x5_readNumber {T : tT} {w j0 j : Nat} (hT : tX I T) (h3 : I 1 3 = nI j0) (hj : j0 ≤ T.1) (hw : w < 10) (hjj : j = skp T j0) : gQI E fX5_readNumber [.ref 1, .int (nI w)] I h (pN T w j I) := by
  refine gEv.of rfl (Nat.le_refl _) (Nat.le_of_ble_eq_true rfl) (L := [.ref 1, .int (nI w), .null, .null, .null, .null]) rfl ?_
  have hn := hT.2.1
  have hjn : j ≤ T.1 := hjj ▸ (skp_le hj).2
  have b1 := fdN_le (w := w) hjn
  have b2 := dgN_le (w := w) hjn
  have fl : ∀ (e : Nat), gSame [1] I (gup I 1 3 (nI e)) ∧ ∀ k, k ≠ 3 → gup I 1 3 (nI e) 1 k = I 1 k := fun e => ⟨gSame.rf.up rfl, fun k hk => gup_k _ _ _ hk⟩
  have T4 : (dgN T w j).1 ≠ fdN T w j → Wp E fX5_readNumber (gn h) 140 [.ref 1, .int (nI w), .int (nI j), .int (bI (ngN T w j)), .int (nI (fdN T w j)), .int (dgN T w j).2] [.int (vlN T w j)] (gM (gup I 1 3 (nI (dgN T w j).1)) h) (gRet fX5_readNumber (gn h) (fun r σ' => ∃ (v : Int32) (I' : Nat → Nat → Int32), r = some (.int v) ∧ σ' = gM I' h ∧ pN T w j I v I')) := by
    intro hne
    have h3' : gup (gup I 3 w (vlN T w j)) 1 3 (nI (dgN T w j).1) = gup (gup I 1 3 (nI (dgN T w j).1)) 3 w (vlN T w j) := gup_comm _ _ _ _ _ (by decide)
    have hT3 : tX (gup (gup I 1 3 (nI (dgN T w j).1)) 3 w (vlN T w j)) T := ⟨by rw [gup_o _ _ _ _ (by decide)]; exact hT.up.1, hT.2.1, by rw [gup_rowo _ _ _ (by decide)]; exact hT.up.2.2⟩
    have l0 : vlN T w j < lwt w → ftN T w j = some j := fun q => by rw [ftN, if_neg hne, if_pos (Or.inl q)]
    have l1 : hwt w < vlN T w j → ftN T w j = some j := fun q => by rw [ftN, if_neg hne, if_pos (Or.inr q)]
    have l2 : ¬ vlN T w j < lwt w → ¬ hwt w < vlN T w j → isD (byt T (dgN T w j).1) = true → ftN T w j = some (dgN T w j).1 := fun a b c => by rw [ftN, if_neg hne, if_neg (fun z => z.elim a b), if_pos c]
    have l3 : ¬ vlN T w j < lwt w → ¬ hwt w < vlN T w j → isD (byt T (dgN T w j).1) = false → ftN T w j = none := fun a b c => by rw [ftN, if_neg hne, if_neg (fun z => z.elim a b), if_neg (by rw [c]; decide)]
    refine g_istore (i := 5) (t := 142) (L1 := [_, _, _, _, _, _]) dX5_readNumber_140 (by decide) rfl rfl rfl ?_
    refine g_iload_n (i := 1) (t := 143) dX5_readNumber_142 rfl rfl rfl ?_
    refine g_if_lt (t1 := 172) (t2 := 146) dX5_readNumber_143 (by decide) rfl (fun h143 => ?_) (fun h143 => ?_)
    · exact absurd h143 (by first | decide | exact nI_pos (by omega) | exact nI_ne0 (by omega) (by omega))
    · refine g_iload_n (i := 1) (t := 147) dX5_readNumber_146 rfl rfl rfl ?_
      refine g_bipush (t := 149) dX5_readNumber_147 c_bipush_10 rfl ?_
      refine g_icmp_ge_n (t1 := 172) (t2 := 152) dX5_readNumber_149 (by decide) rfl (by omega) (by omega) (fun h149 => ?_) (fun h149 => ?_)
      · exfalso; omega
      · refine g_iload (i := 5) (t := 154) dX5_readNumber_152 rfl rfl ?_
        refine g_getsN (j := 0) (r := 1001) (t := 157) rfl rfl (List.mem_of_getElem? (i := 4) rfl) dX5_readNumber_154 rfl ?_
        refine g_iload_n (i := 1) (t := 158) dX5_readNumber_157 rfl rfl rfl ?_
        refine gm_tld_n (j := 0) (t := 159) rfl rfl dX5_readNumber_158 (by omega) (by decide) rfl ?_
        refine g_icmp_lt (t1 := 172) (t2 := 162) dX5_readNumber_159 (by decide) rfl (fun h159 => ?_) (fun h159 => ?_)
        · refine g_iload_n (i := 2) (t := 173) dX5_readNumber_172 rfl rfl rfl ?_
          exact g_retI dX5_readNumber_173 rfl rfl (by
    first
    | exact ⟨fun f hf => ⟨by rw [l0 h159] at hf; cases hf; rfl, fl _⟩, fun hf => by rw [l0 h159] at hf; cases hf⟩
    | exact ⟨fun f hf => ⟨by rw [l1 (Int32.not_le.mp h169)] at hf; cases hf; rfl, fl _⟩, fun hf => by rw [l1 (Int32.not_le.mp h169)] at hf; cases hf⟩)
        · refine g_iload (i := 5) (t := 164) dX5_readNumber_162 rfl rfl ?_
          refine g_getsN (j := 1) (r := 1002) (t := 167) rfl rfl (List.mem_of_getElem? (i := 5) rfl) dX5_readNumber_164 rfl ?_
          refine g_iload_n (i := 1) (t := 168) dX5_readNumber_167 rfl rfl rfl ?_
          refine gm_tld_n (j := 1) (t := 169) rfl rfl dX5_readNumber_168 (by omega) (by decide) rfl ?_
          refine g_icmp_le (t1 := 174) (t2 := 172) dX5_readNumber_169 (by decide) rfl (fun h169 => ?_) (fun h169 => ?_)
          · refine g_aload_n (i := 0) (r := 1) (t := 175) dX5_readNumber_174 rfl rfl (Or.inl l9_1) rfl ?_
            refine g_aload_n (i := 0) (r := 1) (t := 176) dX5_readNumber_175 rfl rfl (Or.inl l9_1) rfl ?_
            refine gm_getI (o := 1) (ci := 5) (k := 3) (t := 179) l6_1 l9_1 s_1 gf_X5_32 rfl dX5_readNumber_176 rfl ?_
            rw [gup_self]
            refine g_cVp (o := 1) (t := 182) mX5_byteAt k_X5_49 imX5_byteAt seX5_byteAt l6_1 l9_1 s_1 rfl dX5_readNumber_179 (x5_byteAt hT.up (by omega)) rfl rfl (by decide) (by decide) (Nat.le_of_ble_eq_true rfl) rfl (Nat.le_refl _) ?_
            refine g_cSp (t := 185) mX5_isDigit k_X5_52 smX5_isDigit dX5_readNumber_182 (x5_isDigit) rfl rfl (by decide) (by decide) (Nat.le_of_ble_eq_true rfl) rfl (Nat.le_refl _) ?_
            refine g_if_eq (t1 := 193) (t2 := 188) dX5_readNumber_185 (by decide) rfl (fun h185 => ?_) (fun h185 => ?_)
            · refine g_aload_n (i := 0) (r := 1) (t := 194) dX5_readNumber_193 rfl rfl (Or.inl l9_1) rfl ?_
              refine gm_getR (o := 1) (ci := 5) (k := 1) (r := 3) (t := 197) l6_1 l9_1 s_1 gf_X5_15 rfl r_1_1 l9_3 dX5_readNumber_194 rfl ?_
              refine g_iload_n (i := 1) (t := 198) dX5_readNumber_197 rfl rfl rfl ?_
              refine g_iload (i := 5) (t := 200) dX5_readNumber_198 rfl rfl ?_
              refine gm_iast_n (a := 3) (n := 10) (t := 201) l6_3 l9_3 s_3 dX5_readNumber_200 (by omega) (by decide) rfl ?_
              refine g_aload_n (i := 0) (r := 1) (t := 202) dX5_readNumber_201 rfl rfl (Or.inl l9_1) rfl ?_
              refine g_cVd (o := 1) (t := 205) mX5_skipBlanks k_X5_46 imX5_skipBlanks seX5_skipBlanks l6_1 l9_1 s_1 rfl dX5_readNumber_202 (x5_skipBlanks hT3 (j := (dgN T w j).1) (by rw [gup_o _ _ _ _ (by decide), gup_self]) b2.2) rfl rfl (by decide) (by decide) (Nat.le_of_ble_eq_true rfl) rfl (Nat.le_refl _) ?_
              refine g_iconst (t := 206) dX5_readNumber_205 c_iconst_m1 rfl ?_
              exact g_retI dX5_readNumber_206 rfl rfl (by
    have e := l3 h159 (Int32.not_lt.mpr h169) (bI_0 h185)
    refine ⟨fun f hf => (by rw [e] at hf; cases hf), fun _ => ⟨rfl, ?_⟩⟩
    rw [← h3', gup_gup]
    rfl)
            · refine g_aload_n (i := 0) (r := 1) (t := 189) dX5_readNumber_188 rfl rfl (Or.inl l9_1) rfl ?_
              refine gm_getI (o := 1) (ci := 5) (k := 3) (t := 192) l6_1 l9_1 s_1 gf_X5_32 rfl dX5_readNumber_189 rfl ?_
              rw [gup_self]
              exact g_retI dX5_readNumber_192 rfl rfl (by
    have e := l2 h159 (Int32.not_lt.mpr h169) (bI_n0 h185)
    exact ⟨fun f hf => ⟨by rw [e] at hf; cases hf; rfl, fl _⟩, fun hf => by rw [e] at hf; cases hf⟩)
          · refine g_iload_n (i := 2) (t := 173) dX5_readNumber_172 rfl rfl rfl ?_
            exact g_retI dX5_readNumber_173 rfl rfl (by
    first
    | exact ⟨fun f hf => ⟨by rw [l0 h159] at hf; cases hf; rfl, fl _⟩, fun hf => by rw [l0 h159] at hf; cases hf⟩
    | exact ⟨fun f hf => ⟨by rw [l1 (Int32.not_le.mp h169)] at hf; cases hf; rfl, fl _⟩, fun hf => by rw [l1 (Int32.not_le.mp h169)] at hf; cases hf⟩)
  have T3 : Wp E fX5_readNumber (gn h) 114 [.ref 1, .int (nI w), .int (nI j), .int (bI (ngN T w j)), .int (nI (fdN T w j)), .int (dgN T w j).2] [] (gM (gup I 1 3 (nI (dgN T w j).1)) h) (gRet fX5_readNumber (gn h) (fun r σ' => ∃ (v : Int32) (I' : Nat → Nat → Int32), r = some (.int v) ∧ σ' = gM I' h ∧ pN T w j I v I')) := by
    refine g_aload_n (i := 0) (r := 1) (t := 115) dX5_readNumber_114 rfl rfl (Or.inl l9_1) rfl ?_
    refine gm_getI (o := 1) (ci := 5) (k := 3) (t := 118) l6_1 l9_1 s_1 gf_X5_32 rfl dX5_readNumber_115 rfl ?_
    rw [gup_self]
    refine g_iload (i := 4) (t := 120) dX5_readNumber_118 rfl rfl ?_
    refine g_icmp_ne_n (t1 := 128) (t2 := 123) dX5_readNumber_120 (by decide) rfl (by omega) (by omega) (fun h120 => ?_) (fun h120 => ?_)
    · refine g_iload_n (i := 3) (t := 129) dX5_readNumber_128 rfl rfl rfl ?_
      refine g_if_eq (t1 := 138) (t2 := 132) dX5_readNumber_129 (by decide) rfl (fun h129 => ?_) (fun h129 => ?_)
      · refine g_iload (i := 5) (t := 140) dX5_readNumber_138 rfl rfl ?_
        first
        | (refine g_top (y := vlN T w j) ?_ (T4 h120); rw [vlN, if_neg (by rw [bI_0 h129]; decide)])
        | (refine g_top (y := vlN T w j) ?_ (T4 h120); rw [vlN, if_pos (bI_n0 h129)])
      · refine g_iload (i := 5) (t := 134) dX5_readNumber_132 rfl rfl ?_
        refine g_ineg (t := 135) dX5_readNumber_134 rfl ?_
        refine g_goto (t := 140) dX5_readNumber_135 (by decide) ?_
        first
        | (refine g_top (y := vlN T w j) ?_ (T4 h120); rw [vlN, if_neg (by rw [bI_0 h129]; decide)])
        | (refine g_top (y := vlN T w j) ?_ (T4 h120); rw [vlN, if_pos (bI_n0 h129)])
    · refine g_aload_n (i := 0) (r := 1) (t := 124) dX5_readNumber_123 rfl rfl (Or.inl l9_1) rfl ?_
      refine gm_getI (o := 1) (ci := 5) (k := 3) (t := 127) l6_1 l9_1 s_1 gf_X5_32 rfl dX5_readNumber_124 rfl ?_
      rw [gup_self]
      exact g_retI dX5_readNumber_127 rfl rfl (by
    have e : ftN T w j = some (fdN T w j) := by rw [ftN, if_pos h120]
    exact ⟨fun f hf => ⟨by rw [e] at hf; cases hf; rw [h120], fl _⟩, fun hf => by rw [e] at hf; cases hf⟩)
  have T2 : Wp E fX5_readNumber (gn h) 48 [.ref 1, .int (nI w), .int (nI j), .int (bI (ngN T w j)), .null, .null] [] (gM (gup I 1 3 (nI (fdN T w j))) h) (gRet fX5_readNumber (gn h) (fun r σ' => ∃ (v : Int32) (I' : Nat → Nat → Int32), r = some (.int v) ∧ σ' = gM I' h ∧ pN T w j I v I')) := by
    refine g_aload_n (i := 0) (r := 1) (t := 49) dX5_readNumber_48 rfl rfl (Or.inl l9_1) rfl ?_
    refine gm_getI (o := 1) (ci := 5) (k := 3) (t := 52) l6_1 l9_1 s_1 gf_X5_32 rfl dX5_readNumber_49 rfl ?_
    rw [gup_self]
    refine g_istore (i := 4) (t := 54) (L1 := [_, _, _, _, _, _]) dX5_readNumber_52 (by decide) rfl rfl rfl ?_
    refine g_iconst (t := 55) dX5_readNumber_54 c_iconst_0 rfl ?_
    refine g_istore (i := 5) (t := 57) (L1 := [_, _, _, _, _, _]) dX5_readNumber_55 (by decide) rfl rfl rfl ?_
    exact x5_rn_dig hT b1.2 3 (fdN T w j) _ rfl b1.2 T3
  have T1 : Wp E fX5_readNumber (gn h) 33 [.ref 1, .int (nI w), .int (nI j), .null, .null, .null] [.int (bI (ngN T w j))] (gM (gup I 1 3 (nI j)) h) (gRet fX5_readNumber (gn h) (fun r σ' => ∃ (v : Int32) (I' : Nat → Nat → Int32), r = some (.int v) ∧ σ' = gM I' h ∧ pN T w j I v I')) := by
    refine g_istore_n (i := 3) (t := 34) (L1 := [_, _, _, _, _, _]) dX5_readNumber_33 rfl (by decide) rfl rfl rfl ?_
    refine g_iload_n (i := 3) (t := 35) dX5_readNumber_34 rfl rfl rfl ?_
    refine g_if_eq (t1 := 48) (t2 := 38) dX5_readNumber_35 (by decide) rfl (fun h35 => ?_) (fun h35 => ?_)
    · first
      | (have e : fdN T w j = j := if_neg (by rw [bI_0 h35]; decide)
         rw [e] at T2
         exact T2)
      | (have e : fdN T w j = j + 1 := if_pos (bI_n0 h35)
         rw [e] at T2
         rw [gup_gup]
         exact T2)
    · refine g_aload_n (i := 0) (r := 1) (t := 39) dX5_readNumber_38 rfl rfl (Or.inl l9_1) rfl ?_
      refine g_dup (t := 40) dX5_readNumber_39 rfl rfl ?_
      refine gm_getI (o := 1) (ci := 5) (k := 3) (t := 43) l6_1 l9_1 s_1 gf_X5_32 rfl dX5_readNumber_40 rfl ?_
      refine g_iconst (t := 44) dX5_readNumber_43 c_iconst_1 rfl ?_
      refine g_iadd (t := 45) dX5_readNumber_44 rfl ?_
      rw [gup_self, gi_s]
      refine gm_putI (o := 1) (ci := 5) (k := 3) (t := 48) l6_1 l9_1 s_1 gp_X5_32 rfl rfl rfl dX5_readNumber_45 rfl ?_
      first
      | (have e : fdN T w j = j := if_neg (by rw [bI_0 h35]; decide)
         rw [e] at T2
         exact T2)
      | (have e : fdN T w j = j + 1 := if_pos (bI_n0 h35)
         rw [e] at T2
         rw [gup_gup]
         exact T2)
  refine g_aload_n (i := 0) (r := 1) (t := 1) dX5_readNumber_0 rfl rfl (Or.inl l9_1) rfl ?_
  refine g_cVd (o := 1) (t := 4) mX5_skipBlanks k_X5_46 imX5_skipBlanks seX5_skipBlanks l6_1 l9_1 s_1 rfl dX5_readNumber_1 (x5_skipBlanks hT h3 hj) rfl rfl (by decide) (by decide) (Nat.le_of_ble_eq_true rfl) rfl (Nat.le_refl _) ?_
  rw [← hjj]
  refine g_aload_n (i := 0) (r := 1) (t := 5) dX5_readNumber_4 rfl rfl (Or.inl l9_1) rfl ?_
  refine gm_getI (o := 1) (ci := 5) (k := 3) (t := 8) l6_1 l9_1 s_1 gf_X5_32 rfl dX5_readNumber_5 rfl ?_
  rw [gup_self]
  refine g_istore_n (i := 2) (t := 9) (L1 := [_, _, _, _, _, _]) dX5_readNumber_8 rfl (by decide) rfl rfl rfl ?_
  refine g_iload_n (i := 1) (t := 10) dX5_readNumber_9 rfl rfl rfl ?_
  refine g_bipush (t := 12) dX5_readNumber_10 c_bipush_6 rfl ?_
  refine g_icmp_ne_n (t1 := 32) (t2 := 15) dX5_readNumber_12 (by decide) rfl (by omega) (by omega) (fun h12 => ?_) (fun h12 => ?_)
  · refine g_iconst (t := 33) dX5_readNumber_32 c_iconst_0 rfl ?_
    first
    | (have e : ngN T w j = true := decide_eq_true ⟨h12, h25⟩
       rw [e] at T1
       exact T1)
    | (have e : ngN T w j = false := decide_eq_false (fun z => h12 z.1)
       rw [e] at T1
       exact T1)
    | (have e : ngN T w j = false := decide_eq_false (fun z => h25 z.2)
       rw [e] at T1
       exact T1)
  · refine g_aload_n (i := 0) (r := 1) (t := 16) dX5_readNumber_15 rfl rfl (Or.inl l9_1) rfl ?_
    refine g_aload_n (i := 0) (r := 1) (t := 17) dX5_readNumber_16 rfl rfl (Or.inl l9_1) rfl ?_
    refine gm_getI (o := 1) (ci := 5) (k := 3) (t := 20) l6_1 l9_1 s_1 gf_X5_32 rfl dX5_readNumber_17 rfl ?_
    rw [gup_self]
    refine g_cVp (o := 1) (t := 23) mX5_byteAt k_X5_49 imX5_byteAt seX5_byteAt l6_1 l9_1 s_1 rfl dX5_readNumber_20 (x5_byteAt hT.up (by omega)) rfl rfl (by decide) (by decide) (Nat.le_of_ble_eq_true rfl) rfl (Nat.le_refl _) ?_
    refine g_bipush (t := 25) dX5_readNumber_23 c_bipush_45 rfl ?_
    refine g_icmp_ne (t1 := 32) (t2 := 28) dX5_readNumber_25 (by decide) rfl (fun h25 => ?_) (fun h25 => ?_)
    · refine g_iconst (t := 33) dX5_readNumber_32 c_iconst_0 rfl ?_
      first
      | (have e : ngN T w j = true := decide_eq_true ⟨h12, h25⟩
         rw [e] at T1
         exact T1)
      | (have e : ngN T w j = false := decide_eq_false (fun z => h12 z.1)
         rw [e] at T1
         exact T1)
      | (have e : ngN T w j = false := decide_eq_false (fun z => h25 z.2)
         rw [e] at T1
         exact T1)
    · refine g_iconst (t := 29) dX5_readNumber_28 c_iconst_1 rfl ?_
      refine g_goto (t := 33) dX5_readNumber_29 (by decide) ?_
      first
      | (have e : ngN T w j = true := decide_eq_true ⟨h12, h25⟩
         rw [e] at T1
         exact T1)
      | (have e : ngN T w j = false := decide_eq_false (fun z => h12 z.1)
         rw [e] at T1
         exact T1)
      | (have e : ngN T w j = false := decide_eq_false (fun z => h25 z.2)
         rw [e] at T1
         exact T1)
end X5B

