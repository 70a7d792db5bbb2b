/-! FlexRows: the digest -/
abbrev gPL (E : gE) (F : gF) (as : List Value) (I : Nat → Nat → Int32) (h : Int64) (v : Int64) : Prop := gEv E F 62 as (gM I h) (fun r σ' => r = some (.long v) ∧ σ' = gM I h)
section GCL
variable {E : gE} {F : gF} {pc : Nat} {L st : List Value} {I : Nat → Nat → Int32} {h : Int64} {K : gK}
theorem g_cVl {Fc : gF} {n index t o ci : Nat} {T : u_T} {N : Nat} {as S : List Value} {v : Int64} (hm : gMi Fc n) (hw1 : Cond.methodLink F.1.cls index Fc.1 ∈ gB) (hw2 : Cond.instanceMethod Fc.1 ∈ gB) (hw3 : Cond.selects Fc.1.cls Fc.1 Fc.1 ∈ gB) (ho : o < 62) (h9 : o < 1000) (hsh : gsh o = .inl ci) (hcl : vwCl[ci]? = some (Fc.1.cls, T, N)) (d : decode F.2.1 pc = .ok (.invokevirtual index, 3)) (he : gPL E Fc (.ref o :: as) I h v) (hn : as.length = n) (hS : S = as.reverse ++ .ref o :: st) (hfr : Fc.2.2.2.2.1 + 1 ≤ F.2.2.2.2.1) (hlo : 8 + (Fc.2.2.1 + 11) + Fc.2.2.2.2.2 ≤ F.2.2.2.2.2) (hst : (st.map fun v => v.category).sum ≤ 8) (e : pc + 3 = t) (kk : Wp E F 62 t L (.long v :: st) (gM I h) K) : Wp E F 62 pc L S (gM I h) K :=
  g_callV hm hw1 hw2 hw3 ho h9 hsh hcl he hn hS (Nat.le_refl _) hfr hlo hst d e fun r σ' q _ => by obtain ⟨rfl, rfl⟩ := q; exact kk
theorem g_retL {v v0 : Int64} (d : decode F.2.1 pc = .ok (.lreturn, 1)) (hr : F.2.2.2.1 = some .long) (hq : v = v0) : Wp E F 62 pc L [.long v] (gM I h) (gRet F 62 (fun r σ' => r = some (.long v0) ∧ σ' = gM I h)) :=
  Wp.here ⟨rfl, Or.inr (Or.inr (Or.inl ⟨d, v, rfl, hr, by rw [hq], rfl⟩))⟩
end GCL
theorem dgV_cong {h : Int64} {g g2 : Nat → Int32} : ∀ n, (∀ k, k < n → g k = g2 k) → dgV h g n = dgV h g2 n
  | 0, _ => rfl
  | n + 1, hg => by rw [dgV, dgV, dgV_cong n (fun k hk => hg k (by omega)), hg n (by omega)]
section X6G
variable {E : gE} {I : Nat → Nat → Int32} {h : Int64} {S : sT}
theorem x6_wi_loop1 {x : Int64} {it : Nat} (hX : rX I S) (hi : it < 16) {K : gK} : ∀ (d k : Nat) (v5 : Value), k + d = 11 →
    (∀ v4 v5, Wp E fX6_withItem 62 34 [.ref 0, .long (dgV x (fun w => S.1.2.1 it w) 11), .null, .int (nI it), v4, v5] [] (gM I h) K) →
    Wp E fX6_withItem 62 3 [.ref 0, .long (dgV x (fun w => S.1.2.1 it w) k), .null, .int (nI it), .int (nI k), v5] [] (gM I h) K := by
  have ⟨hn, h4, hP, hB, hH, hT, _⟩ := hX
  intro d
  induction d with
  | zero =>
    intro k v5 hk kk
    have hk : k = 11 := by omega
    subst hk
    refine g_iload (i := 4) (t := 5) dX6_withItem_3 rfl rfl ?_
    refine g_bipush (t := 7) dX6_withItem_5 c_bipush_10 rfl ?_
    refine g_icmp_gt_n (t1 := 34) (t2 := 10) dX6_withItem_7 (by decide) rfl (by omega) (by omega) (fun h7 => ?_) (fun h7 => ?_)
    · exact kk _ _
    · exfalso; omega
  | succ d ih =>
    intro k v5 hk kk
    refine g_iload (i := 4) (t := 5) dX6_withItem_3 rfl rfl ?_
    refine g_bipush (t := 7) dX6_withItem_5 c_bipush_10 rfl ?_
    refine g_icmp_gt_n (t1 := 34) (t2 := 10) dX6_withItem_7 (by decide) rfl (by omega) (by omega) (fun h7 => ?_) (fun h7 => ?_)
    · exfalso; omega
    · refine g_lload_n (i := 1) (t := 11) dX6_withItem_10 rfl rfl rfl ?_
      refine g_ldc2 (v := 31) (t := 14) kc_X6_172 dX6_withItem_11 rfl ?_
      refine g_lmul (t := 15) dX6_withItem_14 rfl ?_
      refine g_aload_n (i := 0) (r := 0) (t := 16) dX6_withItem_15 rfl rfl (Or.inl l9_0) rfl ?_
      refine gm_getR (o := 0) (ci := 6) (k := 1) (r := 4) (t := 19) l6_0 l9_0 s_0 gf_X6_19 rfl r_0_1 l9_4 dX6_withItem_16 rfl ?_
      refine g_iload_n (i := 3) (t := 20) dX6_withItem_19 rfl rfl rfl ?_
      refine g_iload (i := 4) (t := 22) dX6_withItem_20 rfl rfl ?_
      refine g_cVp (o := 4) (t := 25) mX4_property k_X6_109 imX4_property seX4_property l6_4 l9_4 s_4 rfl dX6_withItem_22 (x4_property (by omega) (by omega)) rfl rfl (by decide) (by decide) (Nat.le_of_ble_eq_true rfl) rfl ?_
      refine g_top (y := S.1.2.1 it k) (by rw [← hP]) ?_
      refine g_i2l (t := 26) dX6_withItem_25 rfl ?_
      refine g_ladd (t := 27) dX6_withItem_26 rfl ?_
      refine g_lstore_n (i := 1) (t := 28) (L1 := [_, _, _, _, _, _]) dX6_withItem_27 rfl (by decide) rfl rfl rfl ?_
      refine g_iinc (i := 4) (t := 31) (L1 := [_, _, _, _, _, _]) dX6_withItem_28 rfl (gi_1 _) (by decide) rfl rfl rfl ?_
      refine g_goto (t := 3) dX6_withItem_31 (by decide) ?_
      exact ih (k + 1) _ (by omega) kk
theorem x6_wi_loop2 {x : Int64} {it p : Nat} (hX : rX I S) (hL : lX I S.1) (hp : p < sC S.1) : ∀ (d k : Nat), k + d = 8 → Wp E fX6_withItem 62 76 [.ref 0, .long (dgV x (liV S.1 p) k), .null, .int (nI it), .int (nI p), .int (nI k)] [] (gM I h) (gRet fX6_withItem 62 (fun r σ' => r = some (.long (dgV x (liV S.1 p) 8)) ∧ σ' = gM I h)) := by
  intro d
  induction d with
  | zero =>
    intro k hk
    have hk : k = 8 := by omega
    subst hk
    refine g_iload (i := 5) (t := 78) dX6_withItem_76 rfl rfl ?_
    refine g_bipush (t := 80) dX6_withItem_78 c_bipush_7 rfl ?_
    refine g_icmp_gt_n (t1 := 105) (t2 := 83) dX6_withItem_80 (by decide) rfl (by omega) (by omega) (fun h80 => ?_) (fun h80 => ?_)
    · refine g_lload_n (i := 1) (t := 106) dX6_withItem_105 rfl rfl rfl ?_
      exact g_retL dX6_withItem_106 rfl (rfl)
    · exfalso; omega
  | succ d ih =>
    intro k hk
    refine g_iload (i := 5) (t := 78) dX6_withItem_76 rfl rfl ?_
    refine g_bipush (t := 80) dX6_withItem_78 c_bipush_7 rfl ?_
    refine g_icmp_gt_n (t1 := 105) (t2 := 83) dX6_withItem_80 (by decide) rfl (by omega) (by omega) (fun h80 => ?_) (fun h80 => ?_)
    · exfalso; omega
    · refine g_lload_n (i := 1) (t := 84) dX6_withItem_83 rfl rfl rfl ?_
      refine g_ldc2 (v := 31) (t := 87) kc_X6_172 dX6_withItem_84 rfl ?_
      refine g_lmul (t := 88) dX6_withItem_87 rfl ?_
      refine g_aload_n (i := 0) (r := 0) (t := 89) dX6_withItem_88 rfl rfl (Or.inl l9_0) rfl ?_
      refine g_iload (i := 4) (t := 91) dX6_withItem_89 rfl rfl ?_
      refine g_iload (i := 5) (t := 93) dX6_withItem_91 rfl rfl ?_
      refine g_cVp (o := 0) (t := 96) mX6_lieAt k_X6_138 imX6_lieAt seX6_lieAt l6_0 l9_0 s_0 rfl dX6_withItem_93 (x6_lieAt hX hL hp (by omega)) rfl rfl (by decide) (by decide) (Nat.le_of_ble_eq_true rfl) rfl ?_
      refine g_i2l (t := 97) dX6_withItem_96 rfl ?_
      refine g_ladd (t := 98) dX6_withItem_97 rfl ?_
      refine g_lstore_n (i := 1) (t := 99) (L1 := [_, _, _, _, _, _]) dX6_withItem_98 rfl (by decide) rfl rfl rfl ?_
      refine g_iinc (i := 5) (t := 102) (L1 := [_, _, _, _, _, _]) dX6_withItem_99 rfl (gi_1 _) (by decide) rfl rfl rfl ?_
      refine g_goto (t := 76) dX6_withItem_102 (by decide) ?_
      exact ih (k + 1) (by omega)
theorem x6_withItem {x : Int64} {it : Nat} (hX : rX I S) (hL : lX I S.1) (hi : it < S.1.1) : gPL E fX6_withItem [.ref 0, .long x, .int (nI it)] I h (dgI S x it) := by
  refine gEv.of rfl (Nat.le_refl _) (Nat.le_of_ble_eq_true rfl) (L := [.ref 0, .long x, .null, .int (nI it), .null, .null]) rfl ?_
  have ⟨hn, h4, hP, hB, hH, hT, _⟩ := hX
  have T34 : ∀ v4 v5, Wp E fX6_withItem 62 34 [.ref 0, .long (dgV x (fun w => S.1.2.1 it w) 11), .null, .int (nI it), v4, v5] [] (gM I h) (gRet fX6_withItem 62 (fun r σ' => r = some (.long (dgI S x it)) ∧ σ' = gM I h)) := by
    intro v4 v5
    refine g_lload_n (i := 1) (t := 35) dX6_withItem_34 rfl rfl rfl ?_
    refine g_ldc2 (v := 31) (t := 38) kc_X6_172 dX6_withItem_35 rfl ?_
    refine g_lmul (t := 39) dX6_withItem_38 rfl ?_
    refine g_aload_n (i := 0) (r := 0) (t := 40) dX6_withItem_39 rfl rfl (Or.inl l9_0) rfl ?_
    refine gm_getR (o := 0) (ci := 6) (k := 1) (r := 4) (t := 43) l6_0 l9_0 s_0 gf_X6_19 rfl r_0_1 l9_4 dX6_withItem_40 rfl ?_
    refine g_iload_n (i := 3) (t := 44) dX6_withItem_43 rfl rfl rfl ?_
    refine g_cVp (o := 4) (t := 47) mX4_wish k_X6_135 imX4_wish seX4_wish l6_4 l9_4 s_4 rfl dX6_withItem_44 (x4_wish (by omega)) rfl rfl (by decide) (by decide) (Nat.le_of_ble_eq_true rfl) rfl ?_
    refine g_top (y := wsh S.1.2.1 it) (by rw [← hP]) ?_
    refine g_i2l (t := 48) dX6_withItem_47 rfl ?_
    refine g_ladd (t := 49) dX6_withItem_48 rfl ?_
    refine g_lstore_n (i := 1) (t := 50) (L1 := [_, _, _, _, _, _]) dX6_withItem_49 rfl (by decide) rfl rfl rfl ?_
    refine g_aload_n (i := 0) (r := 0) (t := 51) dX6_withItem_50 rfl rfl (Or.inl l9_0) rfl ?_
    refine gm_getR (o := 0) (ci := 6) (k := 1) (r := 4) (t := 54) l6_0 l9_0 s_0 gf_X6_19 rfl r_0_1 l9_4 dX6_withItem_51 rfl ?_
    refine g_iload_n (i := 3) (t := 55) dX6_withItem_54 rfl rfl rfl ?_
    refine g_bipush (t := 57) dX6_withItem_55 c_bipush_10 rfl ?_
    refine g_cVp (o := 4) (t := 60) mX4_property k_X6_109 imX4_property seX4_property l6_4 l9_4 s_4 rfl dX6_withItem_57 (x4_property (by omega) (by omega)) rfl rfl (by decide) (by decide) (Nat.le_of_ble_eq_true rfl) rfl ?_
    refine g_top (y := S.1.2.1 it 10) (by rw [← hP]) ?_
    refine g_if_ne (t1 := 105) (t2 := 63) dX6_withItem_60 (by decide) rfl (fun h60 => ?_) (fun h60 => ?_)
    · refine g_lload_n (i := 1) (t := 106) dX6_withItem_105 rfl rfl rfl ?_
      exact g_retL dX6_withItem_106 rfl (by
    unfold dgI
    rw [if_neg h60])
    · have h60' : S.1.2.1 it 10 = 0 := h60
      obtain ⟨p, hp, hpi⟩ : ∃ p, p < sC S.1 ∧ (sQ S.1).2.2.2 p = it := ordS_all S.1.2.1 S.1.1 it hi h60'
      refine g_aload_n (i := 0) (r := 0) (t := 64) dX6_withItem_63 rfl rfl (Or.inl l9_0) rfl ?_
      refine gm_getR (o := 0) (ci := 6) (k := 3) (r := 11) (t := 67) l6_0 l9_0 s_0 gf_X6_35 rfl r_0_3 l9_11 dX6_withItem_64 rfl ?_
      refine g_iload_n (i := 3) (t := 68) dX6_withItem_67 rfl rfl rfl ?_
      refine g_cVp (o := 11) (t := 71) mX2_placeOf k_X6_99 imX2_placeOf seX2_placeOf l6_11 l9_11 s_11 rfl dX6_withItem_68 (x2_placeOf hL.1 (by omega)) rfl rfl (by decide) (by decide) (Nat.le_of_ble_eq_true rfl) rfl ?_
      refine g_top (y := nI p) (by rw [← hpi, plc_of hp]) ?_
      refine g_istore (i := 4) (t := 73) (L1 := [_, _, _, _, _, _]) dX6_withItem_71 (by decide) rfl rfl rfl ?_
      refine g_iconst (t := 74) dX6_withItem_73 c_iconst_0 rfl ?_
      refine g_istore (i := 5) (t := 76) (L1 := [_, _, _, _, _, _]) dX6_withItem_74 (by decide) rfl rfl rfl ?_
      have e : dgI S x it = dgV (dgV x (fun w => S.1.2.1 it w) 11 * 31 + (wsh S.1.2.1 it).toInt64) (liV S.1 p) 8 := by
        unfold dgI
        rw [if_pos h60']
        refine dgV_cong 8 fun k _ => ?_
        have : plcS (sQ S.1).2.2.2 it (sC S.1) 0 = nI p := by rw [← hpi, plc_of hp]
        show liV S.1 (plcS (sQ S.1).2.2.2 it (sC S.1) 0).toNatClampNeg k = _
        rw [this, nI_clamp (by have := sC_le hn; omega)]
      rw [e]
      exact x6_wi_loop2 hX hL hp 8 0 rfl
  refine g_iconst (t := 1) dX6_withItem_0 c_iconst_0 rfl ?_
  refine g_istore (i := 4) (t := 3) (L1 := [_, _, _, _, _, _]) dX6_withItem_1 (by decide) rfl rfl rfl ?_
  exact x6_wi_loop1 hX (by omega) 11 0 _ rfl T34
/-- the digest's five loops, from the last to the first -/
theorem x6_dg5 {x : Int64} {I0 : Nat → Nat → Int32} {y : Int64} (hX : rX I S) (hs : gSame CL I0 I) {v4 : Value} (hy : dgV x (fun j => S.2.2.2 j) S.2.2.1 = y) : ∀ (d k : Nat), k + d = S.2.2.1 → Wp E fX6_digest 62 148 [.ref 0, .long (dgV x (fun j => S.2.2.2 j) k), .null, .int (nI k), v4] [] (gM I h) (gRet fX6_digest 62 (fun r σ' => ∃ (v : Int64) (I' : Nat → Nat → Int32), r = some (.long v) ∧ σ' = gM I' h ∧ gSame CL I0 I' ∧ rX I' S ∧ v = y)) := by
  have ⟨hn, h4, hP, hB, hH, hT, _⟩ := hX
  have h80 := hT.2.1
  intro d
  induction d with
  | zero =>
    intro k hk
    have hk : k = S.2.2.1 := by omega
    subst hk
    refine g_iload_n (i := 3) (t := 149) dX6_digest_148 rfl rfl rfl ?_
    refine g_aload_n (i := 0) (r := 0) (t := 150) dX6_digest_149 rfl rfl (Or.inl l9_0) rfl ?_
    refine gm_getR (o := 0) (ci := 6) (k := 0) (r := 1) (t := 153) l6_0 l9_0 s_0 gf_X6_10 rfl r_0_0 l9_1 dX6_digest_150 rfl ?_
    refine gm_getI (o := 1) (ci := 5) (k := 2) (t := 156) l6_1 l9_1 s_1 gf_X6_68 rfl dX6_digest_153 rfl ?_
    rw [hT.1]
    refine g_icmp_ge_n (t1 := 181) (t2 := 159) dX6_digest_156 (by decide) rfl (by omega) (by omega) (fun h156 => ?_) (fun h156 => ?_)
    · refine g_lload_n (i := 1) (t := 182) dX6_digest_181 rfl rfl rfl ?_
      exact Wp.here ⟨rfl, Or.inr (Or.inr (Or.inl ⟨dX6_digest_182, _, rfl, rfl, _, _, rfl, rfl, hs, hX, hy⟩))⟩
    · exfalso; omega
  | succ d ih =>
    intro k hk
    refine g_iload_n (i := 3) (t := 149) dX6_digest_148 rfl rfl rfl ?_
    refine g_aload_n (i := 0) (r := 0) (t := 150) dX6_digest_149 rfl rfl (Or.inl l9_0) rfl ?_
    refine gm_getR (o := 0) (ci := 6) (k := 0) (r := 1) (t := 153) l6_0 l9_0 s_0 gf_X6_10 rfl r_0_0 l9_1 dX6_digest_150 rfl ?_
    refine gm_getI (o := 1) (ci := 5) (k := 2) (t := 156) l6_1 l9_1 s_1 gf_X6_68 rfl dX6_digest_153 rfl ?_
    rw [hT.1]
    refine g_icmp_ge_n (t1 := 181) (t2 := 159) dX6_digest_156 (by decide) rfl (by omega) (by omega) (fun h156 => ?_) (fun h156 => ?_)
    · exfalso; omega
    · refine g_lload_n (i := 1) (t := 160) dX6_digest_159 rfl rfl rfl ?_
      refine g_ldc2 (v := 31) (t := 163) kc_X6_172 dX6_digest_160 rfl ?_
      refine g_lmul (t := 164) dX6_digest_163 rfl ?_
      refine g_aload_n (i := 0) (r := 0) (t := 165) dX6_digest_164 rfl rfl (Or.inl l9_0) rfl ?_
      refine gm_getR (o := 0) (ci := 6) (k := 0) (r := 1) (t := 168) l6_0 l9_0 s_0 gf_X6_10 rfl r_0_0 l9_1 dX6_digest_165 rfl ?_
      refine g_iload_n (i := 3) (t := 169) dX6_digest_168 rfl rfl rfl ?_
      refine g_cVp (o := 1) (t := 172) mX5_byteAt k_X6_178 imX5_byteAt seX5_byteAt l6_1 l9_1 s_1 rfl dX6_digest_169 (x5_byteAt hT (by omega)) rfl rfl (by decide) (by decide) (Nat.le_of_ble_eq_true rfl) rfl ?_
      refine g_top (y := S.2.2.2 k) (by rw [byt, if_pos (by omega)]) ?_
      refine g_i2l (t := 173) dX6_digest_172 rfl ?_
      refine g_ladd (t := 174) dX6_digest_173 rfl ?_
      refine g_lstore_n (i := 1) (t := 175) (L1 := [_, _, _, _, _]) dX6_digest_174 rfl (by decide) rfl rfl rfl ?_
      refine g_iinc (i := 3) (t := 178) (L1 := [_, _, _, _, _]) dX6_digest_175 rfl (gi_1 _) (by decide) rfl rfl rfl ?_
      refine g_goto (t := 148) dX6_digest_178 (by decide) ?_
      exact ih (k + 1) (by omega)
theorem x6_dg4 {x : Int64} {I0 : Nat → Nat → Int32} (hX : rX I S) (hL : lX I S.1) (hs : gSame CL I0 I) {v4 : Value} : ∀ (d k : Nat), k + d = sC S.1 → Wp E fX6_digest 62 113 [.ref 0, .long (dgV x (fun p => nI ((sQ S.1).2.2.2 p)) k), .null, .int (nI k), v4] [] (gM I h) (gRet fX6_digest 62 (fun r σ' => ∃ (v : Int64) (I' : Nat → Nat → Int32), r = some (.long v) ∧ σ' = gM I' h ∧ gSame CL I0 I' ∧ rX I' S ∧ v = dgV (dgV x (fun p => nI ((sQ S.1).2.2.2 p)) (sC S.1)) (fun j => S.2.2.2 j) S.2.2.1)) := by
  have ⟨hn, h4, hP, hB, hH, hT, _⟩ := hX
  have hc := sC_le hn
  intro d
  induction d with
  | zero =>
    intro k hk
    have hk : k = sC S.1 := by omega
    subst hk
    refine g_iload_n (i := 3) (t := 114) dX6_digest_113 rfl rfl rfl ?_
    refine g_aload_n (i := 0) (r := 0) (t := 115) dX6_digest_114 rfl rfl (Or.inl l9_0) rfl ?_
    refine gm_getR (o := 0) (ci := 6) (k := 3) (r := 11) (t := 118) l6_0 l9_0 s_0 gf_X6_35 rfl r_0_3 l9_11 dX6_digest_115 rfl ?_
    refine gm_getI (o := 11) (ci := 2) (k := 0) (t := 121) l6_11 l9_11 s_11 gf_X6_141 rfl dX6_digest_118 rfl ?_
    rw [hL.1.2.1]
    refine g_icmp_ge_n (t1 := 146) (t2 := 124) dX6_digest_121 (by decide) rfl (by omega) (by omega) (fun h121 => ?_) (fun h121 => ?_)
    · refine g_iconst (t := 147) dX6_digest_146 c_iconst_0 rfl ?_
      refine g_istore_n (i := 3) (t := 148) (L1 := [_, _, _, _, _]) dX6_digest_147 rfl (by decide) rfl rfl rfl ?_
      exact x6_dg5 hX hs rfl S.2.2.1 0 (Nat.zero_add _)
    · exfalso; omega
  | succ d ih =>
    intro k hk
    refine g_iload_n (i := 3) (t := 114) dX6_digest_113 rfl rfl rfl ?_
    refine g_aload_n (i := 0) (r := 0) (t := 115) dX6_digest_114 rfl rfl (Or.inl l9_0) rfl ?_
    refine gm_getR (o := 0) (ci := 6) (k := 3) (r := 11) (t := 118) l6_0 l9_0 s_0 gf_X6_35 rfl r_0_3 l9_11 dX6_digest_115 rfl ?_
    refine gm_getI (o := 11) (ci := 2) (k := 0) (t := 121) l6_11 l9_11 s_11 gf_X6_141 rfl dX6_digest_118 rfl ?_
    rw [hL.1.2.1]
    refine g_icmp_ge_n (t1 := 146) (t2 := 124) dX6_digest_121 (by decide) rfl (by omega) (by omega) (fun h121 => ?_) (fun h121 => ?_)
    · exfalso; omega
    · refine g_lload_n (i := 1) (t := 125) dX6_digest_124 rfl rfl rfl ?_
      refine g_ldc2 (v := 31) (t := 128) kc_X6_172 dX6_digest_125 rfl ?_
      refine g_lmul (t := 129) dX6_digest_128 rfl ?_
      refine g_aload_n (i := 0) (r := 0) (t := 130) dX6_digest_129 rfl rfl (Or.inl l9_0) rfl ?_
      refine gm_getR (o := 0) (ci := 6) (k := 3) (r := 11) (t := 133) l6_0 l9_0 s_0 gf_X6_35 rfl r_0_3 l9_11 dX6_digest_130 rfl ?_
      refine g_iload_n (i := 3) (t := 134) dX6_digest_133 rfl rfl rfl ?_
      refine g_cVp (o := 11) (t := 137) mX2_itemAt k_X6_144 imX2_itemAt seX2_itemAt l6_11 l9_11 s_11 rfl dX6_digest_134 (x2_itemAt hL.1 (by omega)) rfl rfl (by decide) (by decide) (Nat.le_of_ble_eq_true rfl) rfl ?_
      refine g_i2l (t := 138) dX6_digest_137 rfl ?_
      refine g_ladd (t := 139) dX6_digest_138 rfl ?_
      refine g_lstore_n (i := 1) (t := 140) (L1 := [_, _, _, _, _]) dX6_digest_139 rfl (by decide) rfl rfl rfl ?_
      refine g_iinc (i := 3) (t := 143) (L1 := [_, _, _, _, _]) dX6_digest_140 rfl (gi_1 _) (by decide) rfl rfl rfl ?_
      refine g_goto (t := 113) dX6_digest_143 (by decide) ?_
      exact ih (k + 1) (by omega)
theorem x6_dg3i {x : Int64} {l : Nat} (hX : rX I S) (hL : lX I S.1) (hl : l < nln (sQ S.1) (sC S.1)) {K : gK} : ∀ (d k : Nat), k + d = 8 →
    (∀ v4, Wp E fX6_digest 62 105 [.ref 0, .long (dgV x (lnV S.1 l) 8), .null, .int (nI l), v4] [] (gM I h) K) →
    Wp E fX6_digest 62 77 [.ref 0, .long (dgV x (lnV S.1 l) k), .null, .int (nI l), .int (nI k)] [] (gM I h) K := by
  intro d
  induction d with
  | zero =>
    intro k hk kk
    have hk : k = 8 := by omega
    subst hk
    refine g_iload (i := 4) (t := 79) dX6_digest_77 rfl rfl ?_
    refine g_bipush (t := 81) dX6_digest_79 c_bipush_7 rfl ?_
    refine g_icmp_gt_n (t1 := 105) (t2 := 84) dX6_digest_81 (by decide) rfl (by omega) (by omega) (fun h81 => ?_) (fun h81 => ?_)
    · exact kk _
    · exfalso; omega
  | succ d ih =>
    intro k hk kk
    refine g_iload (i := 4) (t := 79) dX6_digest_77 rfl rfl ?_
    refine g_bipush (t := 81) dX6_digest_79 c_bipush_7 rfl ?_
    refine g_icmp_gt_n (t1 := 105) (t2 := 84) dX6_digest_81 (by decide) rfl (by omega) (by omega) (fun h81 => ?_) (fun h81 => ?_)
    · exfalso; omega
    · refine g_lload_n (i := 1) (t := 85) dX6_digest_84 rfl rfl rfl ?_
      refine g_ldc2 (v := 31) (t := 88) kc_X6_172 dX6_digest_85 rfl ?_
      refine g_lmul (t := 89) dX6_digest_88 rfl ?_
      refine g_aload_n (i := 0) (r := 0) (t := 90) dX6_digest_89 rfl rfl (Or.inl l9_0) rfl ?_
      refine g_iload_n (i := 3) (t := 91) dX6_digest_90 rfl rfl rfl ?_
      refine g_iload (i := 4) (t := 93) dX6_digest_91 rfl rfl ?_
      refine g_cVp (o := 0) (t := 96) mX6_lineTells k_X6_149 imX6_lineTells seX6_lineTells l6_0 l9_0 s_0 rfl dX6_digest_93 (x6_lineTells hX hL hl (by omega)) rfl rfl (by decide) (by decide) (Nat.le_of_ble_eq_true rfl) rfl ?_
      refine g_i2l (t := 97) dX6_digest_96 rfl ?_
      refine g_ladd (t := 98) dX6_digest_97 rfl ?_
      refine g_lstore_n (i := 1) (t := 99) (L1 := [_, _, _, _, _]) dX6_digest_98 rfl (by decide) rfl rfl rfl ?_
      refine g_iinc (i := 4) (t := 102) (L1 := [_, _, _, _, _]) dX6_digest_99 rfl (gi_1 _) (by decide) rfl rfl rfl ?_
      refine g_goto (t := 77) dX6_digest_102 (by decide) ?_
      exact ih (k + 1) (by omega) kk
theorem x6_dg3 {x : Int64} {I0 : Nat → Nat → Int32} (hX : rX I S) (hL : lX I S.1) (hs : gSame CL I0 I) : ∀ (d k : Nat) (v4 : Value), k + d = nln (sQ S.1) (sC S.1) → Wp E fX6_digest 62 63 [.ref 0, .long (dgLs S x k), .null, .int (nI k), v4] [] (gM I h) (gRet fX6_digest 62 (fun r σ' => ∃ (v : Int64) (I' : Nat → Nat → Int32), r = some (.long v) ∧ σ' = gM I' h ∧ gSame CL I0 I' ∧ rX I' S ∧ v = dgV (dgV (dgLs S x (nln (sQ S.1) (sC S.1))) (fun p => nI ((sQ S.1).2.2.2 p)) (sC S.1)) (fun j => S.2.2.2 j) S.2.2.1)) := by
  have ⟨hn, h4, hP, hB, hH, hT, _⟩ := hX
  have hc := sC_le hn
  have hnl := nln_le (sQ S.1) (sC S.1)
  intro d
  induction d with
  | zero =>
    intro k v4 hk
    have hk : k = nln (sQ S.1) (sC S.1) := by omega
    subst hk
    refine g_iload_n (i := 3) (t := 64) dX6_digest_63 rfl rfl rfl ?_
    refine g_aload_n (i := 0) (r := 0) (t := 65) dX6_digest_64 rfl rfl (Or.inl l9_0) rfl ?_
    refine gm_getR (o := 0) (ci := 6) (k := 4) (r := 18) (t := 68) l6_0 l9_0 s_0 gf_X6_44 rfl r_0_4 l9_18 dX6_digest_65 rfl ?_
    refine gm_getI (o := 18) (ci := 1) (k := 0) (t := 71) l6_18 l9_18 s_18 gf_X6_147 rfl dX6_digest_68 rfl ?_
    rw [hL.2.1.1]
    refine g_icmp_ge_n (t1 := 111) (t2 := 74) dX6_digest_71 (by decide) rfl (by omega) (by omega) (fun h71 => ?_) (fun h71 => ?_)
    · refine g_iconst (t := 112) dX6_digest_111 c_iconst_0 rfl ?_
      refine g_istore_n (i := 3) (t := 113) (L1 := [_, _, _, _, _]) dX6_digest_112 rfl (by decide) rfl rfl rfl ?_
      exact x6_dg4 hX hL hs (sC S.1) 0 (Nat.zero_add _)
    · exfalso; omega
  | succ d ih =>
    intro k v4 hk
    have T105 : ∀ v4, Wp E fX6_digest 62 105 [.ref 0, .long (dgV (dgLs S x k) (lnV S.1 k) 8), .null, .int (nI k), v4] [] (gM I h) (gRet fX6_digest 62 (fun r σ' => ∃ (v : Int64) (I' : Nat → Nat → Int32), r = some (.long v) ∧ σ' = gM I' h ∧ gSame CL I0 I' ∧ rX I' S ∧ v = dgV (dgV (dgLs S x (nln (sQ S.1) (sC S.1))) (fun p => nI ((sQ S.1).2.2.2 p)) (sC S.1)) (fun j => S.2.2.2 j) S.2.2.1)) := by
      intro v4
      refine g_iinc (i := 3) (t := 108) (L1 := [_, _, _, _, _]) dX6_digest_105 rfl (gi_1 _) (by decide) rfl rfl rfl ?_
      refine g_goto (t := 63) dX6_digest_108 (by decide) ?_
      exact ih (k + 1) _ (by omega)
    refine g_iload_n (i := 3) (t := 64) dX6_digest_63 rfl rfl rfl ?_
    refine g_aload_n (i := 0) (r := 0) (t := 65) dX6_digest_64 rfl rfl (Or.inl l9_0) rfl ?_
    refine gm_getR (o := 0) (ci := 6) (k := 4) (r := 18) (t := 68) l6_0 l9_0 s_0 gf_X6_44 rfl r_0_4 l9_18 dX6_digest_65 rfl ?_
    refine gm_getI (o := 18) (ci := 1) (k := 0) (t := 71) l6_18 l9_18 s_18 gf_X6_147 rfl dX6_digest_68 rfl ?_
    rw [hL.2.1.1]
    refine g_icmp_ge_n (t1 := 111) (t2 := 74) dX6_digest_71 (by decide) rfl (by omega) (by omega) (fun h71 => ?_) (fun h71 => ?_)
    · exfalso; omega
    · refine g_iconst (t := 75) dX6_digest_74 c_iconst_0 rfl ?_
      refine g_istore (i := 4) (t := 77) (L1 := [_, _, _, _, _]) dX6_digest_75 (by decide) rfl rfl rfl ?_
      exact x6_dg3i hX hL (by omega) 8 0 rfl T105
theorem x6_dg2 {x : Int64} {I0 : Nat → Nat → Int32} (hX : rX I S) (hL : lX I S.1) (hs : gSame CL I0 I) {v4 : Value} : ∀ (d k : Nat), k + d = S.1.1 → Wp E fX6_digest 62 37 [.ref 0, .long (dgIs S x k), .null, .int (nI k), v4] [] (gM I h) (gRet fX6_digest 62 (fun r σ' => ∃ (v : Int64) (I' : Nat → Nat → Int32), r = some (.long v) ∧ σ' = gM I' h ∧ gSame CL I0 I' ∧ rX I' S ∧ v = dgV (dgV (dgLs S (dgIs S x S.1.1) (nln (sQ S.1) (sC S.1))) (fun p => nI ((sQ S.1).2.2.2 p)) (sC S.1)) (fun j => S.2.2.2 j) S.2.2.1)) := by
  have ⟨hn, h4, hP, hB, hH, hT, _⟩ := hX
  intro d
  induction d with
  | zero =>
    intro k hk
    have hk : k = S.1.1 := by omega
    subst hk
    refine g_iload_n (i := 3) (t := 38) dX6_digest_37 rfl rfl rfl ?_
    refine g_aload_n (i := 0) (r := 0) (t := 39) dX6_digest_38 rfl rfl (Or.inl l9_0) rfl ?_
    refine gm_getR (o := 0) (ci := 6) (k := 1) (r := 4) (t := 42) l6_0 l9_0 s_0 gf_X6_19 rfl r_0_1 l9_4 dX6_digest_39 rfl ?_
    refine gm_getI (o := 4) (ci := 4) (k := 0) (t := 45) l6_4 l9_4 s_4 gf_X6_72 rfl dX6_digest_42 rfl ?_
    rw [h4]
    refine g_icmp_ge_n (t1 := 61) (t2 := 48) dX6_digest_45 (by decide) rfl (by omega) (by omega) (fun h45 => ?_) (fun h45 => ?_)
    · refine g_iconst (t := 62) dX6_digest_61 c_iconst_0 rfl ?_
      refine g_istore_n (i := 3) (t := 63) (L1 := [_, _, _, _, _]) dX6_digest_62 rfl (by decide) rfl rfl rfl ?_
      exact x6_dg3 hX hL hs (nln (sQ S.1) (sC S.1)) 0 _ (Nat.zero_add _)
    · exfalso; omega
  | succ d ih =>
    intro k hk
    refine g_iload_n (i := 3) (t := 38) dX6_digest_37 rfl rfl rfl ?_
    refine g_aload_n (i := 0) (r := 0) (t := 39) dX6_digest_38 rfl rfl (Or.inl l9_0) rfl ?_
    refine gm_getR (o := 0) (ci := 6) (k := 1) (r := 4) (t := 42) l6_0 l9_0 s_0 gf_X6_19 rfl r_0_1 l9_4 dX6_digest_39 rfl ?_
    refine gm_getI (o := 4) (ci := 4) (k := 0) (t := 45) l6_4 l9_4 s_4 gf_X6_72 rfl dX6_digest_42 rfl ?_
    rw [h4]
    refine g_icmp_ge_n (t1 := 61) (t2 := 48) dX6_digest_45 (by decide) rfl (by omega) (by omega) (fun h45 => ?_) (fun h45 => ?_)
    · exfalso; omega
    · refine g_aload_n (i := 0) (r := 0) (t := 49) dX6_digest_48 rfl rfl (Or.inl l9_0) rfl ?_
      refine g_lload_n (i := 1) (t := 50) dX6_digest_49 rfl rfl rfl ?_
      refine g_iload_n (i := 3) (t := 51) dX6_digest_50 rfl rfl rfl ?_
      refine g_cVl (o := 0) (t := 54) mX6_withItem k_X6_174 imX6_withItem seX6_withItem l6_0 l9_0 s_0 rfl dX6_digest_51 (x6_withItem hX hL (by omega)) rfl rfl (by decide) (by decide) (Nat.le_of_ble_eq_true rfl) rfl ?_
      refine g_lstore_n (i := 1) (t := 55) (L1 := [_, _, _, _, _]) dX6_digest_54 rfl (by decide) rfl rfl rfl ?_
      refine g_iinc (i := 3) (t := 58) (L1 := [_, _, _, _, _]) dX6_digest_55 rfl (gi_1 _) (by decide) rfl rfl rfl ?_
      refine g_goto (t := 37) dX6_digest_58 (by decide) ?_
      exact ih (k + 1) (by omega)
theorem x6_dg1 {I0 : Nat → Nat → Int32} (hX : rX I S) (hL : lX I S.1) (hs : gSame CL I0 I) {v4 : Value} : ∀ (d k : Nat), k + d = 14 → Wp E fX6_digest 62 10 [.ref 0, .long (dgV 148 (cnV S) k), .null, .int (nI k), v4] [] (gM I h) (gRet fX6_digest 62 (fun r σ' => ∃ (v : Int64) (I' : Nat → Nat → Int32), r = some (.long v) ∧ σ' = gM I' h ∧ gSame CL I0 I' ∧ rX I' S ∧ v = dgA S)) := by
  have ⟨hn, h4, hP, hB, hH, hT, _⟩ := hX
  intro d
  induction d with
  | zero =>
    intro k hk
    have hk : k = 14 := by omega
    subst hk
    refine g_iload_n (i := 3) (t := 11) dX6_digest_10 rfl rfl rfl ?_
    refine g_bipush (t := 13) dX6_digest_11 c_bipush_13 rfl ?_
    refine g_icmp_gt_n (t1 := 35) (t2 := 16) dX6_digest_13 (by decide) rfl (by omega) (by omega) (fun h13 => ?_) (fun h13 => ?_)
    · refine g_iconst (t := 36) dX6_digest_35 c_iconst_0 rfl ?_
      refine g_istore_n (i := 3) (t := 37) (L1 := [_, _, _, _, _]) dX6_digest_36 rfl (by decide) rfl rfl rfl ?_
      exact x6_dg2 hX hL hs S.1.1 0 (Nat.zero_add _)
    · exfalso; omega
  | succ d ih =>
    intro k hk
    refine g_iload_n (i := 3) (t := 11) dX6_digest_10 rfl rfl rfl ?_
    refine g_bipush (t := 13) dX6_digest_11 c_bipush_13 rfl ?_
    refine g_icmp_gt_n (t1 := 35) (t2 := 16) dX6_digest_13 (by decide) rfl (by omega) (by omega) (fun h13 => ?_) (fun h13 => ?_)
    · exfalso; omega
    · refine g_lload_n (i := 1) (t := 17) dX6_digest_16 rfl rfl rfl ?_
      refine g_ldc2 (v := 31) (t := 20) kc_X6_172 dX6_digest_17 rfl ?_
      refine g_lmul (t := 21) dX6_digest_20 rfl ?_
      refine g_aload_n (i := 0) (r := 0) (t := 22) dX6_digest_21 rfl rfl (Or.inl l9_0) rfl ?_
      refine g_iload_n (i := 3) (t := 23) dX6_digest_22 rfl rfl rfl ?_
      refine g_cVp (o := 0) (t := 26) mX6_counted k_X6_167 imX6_counted seX6_counted l6_0 l9_0 s_0 rfl dX6_digest_23 (x6_counted hX hL (by omega)) rfl rfl (by decide) (by decide) (Nat.le_of_ble_eq_true rfl) rfl ?_
      refine g_i2l (t := 27) dX6_digest_26 rfl ?_
      refine g_ladd (t := 28) dX6_digest_27 rfl ?_
      refine g_lstore_n (i := 1) (t := 29) (L1 := [_, _, _, _, _]) dX6_digest_28 rfl (by decide) rfl rfl rfl ?_
      refine g_iinc (i := 3) (t := 32) (L1 := [_, _, _, _, _]) dX6_digest_29 rfl (gi_1 _) (by decide) rfl rfl rfl ?_
      refine g_goto (t := 10) dX6_digest_32 (by decide) ?_
      exact ih (k + 1) (by omega)
theorem x6_digest (hX : rX I S) : gEv E fX6_digest 62 [.ref 0] (gM I h) (fun r σ' => ∃ (v : Int64) (I' : Nat → Nat → Int32), r = some (.long v) ∧ σ' = gM I' h ∧ gSame CL I I' ∧ rX I' S ∧ v = dgA S) := by
  refine gEv.of rfl (Nat.le_refl _) (Nat.le_of_ble_eq_true rfl) (L := [.ref 0, .null, .null, .null, .null]) rfl ?_
  refine g_aload_n (i := 0) (r := 0) (t := 1) dX6_digest_0 rfl rfl (Or.inl l9_0) rfl ?_
  refine g_cVv (o := 0) (t := 4) mX6_layOut k_X6_96 imX6_layOut seX6_layOut l6_0 l9_0 s_0 rfl dX6_digest_1 (x6_layOut hX) rfl rfl (by decide) (by decide) (Nat.le_of_ble_eq_true rfl) rfl (fun J q => ?_)
  refine g_ldc2 (v := 148) (t := 7) kc_X6_170 dX6_digest_4 rfl ?_
  refine g_lstore_n (i := 1) (t := 8) (L1 := [_, _, _, _, _]) dX6_digest_7 rfl (by decide) rfl rfl rfl ?_
  refine g_iconst (t := 9) dX6_digest_8 c_iconst_0 rfl ?_
  refine g_istore_n (i := 3) (t := 10) (L1 := [_, _, _, _, _]) dX6_digest_9 rfl (by decide) rfl rfl rfl ?_
  exact x6_dg1 q.2.1 q.2.2 (q.1.wk rfl) 14 0 rfl
end X6G

