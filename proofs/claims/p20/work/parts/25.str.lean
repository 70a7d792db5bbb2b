/-! the JDK's String, as far as the words ask -/
theorem gro_k {i : Nat} (h : i < 9) : gRoOk (1010 + i) = true := by
  have : ∀ i, i < 9 → gRoOk (1010 + i) = true := by decide
  exact this i h
theorem gro_v {i : Nat} (h : i < 9) : gRoOk (1020 + i) = true := by
  have : ∀ i, i < 9 → gRoOk (1020 + i) = true := by decide
  exact this i h
theorem gtx_at {i : Nat} (h : i < 9) : gtx[i]? = some (gtx.getD i (0, "", [])) := by
  have : ∀ i, i < 9 → gtx[i]? = some (gtx.getD i (0, "", [])) := by decide +kernel
  exact this i h
/-- the words -/
def wds (i : Nat) : List Int32 := (gtx.getD i (0, "", [])).2.2
theorem wds_byte : ∀ i, i < 9 → ∀ k, k < (wds i).length → ((((wds i).getD k 0) &&& 255).toUInt32 % 65536).toInt32 = (wds i).getD k 0 := by decide +kernel
theorem wds_len : ∀ i, i < 9 → (wds i).length < 7 := by decide +kernel
theorem x_shr0 (x : Int32) : x >>> ((0 : Int32) &&& 31) = x := by
  rw [show ((0 : Int32) &&& 31) = 0 by decide +kernel]
  exact Int32.shiftRight_zero
theorem wds_nar' : ∀ i, i < 9 → ∀ k, k < (wds i).length → narrow .char (.int ((wds i).getD k 0)) = .int ((wds i).getD k 0) := by decide +kernel
section GCSD
variable {E : gE} {F : gF} {nE pc : Nat} {L st : List Value} {I : Nat → Nat → Int32} {h : gX} {K : gK}
theorem g_cSd {Fc : gF} {n index t : Nat} {as S : List Value} {I1 : Nat → Nat → Int32} (hm : gMi Fc n) (hw1 : Cond.methodLink F.1.cls index Fc.1 ∈ gB) (hw2 : Cond.static Fc.1 ∈ gB) (d : decode F.2.1 pc = .ok (.invokestatic index, 3)) (he : gDV E Fc as I h I1) (hn : as.length = n) (hS : S = as.reverse ++ st) (hfr : Fc.2.2.2.2.1 + 1 ≤ F.2.2.2.2.1) (hlo : 8 + (Fc.2.2.1 + 11) + Fc.2.2.2.2.2 ≤ F.2.2.2.2.2) (hst : (st.map fun v => v.category).sum ≤ 8) (e : pc + 3 = t) (hE : gn h ≤ nE) (kk : Wp E F nE t L st (gM I1 h) K) : Wp E F nE pc L S (gM I h) K :=
  g_callS hm hw1 hw2 he hn hS hE hfr hlo hst d e fun r σ' q _ => by obtain ⟨rfl, rfl⟩ := q; exact kk
end GCSD
section STR
variable {E : gE} {I : Nat → Nat → Int32} {h : gX}
theorem j0_coder {i : Nat} (hi : i < 9) : gPI E fJ0_coder_7d493 [.ref (1010 + i)] I h 0 := by
  refine gEv.ofJ (by decide +kernel) (Nat.le_refl _) (Nat.le_of_ble_eq_true rfl) (L := [.ref (1010 + i)]) rfl ?_
  refine g_getsC (t := 3) kf_J0_38 dJ0_coder_7d493_0 rfl ?_
  refine g_if_eq (t1 := 13) (t2 := 6) dJ0_coder_7d493_3 (by decide) rfl (fun h3 => ?_) (fun h3 => ?_)
  · exact absurd h3 (by decide)
  · refine g_aload_n (i := 0) (t := 7) dJ0_coder_7d493_6 rfl rfl (Or.inr (gro_k hi)) rfl ?_
    refine g_getSC (i := _) (t := 10) (gtx_at hi) rfl kf_J0_15 dJ0_coder_7d493_7 rfl ?_
    refine g_goto (t := 14) dJ0_coder_7d493_10 (by decide) ?_
    exact g_retP dJ0_coder_7d493_14 rfl rfl (rfl)
theorem j0_isLatin1 {i : Nat} (hi : i < 9) : gPI E fJ0_isLatin1_aae02 [.ref (1010 + i)] I h (nI 1) := by
  refine gEv.ofJ (by decide +kernel) (Nat.le_refl _) (Nat.le_of_ble_eq_true rfl) (L := [.ref (1010 + i)]) rfl ?_
  refine g_getsC (t := 3) kf_J0_38 dJ0_isLatin1_aae02_0 rfl ?_
  refine g_if_eq (t1 := 17) (t2 := 6) dJ0_isLatin1_aae02_3 (by decide) rfl (fun h3 => ?_) (fun h3 => ?_)
  · exact absurd h3 (by decide)
  · refine g_aload_n (i := 0) (t := 7) dJ0_isLatin1_aae02_6 rfl rfl (Or.inr (gro_k hi)) rfl ?_
    refine g_getSC (i := _) (t := 10) (gtx_at hi) rfl kf_J0_15 dJ0_isLatin1_aae02_7 rfl ?_
    refine g_if_ne (t1 := 17) (t2 := 13) dJ0_isLatin1_aae02_10 (by decide) rfl (fun h10 => ?_) (fun h10 => ?_)
    · exact absurd rfl h10
    · refine g_iconst (t := 14) dJ0_isLatin1_aae02_13 c_iconst_1 rfl ?_
      refine g_goto (t := 18) dJ0_isLatin1_aae02_14 (by decide) ?_
      exact g_retP dJ0_isLatin1_aae02_18 rfl (by decide +kernel) (rfl)
theorem j0_length {i : Nat} (hi : i < 9) : gPI E fJ0_length_8abf5 [.ref (1010 + i)] I h (nI (wds i).length) := by
  refine gEv.ofJ (by decide +kernel) (Nat.le_refl _) (Nat.le_of_ble_eq_true rfl) (L := [.ref (1010 + i)]) rfl ?_
  refine g_aload_n (i := 0) (t := 1) dJ0_length_8abf5_0 rfl rfl (Or.inr (gro_k hi)) rfl ?_
  refine g_getSV (i := _) (t := 4) (gtx_at hi) rfl rfl kf_J0_9 dJ0_length_8abf5_1 rfl ?_
  refine g_sblen (i := _) (t := 5) (gtx_at hi) rfl dJ0_length_8abf5_4 rfl ?_
  refine g_aload_n (i := 0) (t := 6) dJ0_length_8abf5_5 rfl rfl (Or.inr (gro_k hi)) rfl ?_
  refine g_cTp (i := _) (t := 9) mJ0_coder_7d493 k_J0_335 imJ0_coder_7d493 seJ0_coder_7d493 (gtx_at hi) rfl rfl dJ0_length_8abf5_6 (j0_coder hi) rfl rfl (by decide) (by decide) (Nat.le_of_ble_eq_true rfl) rfl (Nat.le_refl _) ?_
  refine g_ishr (t := 10) dJ0_length_8abf5_9 rfl ?_
  exact g_retP dJ0_length_8abf5_10 rfl rfl (x_shr0 _)
theorem j3_checkIndex {k n : Nat} (hk : k < n) (hn : n < 1000) : gPI E fJ3_checkIndex_8e157 [.int (nI k), .int (nI n), .ref 1050] I h (nI k) := by
  refine gEv.ofJ (by decide +kernel) (Nat.le_refl _) (Nat.le_of_ble_eq_true rfl) (L := [.int (nI k), .int (nI n), .ref 1050]) rfl ?_
  refine g_iload_n (i := 0) (t := 1) dJ3_checkIndex_8e157_0 rfl rfl rfl ?_
  refine g_if_lt (t1 := 9) (t2 := 4) dJ3_checkIndex_8e157_1 (by decide) rfl (fun h1 => ?_) (fun h1 => ?_)
  · exact absurd h1 (by first | decide | exact nI_pos (by omega) | exact nI_ne0 (by omega) (by omega))
  · refine g_iload_n (i := 0) (t := 5) dJ3_checkIndex_8e157_4 rfl rfl rfl ?_
    refine g_iload_n (i := 1) (t := 6) dJ3_checkIndex_8e157_5 rfl rfl rfl ?_
    refine g_icmp_lt_n (t1 := 16) (t2 := 9) dJ3_checkIndex_8e157_6 (by decide) rfl (by omega) (by omega) (fun h6 => ?_) (fun h6 => ?_)
    · refine g_iload_n (i := 0) (t := 17) dJ3_checkIndex_8e157_16 rfl rfl rfl ?_
      exact g_retP dJ3_checkIndex_8e157_17 rfl rfl (rfl)
    · exfalso; omega
theorem j0_checkIndex {k n : Nat} (hk : k < n) (hn : n < 1000) : gDV E fJ0_checkIndex_df160 [.int (nI k), .int (nI n)] I h I := by
  refine gEv.ofJ (by decide +kernel) (Nat.le_refl _) (Nat.le_of_ble_eq_true rfl) (L := [.int (nI k), .int (nI n)]) rfl ?_
  refine g_iload_n (i := 0) (t := 1) dJ0_checkIndex_df160_0 rfl rfl rfl ?_
  refine g_iload_n (i := 1) (t := 2) dJ0_checkIndex_df160_1 rfl rfl rfl ?_
  refine g_getsF (t := 5) kf_J0_1053 dJ0_checkIndex_df160_2 rfl ?_
  refine g_cSp (t := 8) mJ3_checkIndex_8e157 k_J0_1059 smJ3_checkIndex_8e157 dJ0_checkIndex_df160_5 (j3_checkIndex hk hn) rfl rfl (by decide) (by decide) (Nat.le_of_ble_eq_true rfl) rfl (Nat.le_refl _) ?_
  refine g_pop (t := 9) dJ0_checkIndex_df160_8 rfl rfl ?_
  exact g_retD dJ0_checkIndex_df160_9 rfl (rfl)
theorem j1_charAt {i k : Nat} (hi : i < 9) (hk : k < (wds i).length) : gPI E fJ1_charAt_3b067 [.ref (1020 + i), .int (nI k)] I h ((wds i).getD k 0) := by
  refine gEv.ofJ (by decide +kernel) (Nat.le_refl _) (Nat.le_of_ble_eq_true rfl) (L := [.ref (1020 + i), .int (nI k)]) rfl ?_
  have hl := wds_len i hi
  refine g_iload_n (i := 1) (t := 1) dJ1_charAt_3b067_0 rfl rfl rfl ?_
  refine g_aload_n (i := 0) (t := 2) dJ1_charAt_3b067_1 rfl rfl (Or.inr (gro_v hi)) rfl ?_
  refine g_sblen (i := _) (t := 3) (gtx_at hi) rfl dJ1_charAt_3b067_2 rfl ?_
  refine g_cSd (t := 6) mJ0_checkIndex_df160 k_J1_9 smJ0_checkIndex_df160 dJ1_charAt_3b067_3 (j0_checkIndex (n := (wds i).length) hk (by omega)) rfl rfl (by decide) (by decide) (Nat.le_of_ble_eq_true rfl) rfl (Nat.le_refl _) ?_
  refine g_aload_n (i := 0) (t := 7) dJ1_charAt_3b067_6 rfl rfl (Or.inr (gro_v hi)) rfl ?_
  refine g_iload_n (i := 1) (t := 8) dJ1_charAt_3b067_7 rfl rfl rfl ?_
  refine g_sbld (i := _) (t := 9) (gtx_at hi) rfl (show vp_in (nI k) (wds i).length from vp_in_nI hk (by omega)) dJ1_charAt_3b067_8 rfl ?_
  refine g_top (y := (wds i).getD k 0) (by rw [nI_clamp (by omega)]; rfl) ?_
  refine g_sipush (t := 12) dJ1_charAt_3b067_9 c_sipush_255 rfl ?_
  refine g_iand (t := 13) dJ1_charAt_3b067_12 rfl ?_
  refine g_i2c (t := 14) dJ1_charAt_3b067_13 rfl ?_
  refine g_top (wds_byte i hi k hk) ?_
  exact g_retP dJ1_charAt_3b067_14 rfl (wds_nar' i hi k hk) (rfl)
theorem j0_charAt {i k : Nat} (hi : i < 9) (hk : k < (wds i).length) : gPI E fJ0_charAt_5068e [.ref (1010 + i), .int (nI k)] I h ((wds i).getD k 0) := by
  refine gEv.ofJ (by decide +kernel) (Nat.le_refl _) (Nat.le_of_ble_eq_true rfl) (L := [.ref (1010 + i), .int (nI k)]) rfl ?_
  refine g_aload_n (i := 0) (t := 1) dJ0_charAt_5068e_0 rfl rfl (Or.inr (gro_k hi)) rfl ?_
  refine g_cTp (i := _) (t := 4) mJ0_isLatin1_aae02 k_J0_492 imJ0_isLatin1_aae02 seJ0_isLatin1_aae02 (gtx_at hi) rfl rfl dJ0_charAt_5068e_1 (j0_isLatin1 hi) rfl rfl (by decide) (by decide) (Nat.le_of_ble_eq_true rfl) rfl (Nat.le_refl _) ?_
  refine g_if_eq (t1 := 16) (t2 := 7) dJ0_charAt_5068e_4 (by decide) rfl (fun h4 => ?_) (fun h4 => ?_)
  · exact absurd h4 (by decide)
  · refine g_aload_n (i := 0) (t := 8) dJ0_charAt_5068e_7 rfl rfl (Or.inr (gro_k hi)) rfl ?_
    refine g_getSV (i := _) (t := 11) (gtx_at hi) rfl rfl kf_J0_9 dJ0_charAt_5068e_8 rfl ?_
    refine g_iload_n (i := 1) (t := 12) dJ0_charAt_5068e_11 rfl rfl rfl ?_
    refine g_cSp (t := 15) mJ1_charAt_3b067 k_J0_495 smJ1_charAt_3b067 dJ0_charAt_5068e_12 (j1_charAt hi hk) rfl rfl (by decide) (by decide) (Nat.le_of_ble_eq_true rfl) rfl (Nat.le_refl _) ?_
    exact g_retP dJ0_charAt_5068e_15 rfl (wds_nar' i hi k hk) (rfl)
end STR

