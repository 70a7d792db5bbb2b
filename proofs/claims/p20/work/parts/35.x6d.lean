/-! FlexRows: what is told -/
theorem sQ_le {s : sS} {p : Nat} (h : s.1 ≤ 16) (hp : p < sC s) : (sQ s).2.2.2 p < s.1 := ordS_lt _ _ _ hp
theorem plc_of {s : sS} {p : Nat} (hp : p < sC s) : plcS (sQ s).2.2.2 ((sQ s).2.2.2 p) (sC s) 0 = nI p := plcS_at hp rfl (fun a b ha hb he => ordS_inj _ _ a b ha hb he) _ 0 (by omega) (Nat.zero_le _)
section X6D
variable {E : gE} {I : Nat → Nat → Int32} {h : gX} {S : sT}
theorem x6_item {x y : Int32} (hX : rX I S) : ∃ v, vItem S x y v ∧ gPI E fX6_item [.ref 0, .int x, .int y] I h v := by
  have ⟨hn, h4, hP, hB, hH, hT, hl⟩ := hX
  by_cases hx : bdI S.1.1 x
  · refine ⟨-1002, Or.inl ⟨Or.inl hx, rfl⟩, gEv.of rfl (Nat.le_refl _) (Nat.le_of_ble_eq_true rfl) (L := [.ref 0, .int x, .int y]) rfl ?_⟩
    refine g_aload_n (i := 0) (r := 0) (t := 1) dX6_item_0 rfl rfl (Or.inl l9_0) rfl ?_
    refine gm_getR (o := 0) (ci := 6) (k := 1) (r := 4) (t := 4) l6_0 l9_0 s_0 gf_X6_19 rfl r_0_1 l9_4 dX6_item_1 rfl ?_
    refine g_iload_n (i := 1) (t := 5) dX6_item_4 rfl rfl rfl ?_
    refine g_cVp (o := 4) (t := 8) mX4_has k_X6_93 imX4_has seX4_has l6_4 l9_4 s_4 rfl dX6_item_5 (x4_has_f h4 hx) rfl rfl (by decide) (by decide) (Nat.le_of_ble_eq_true rfl) rfl (Nat.le_refl _) ?_
    refine g_if_eq (t1 := 21) (t2 := 11) dX6_item_8 (by decide) rfl (fun h8 => ?_) (fun h8 => ?_)
    · refine g_sipush (t := 24) dX6_item_21 c_sipush_m1002 rfl ?_
      exact g_retP dX6_item_24 rfl rfl (rfl)
    · exact absurd rfl h8
  · obtain ⟨it, hit, rfl⟩ := bd_no (by omega) hx
    by_cases hy : bdI 12 y
    · refine ⟨-1002, Or.inl ⟨Or.inr hy, rfl⟩, gEv.of rfl (Nat.le_refl _) (Nat.le_of_ble_eq_true rfl) (L := [.ref 0, .int (nI it), .int y]) rfl ?_⟩
      refine g_aload_n (i := 0) (r := 0) (t := 1) dX6_item_0 rfl rfl (Or.inl l9_0) rfl ?_
      refine gm_getR (o := 0) (ci := 6) (k := 1) (r := 4) (t := 4) l6_0 l9_0 s_0 gf_X6_19 rfl r_0_1 l9_4 dX6_item_1 rfl ?_
      refine g_iload_n (i := 1) (t := 5) dX6_item_4 rfl rfl rfl ?_
      refine g_cVp (o := 4) (t := 8) mX4_has k_X6_93 imX4_has seX4_has l6_4 l9_4 s_4 rfl dX6_item_5 (x4_has_t h4 hit (by omega)) rfl rfl (by decide) (by decide) (Nat.le_of_ble_eq_true rfl) rfl (Nat.le_refl _) ?_
      refine g_if_eq (t1 := 21) (t2 := 11) dX6_item_8 (by decide) rfl (fun h8 => ?_) (fun h8 => ?_)
      · exact absurd h8 (by decide)
      · refine g_iload_n (i := 2) (t := 12) dX6_item_11 rfl rfl rfl ?_
        refine g_if_lt (t1 := 21) (t2 := 15) dX6_item_12 (by decide) rfl (fun h12 => ?_) (fun h12 => ?_)
        · refine g_sipush (t := 24) dX6_item_21 c_sipush_m1002 rfl ?_
          exact g_retP dX6_item_24 rfl rfl (rfl)
        · refine g_iload_n (i := 2) (t := 16) dX6_item_15 rfl rfl rfl ?_
          refine g_bipush (t := 18) dX6_item_16 c_bipush_11 rfl ?_
          refine g_icmp_le (t1 := 25) (t2 := 21) dX6_item_18 (by decide) rfl (fun h18 => ?_) (fun h18 => ?_)
          · exact absurd hy (bd_le (k := 11) (by decide) h12 h18)
          · refine g_sipush (t := 24) dX6_item_21 c_sipush_m1002 rfl ?_
            exact g_retP dX6_item_24 rfl rfl (rfl)
    · obtain ⟨k, hk, rfl⟩ := bd_no (by decide) hy
      refine ⟨_, Or.inr ⟨it, k, hit, rfl, hk, rfl, rfl⟩, gEv.of rfl (Nat.le_refl _) (Nat.le_of_ble_eq_true rfl) (L := [.ref 0, .int (nI it), .int (nI k)]) rfl ?_⟩
      refine g_aload_n (i := 0) (r := 0) (t := 1) dX6_item_0 rfl rfl (Or.inl l9_0) rfl ?_
      refine gm_getR (o := 0) (ci := 6) (k := 1) (r := 4) (t := 4) l6_0 l9_0 s_0 gf_X6_19 rfl r_0_1 l9_4 dX6_item_1 rfl ?_
      refine g_iload_n (i := 1) (t := 5) dX6_item_4 rfl rfl rfl ?_
      refine g_cVp (o := 4) (t := 8) mX4_has k_X6_93 imX4_has seX4_has l6_4 l9_4 s_4 rfl dX6_item_5 (x4_has_t h4 hit (by omega)) rfl rfl (by decide) (by decide) (Nat.le_of_ble_eq_true rfl) rfl (Nat.le_refl _) ?_
      refine g_if_eq (t1 := 21) (t2 := 11) dX6_item_8 (by decide) rfl (fun h8 => ?_) (fun h8 => ?_)
      · exact absurd h8 (by decide)
      · refine g_iload_n (i := 2) (t := 12) dX6_item_11 rfl rfl rfl ?_
        refine g_if_lt (t1 := 21) (t2 := 15) dX6_item_12 (by decide) rfl (fun h12 => ?_) (fun h12 => ?_)
        · exact absurd h12 (by first | decide | exact nI_pos (by omega) | exact nI_ne0 (by omega) (by omega))
        · refine g_iload_n (i := 2) (t := 16) dX6_item_15 rfl rfl rfl ?_
          refine g_bipush (t := 18) dX6_item_16 c_bipush_11 rfl ?_
          refine g_icmp_le_n (t1 := 25) (t2 := 21) dX6_item_18 (by decide) rfl (by omega) (by omega) (fun h18 => ?_) (fun h18 => ?_)
          · refine g_iload_n (i := 2) (t := 26) dX6_item_25 rfl rfl rfl ?_
            refine g_bipush (t := 28) dX6_item_26 c_bipush_11 rfl ?_
            refine g_icmp_ne_n (t1 := 42) (t2 := 31) dX6_item_28 (by decide) rfl (by omega) (by omega) (fun h28 => ?_) (fun h28 => ?_)
            · refine g_aload_n (i := 0) (r := 0) (t := 43) dX6_item_42 rfl rfl (Or.inl l9_0) rfl ?_
              refine gm_getR (o := 0) (ci := 6) (k := 1) (r := 4) (t := 46) l6_0 l9_0 s_0 gf_X6_19 rfl r_0_1 l9_4 dX6_item_43 rfl ?_
              refine g_iload_n (i := 1) (t := 47) dX6_item_46 rfl rfl rfl ?_
              refine g_iload_n (i := 2) (t := 48) dX6_item_47 rfl rfl rfl ?_
              refine g_cVp (o := 4) (t := 51) mX4_property k_X6_109 imX4_property seX4_property l6_4 l9_4 s_4 rfl dX6_item_48 (x4_property (by omega) (by omega)) rfl rfl (by decide) (by decide) (Nat.le_of_ble_eq_true rfl) rfl (Nat.le_refl _) ?_
              exact g_retP dX6_item_51 rfl rfl (by
    first
    | (rw [if_pos h28, ← hP])
    | (rw [if_neg h28, ← hP]))
            · refine g_aload_n (i := 0) (r := 0) (t := 32) dX6_item_31 rfl rfl (Or.inl l9_0) rfl ?_
              refine gm_getR (o := 0) (ci := 6) (k := 1) (r := 4) (t := 35) l6_0 l9_0 s_0 gf_X6_19 rfl r_0_1 l9_4 dX6_item_32 rfl ?_
              refine g_iload_n (i := 1) (t := 36) dX6_item_35 rfl rfl rfl ?_
              refine g_cVp (o := 4) (t := 39) mX4_wish k_X6_135 imX4_wish seX4_wish l6_4 l9_4 s_4 rfl dX6_item_36 (x4_wish (by omega)) rfl rfl (by decide) (by decide) (Nat.le_of_ble_eq_true rfl) rfl (Nat.le_refl _) ?_
              refine g_goto (t := 51) dX6_item_39 (by decide) ?_
              exact g_retP dX6_item_51 rfl rfl (by
    first
    | (rw [if_pos h28, ← hP])
    | (rw [if_neg h28, ← hP]))
          · exfalso; omega
theorem x6_lieAt {p k : Nat} (hX : rX I S) (hL : lX I S.1) (hp : p < sC S.1) (hk : k < 8) : gPI E fX6_lieAt [.ref 0, .int (nI p), .int (nI k)] I h (liV S.1 p k) := by
  refine gEv.of rfl (Nat.le_refl _) (Nat.le_of_ble_eq_true rfl) (L := [.ref 0, .int (nI p), .int (nI k), .null]) rfl ?_
  have ⟨hn, h4, hP, hB, hH, hT, hl⟩ := hX
  obtain ⟨l1, l2, l3, l4⟩ := hL
  have hc := sC_le hn
  have h0 := l1.2.1
  obtain ⟨g1, g2, g3, g4, g5, g6, g7⟩ := l1.2.2 p hp
  have hlt := lin_lt (sQ S.1) hp
  have a1 := l3.2 p hp hlt
  have a2 := l4.2.2 p hp hlt
  refine g_iload_n (i := 1) (t := 1) dX6_lieAt_0 rfl rfl rfl ?_
  refine g_if_lt (t1 := 15) (t2 := 4) dX6_lieAt_1 (by decide) rfl (fun h1 => ?_) (fun h1 => ?_)
  · exact absurd h1 (by first | decide | exact nI_pos (by omega) | exact nI_ne0 (by omega) (by omega))
  · refine g_iload_n (i := 1) (t := 5) dX6_lieAt_4 rfl rfl rfl ?_
    refine g_aload_n (i := 0) (r := 0) (t := 6) dX6_lieAt_5 rfl rfl (Or.inl l9_0) rfl ?_
    refine gm_getR (o := 0) (ci := 6) (k := 3) (r := 11) (t := 9) l6_0 l9_0 s_0 gf_X6_35 rfl r_0_3 l9_11 dX6_lieAt_6 rfl ?_
    refine gm_getI (o := 11) (ci := 2) (k := 0) (t := 12) l6_11 l9_11 s_11 gf_X6_141 rfl dX6_lieAt_9 rfl ?_
    rw [h0]
    refine g_icmp_lt_n (t1 := 19) (t2 := 15) dX6_lieAt_12 (by decide) rfl (by omega) (by omega) (fun h12 => ?_) (fun h12 => ?_)
    · refine g_aload_n (i := 0) (r := 0) (t := 20) dX6_lieAt_19 rfl rfl (Or.inl l9_0) rfl ?_
      refine gm_getR (o := 0) (ci := 6) (k := 3) (r := 11) (t := 23) l6_0 l9_0 s_0 gf_X6_35 rfl r_0_3 l9_11 dX6_lieAt_20 rfl ?_
      refine gm_getR (o := 11) (ci := 2) (k := 1) (r := 12) (t := 26) l6_11 l9_11 s_11 gf_X6_190 rfl r_11_1 l9_12 dX6_lieAt_23 rfl ?_
      refine g_iload_n (i := 1) (t := 27) dX6_lieAt_26 rfl rfl rfl ?_
      refine gm_iald_n (a := 12) (n := 16) (t := 28) l6_12 l9_12 s_12 dX6_lieAt_27 (by omega) (by decide) rfl ?_
      rw [g2]
      refine g_istore_n (i := 3) (t := 29) (L1 := [_, _, _, _]) dX6_lieAt_28 rfl (by decide) rfl rfl rfl ?_
      refine g_iload_n (i := 2) (t := 30) dX6_lieAt_29 rfl rfl rfl ?_
      refine g_sw7 (l := 0) (td := 152) (t0 := 72) (t1 := 81) (t2 := 83) (t3 := 93) (t4 := 103) (t5 := 113) (t6 := 132) (by decide) dX6_lieAt_30 rfl rfl (by decide) (by decide) (by decide) (by decide) (by decide) (by decide) (by decide) (by decide) (fun h30_0 => ?_) (fun h30_1 => ?_) (fun h30_2 => ?_) (fun h30_3 => ?_) (fun h30_4 => ?_) (fun h30_5 => ?_) (fun h30_6 => ?_) (fun h30_d => ?_)
      · have e : k = 0 := (nI_eq (by omega) (by omega)).mp h30_0
        subst e
        refine g_aload_n (i := 0) (r := 0) (t := 73) dX6_lieAt_72 rfl rfl (Or.inl l9_0) rfl ?_
        refine gm_getR (o := 0) (ci := 6) (k := 4) (r := 18) (t := 76) l6_0 l9_0 s_0 gf_X6_44 rfl r_0_4 l9_18 dX6_lieAt_73 rfl ?_
        refine g_iload_n (i := 1) (t := 77) dX6_lieAt_76 rfl rfl rfl ?_
        refine g_cVp (o := 18) (t := 80) mX1_lineOf k_X6_192 imX1_lineOf seX1_lineOf l6_18 l9_18 s_18 rfl dX6_lieAt_77 (x1_lineOf_18 hp hc l2) rfl rfl (by decide) (by decide) (Nat.le_of_ble_eq_true rfl) rfl (Nat.le_refl _) ?_
        exact g_retP dX6_lieAt_80 rfl rfl (rfl)
      · have e : k = 1 := (nI_eq (by omega) (by omega)).mp h30_1
        subst e
        refine g_iload_n (i := 1) (t := 82) dX6_lieAt_81 rfl rfl rfl ?_
        exact g_retP dX6_lieAt_82 rfl rfl (rfl)
      · have e : k = 2 := (nI_eq (by omega) (by omega)).mp h30_2
        subst e
        refine g_aload_n (i := 0) (r := 0) (t := 84) dX6_lieAt_83 rfl rfl (Or.inl l9_0) rfl ?_
        refine gm_getR (o := 0) (ci := 6) (k := 5) (r := 27) (t := 87) l6_0 l9_0 s_0 gf_X6_53 rfl r_0_5 l9_27 dX6_lieAt_84 rfl ?_
        refine gm_getR (o := 27) (ci := 3) (k := 1) (r := 28) (t := 90) l6_27 l9_27 s_27 gf_X6_195 rfl r_27_1 l9_28 dX6_lieAt_87 rfl ?_
        refine g_iload_n (i := 1) (t := 91) dX6_lieAt_90 rfl rfl rfl ?_
        refine gm_iald_n (a := 28) (n := 16) (t := 92) l6_28 l9_28 s_28 dX6_lieAt_91 (by omega) (by decide) rfl ?_
        exact g_retP dX6_lieAt_92 rfl rfl (by rw [a2.1]; rfl)
      · have e : k = 3 := (nI_eq (by omega) (by omega)).mp h30_3
        subst e
        refine g_aload_n (i := 0) (r := 0) (t := 94) dX6_lieAt_93 rfl rfl (Or.inl l9_0) rfl ?_
        refine gm_getR (o := 0) (ci := 6) (k := 4) (r := 18) (t := 97) l6_0 l9_0 s_0 gf_X6_44 rfl r_0_4 l9_18 dX6_lieAt_94 rfl ?_
        refine gm_getR (o := 18) (ci := 1) (k := 6) (r := 24) (t := 100) l6_18 l9_18 s_18 gf_X6_198 rfl r_18_6 l9_24 dX6_lieAt_97 rfl ?_
        refine g_iload_n (i := 1) (t := 101) dX6_lieAt_100 rfl rfl rfl ?_
        refine gm_iald_n (a := 24) (n := 16) (t := 102) l6_24 l9_24 s_24 dX6_lieAt_101 (by omega) (by decide) rfl ?_
        exact g_retP dX6_lieAt_102 rfl rfl (by rw [a1.1]; rfl)
      · have e : k = 4 := (nI_eq (by omega) (by omega)).mp h30_4
        subst e
        refine g_aload_n (i := 0) (r := 0) (t := 104) dX6_lieAt_103 rfl rfl (Or.inl l9_0) rfl ?_
        refine gm_getR (o := 0) (ci := 6) (k := 5) (r := 27) (t := 107) l6_0 l9_0 s_0 gf_X6_53 rfl r_0_5 l9_27 dX6_lieAt_104 rfl ?_
        refine gm_getR (o := 27) (ci := 3) (k := 2) (r := 29) (t := 110) l6_27 l9_27 s_27 gf_X6_201 rfl r_27_2 l9_29 dX6_lieAt_107 rfl ?_
        refine g_iload_n (i := 1) (t := 111) dX6_lieAt_110 rfl rfl rfl ?_
        refine gm_iald_n (a := 29) (n := 16) (t := 112) l6_29 l9_29 s_29 dX6_lieAt_111 (by omega) (by decide) rfl ?_
        exact g_retP dX6_lieAt_112 rfl rfl (by rw [a2.2]; rfl)
      · have e : k = 5 := (nI_eq (by omega) (by omega)).mp h30_5
        subst e
        refine g_aload_n (i := 0) (r := 0) (t := 114) dX6_lieAt_113 rfl rfl (Or.inl l9_0) rfl ?_
        refine gm_getR (o := 0) (ci := 6) (k := 5) (r := 27) (t := 117) l6_0 l9_0 s_0 gf_X6_53 rfl r_0_5 l9_27 dX6_lieAt_114 rfl ?_
        refine gm_getR (o := 27) (ci := 3) (k := 2) (r := 29) (t := 120) l6_27 l9_27 s_27 gf_X6_201 rfl r_27_2 l9_29 dX6_lieAt_117 rfl ?_
        refine g_iload_n (i := 1) (t := 121) dX6_lieAt_120 rfl rfl rfl ?_
        refine gm_iald_n (a := 29) (n := 16) (t := 122) l6_29 l9_29 s_29 dX6_lieAt_121 (by omega) (by decide) rfl ?_
        refine g_aload_n (i := 0) (r := 0) (t := 123) dX6_lieAt_122 rfl rfl (Or.inl l9_0) rfl ?_
        refine gm_getR (o := 0) (ci := 6) (k := 1) (r := 4) (t := 126) l6_0 l9_0 s_0 gf_X6_19 rfl r_0_1 l9_4 dX6_lieAt_123 rfl ?_
        refine g_iload_n (i := 3) (t := 127) dX6_lieAt_126 rfl rfl rfl ?_
        refine g_cVp (o := 4) (t := 130) mX4_above k_X6_204 imX4_above seX4_above l6_4 l9_4 s_4 rfl dX6_lieAt_127 (x4_above (by omega)) rfl rfl (by decide) (by decide) (Nat.le_of_ble_eq_true rfl) rfl (Nat.le_refl _) ?_
        refine g_iadd (t := 131) dX6_lieAt_130 rfl ?_
        exact g_retP dX6_lieAt_131 rfl rfl (by rw [a2.2]; show _ + abv (xP I) _ = _; rw [hP]; rfl)
      · have e : k = 6 := (nI_eq (by omega) (by omega)).mp h30_6
        subst e
        refine g_aload_n (i := 0) (r := 0) (t := 133) dX6_lieAt_132 rfl rfl (Or.inl l9_0) rfl ?_
        refine gm_getR (o := 0) (ci := 6) (k := 4) (r := 18) (t := 136) l6_0 l9_0 s_0 gf_X6_44 rfl r_0_4 l9_18 dX6_lieAt_133 rfl ?_
        refine gm_getR (o := 18) (ci := 1) (k := 6) (r := 24) (t := 139) l6_18 l9_18 s_18 gf_X6_198 rfl r_18_6 l9_24 dX6_lieAt_136 rfl ?_
        refine g_iload_n (i := 1) (t := 140) dX6_lieAt_139 rfl rfl rfl ?_
        refine gm_iald_n (a := 24) (n := 16) (t := 141) l6_24 l9_24 s_24 dX6_lieAt_140 (by omega) (by decide) rfl ?_
        refine g_aload_n (i := 0) (r := 0) (t := 142) dX6_lieAt_141 rfl rfl (Or.inl l9_0) rfl ?_
        refine gm_getR (o := 0) (ci := 6) (k := 3) (r := 11) (t := 145) l6_0 l9_0 s_0 gf_X6_35 rfl r_0_3 l9_11 dX6_lieAt_142 rfl ?_
        refine gm_getR (o := 11) (ci := 2) (k := 6) (r := 17) (t := 148) l6_11 l9_11 s_11 gf_X6_207 rfl r_11_6 l9_17 dX6_lieAt_145 rfl ?_
        refine g_iload_n (i := 1) (t := 149) dX6_lieAt_148 rfl rfl rfl ?_
        refine gm_iald_n (a := 17) (n := 16) (t := 150) l6_17 l9_17 s_17 dX6_lieAt_149 (by omega) (by decide) rfl ?_
        refine g_isub (t := 151) dX6_lieAt_150 rfl ?_
        exact g_retP dX6_lieAt_151 rfl rfl (by rw [a1.1, g7]; rfl)
      · have e : k = 7 := by
          apply Classical.byContradiction
          intro q
          exact h30_d k (by omega) (congrArg nI (by omega))
        subst e
        refine g_aload_n (i := 0) (r := 0) (t := 153) dX6_lieAt_152 rfl rfl (Or.inl l9_0) rfl ?_
        refine gm_getR (o := 0) (ci := 6) (k := 4) (r := 18) (t := 156) l6_0 l9_0 s_0 gf_X6_44 rfl r_0_4 l9_18 dX6_lieAt_153 rfl ?_
        refine gm_getR (o := 18) (ci := 1) (k := 7) (r := 25) (t := 159) l6_18 l9_18 s_18 gf_X6_209 rfl r_18_7 l9_25 dX6_lieAt_156 rfl ?_
        refine g_iload_n (i := 1) (t := 160) dX6_lieAt_159 rfl rfl rfl ?_
        refine gm_iald_n (a := 25) (n := 16) (t := 161) l6_25 l9_25 s_25 dX6_lieAt_160 (by omega) (by decide) rfl ?_
        exact g_retP dX6_lieAt_161 rfl rfl (by rw [a1.2]; rfl)
    · exfalso; omega
theorem x6_lineTells {l k : Nat} (hX : rX I S) (hL : lX I S.1) (hl : l < nln (sQ S.1) (sC S.1)) (hk : k < 8) : gPI E fX6_lineTells [.ref 0, .int (nI l), .int (nI k)] I h (lnV S.1 l k) := by
  refine gEv.of rfl (Nat.le_refl _) (Nat.le_of_ble_eq_true rfl) (L := [.ref 0, .int (nI l), .int (nI k)]) rfl ?_
  have ⟨hn, h4, hP, hB, hH, hT, _⟩ := hX
  obtain ⟨l1, l2, l3, l4⟩ := hL
  have hc := sC_le hn
  have hnl := nln_le (sQ S.1) (sC S.1)
  have hps := frC_pos (sQ S.1) (sC S.1) l hl
  obtain ⟨b1, b2⟩ := l2.2 l hl
  obtain ⟨c1, c2, c3⟩ := l3.1 l hl
  obtain ⟨d1, d2⟩ := l4.2.1 l hl
  refine g_iload_n (i := 1) (t := 1) dX6_lineTells_0 rfl rfl rfl ?_
  refine g_if_lt (t1 := 21) (t2 := 4) dX6_lineTells_1 (by decide) rfl (fun h1 => ?_) (fun h1 => ?_)
  · exact absurd h1 (by first | decide | exact nI_pos (by omega) | exact nI_ne0 (by omega) (by omega))
  · refine g_iload_n (i := 1) (t := 5) dX6_lineTells_4 rfl rfl rfl ?_
    refine g_aload_n (i := 0) (r := 0) (t := 6) dX6_lineTells_5 rfl rfl (Or.inl l9_0) rfl ?_
    refine gm_getR (o := 0) (ci := 6) (k := 4) (r := 18) (t := 9) l6_0 l9_0 s_0 gf_X6_44 rfl r_0_4 l9_18 dX6_lineTells_6 rfl ?_
    refine gm_getI (o := 18) (ci := 1) (k := 0) (t := 12) l6_18 l9_18 s_18 gf_X6_147 rfl dX6_lineTells_9 rfl ?_
    rw [l2.1]
    refine g_icmp_ge_n (t1 := 21) (t2 := 15) dX6_lineTells_12 (by decide) rfl (by omega) (by omega) (fun h12 => ?_) (fun h12 => ?_)
    · exfalso; omega
    · refine g_iload_n (i := 1) (t := 16) dX6_lineTells_15 rfl rfl rfl ?_
      refine g_bipush (t := 18) dX6_lineTells_16 c_bipush_16 rfl ?_
      refine g_icmp_lt_n (t1 := 25) (t2 := 21) dX6_lineTells_18 (by decide) rfl (by omega) (by omega) (fun h18 => ?_) (fun h18 => ?_)
      · refine g_iload_n (i := 2) (t := 26) dX6_lineTells_25 rfl rfl rfl ?_
        refine g_sw7 (l := 0) (td := 155) (t0 := 68) (t1 := 87) (t2 := 97) (t3 := 107) (t4 := 117) (t5 := 127) (t6 := 145) (by decide) dX6_lineTells_26 rfl rfl (by decide) (by decide) (by decide) (by decide) (by decide) (by decide) (by decide) (by decide) (fun h26_0 => ?_) (fun h26_1 => ?_) (fun h26_2 => ?_) (fun h26_3 => ?_) (fun h26_4 => ?_) (fun h26_5 => ?_) (fun h26_6 => ?_) (fun h26_d => ?_)
        · have e : k = 0 := (nI_eq (by omega) (by omega)).mp h26_0
          subst e
          refine g_aload_n (i := 0) (r := 0) (t := 69) dX6_lineTells_68 rfl rfl (Or.inl l9_0) rfl ?_
          refine gm_getR (o := 0) (ci := 6) (k := 4) (r := 18) (t := 72) l6_0 l9_0 s_0 gf_X6_44 rfl r_0_4 l9_18 dX6_lineTells_69 rfl ?_
          refine g_iload_n (i := 1) (t := 73) dX6_lineTells_72 rfl rfl rfl ?_
          refine g_cVp (o := 18) (t := 76) mX1_end k_X6_212 imX1_end seX1_end l6_18 l9_18 s_18 rfl dX6_lineTells_73 (x1_end_18 l1.2.1 hc l2 hl) rfl rfl (by decide) (by decide) (Nat.le_of_ble_eq_true rfl) rfl (Nat.le_refl _) ?_
          refine g_aload_n (i := 0) (r := 0) (t := 77) dX6_lineTells_76 rfl rfl (Or.inl l9_0) rfl ?_
          refine gm_getR (o := 0) (ci := 6) (k := 4) (r := 18) (t := 80) l6_0 l9_0 s_0 gf_X6_44 rfl r_0_4 l9_18 dX6_lineTells_77 rfl ?_
          refine gm_getR (o := 18) (ci := 1) (k := 1) (r := 19) (t := 83) l6_18 l9_18 s_18 gf_X6_215 rfl r_18_1 l9_19 dX6_lineTells_80 rfl ?_
          refine g_iload_n (i := 1) (t := 84) dX6_lineTells_83 rfl rfl rfl ?_
          refine gm_iald_n (a := 19) (n := 16) (t := 85) l6_19 l9_19 s_19 dX6_lineTells_84 (by omega) (by decide) rfl ?_
          refine g_isub (t := 86) dX6_lineTells_85 rfl ?_
          exact g_retP dX6_lineTells_86 rfl rfl (by rw [b1]; exact pk_sub (by omega))
        · have e : k = 1 := (nI_eq (by omega) (by omega)).mp h26_1
          subst e
          refine g_aload_n (i := 0) (r := 0) (t := 88) dX6_lineTells_87 rfl rfl (Or.inl l9_0) rfl ?_
          refine gm_getR (o := 0) (ci := 6) (k := 4) (r := 18) (t := 91) l6_0 l9_0 s_0 gf_X6_44 rfl r_0_4 l9_18 dX6_lineTells_88 rfl ?_
          refine gm_getR (o := 18) (ci := 1) (k := 1) (r := 19) (t := 94) l6_18 l9_18 s_18 gf_X6_215 rfl r_18_1 l9_19 dX6_lineTells_91 rfl ?_
          refine g_iload_n (i := 1) (t := 95) dX6_lineTells_94 rfl rfl rfl ?_
          refine gm_iald_n (a := 19) (n := 16) (t := 96) l6_19 l9_19 s_19 dX6_lineTells_95 (by omega) (by decide) rfl ?_
          exact g_retP dX6_lineTells_96 rfl rfl (b1)
        · have e : k = 2 := (nI_eq (by omega) (by omega)).mp h26_2
          subst e
          refine g_aload_n (i := 0) (r := 0) (t := 98) dX6_lineTells_97 rfl rfl (Or.inl l9_0) rfl ?_
          refine gm_getR (o := 0) (ci := 6) (k := 5) (r := 27) (t := 101) l6_0 l9_0 s_0 gf_X6_53 rfl r_0_5 l9_27 dX6_lineTells_98 rfl ?_
          refine gm_getR (o := 27) (ci := 3) (k := 3) (r := 30) (t := 104) l6_27 l9_27 s_27 gf_X6_218 rfl r_27_3 l9_30 dX6_lineTells_101 rfl ?_
          refine g_iload_n (i := 1) (t := 105) dX6_lineTells_104 rfl rfl rfl ?_
          refine gm_iald_n (a := 30) (n := 16) (t := 106) l6_30 l9_30 s_30 dX6_lineTells_105 (by omega) (by decide) rfl ?_
          exact g_retP dX6_lineTells_106 rfl rfl (d1)
        · have e : k = 3 := (nI_eq (by omega) (by omega)).mp h26_3
          subst e
          refine g_aload_n (i := 0) (r := 0) (t := 108) dX6_lineTells_107 rfl rfl (Or.inl l9_0) rfl ?_
          refine gm_getR (o := 0) (ci := 6) (k := 5) (r := 27) (t := 111) l6_0 l9_0 s_0 gf_X6_53 rfl r_0_5 l9_27 dX6_lineTells_108 rfl ?_
          refine gm_getR (o := 27) (ci := 3) (k := 4) (r := 31) (t := 114) l6_27 l9_27 s_27 gf_X6_221 rfl r_27_4 l9_31 dX6_lineTells_111 rfl ?_
          refine g_iload_n (i := 1) (t := 115) dX6_lineTells_114 rfl rfl rfl ?_
          refine gm_iald_n (a := 31) (n := 16) (t := 116) l6_31 l9_31 s_31 dX6_lineTells_115 (by omega) (by decide) rfl ?_
          exact g_retP dX6_lineTells_116 rfl rfl (d2)
        · have e : k = 4 := (nI_eq (by omega) (by omega)).mp h26_4
          subst e
          refine g_aload_n (i := 0) (r := 0) (t := 118) dX6_lineTells_117 rfl rfl (Or.inl l9_0) rfl ?_
          refine gm_getR (o := 0) (ci := 6) (k := 4) (r := 18) (t := 121) l6_0 l9_0 s_0 gf_X6_44 rfl r_0_4 l9_18 dX6_lineTells_118 rfl ?_
          refine gm_getR (o := 18) (ci := 1) (k := 3) (r := 21) (t := 124) l6_18 l9_18 s_18 gf_X6_224 rfl r_18_3 l9_21 dX6_lineTells_121 rfl ?_
          refine g_iload_n (i := 1) (t := 125) dX6_lineTells_124 rfl rfl rfl ?_
          refine gm_iald_n (a := 21) (n := 16) (t := 126) l6_21 l9_21 s_21 dX6_lineTells_125 (by omega) (by decide) rfl ?_
          exact g_retP dX6_lineTells_126 rfl rfl (c1)
        · have e : k = 5 := (nI_eq (by omega) (by omega)).mp h26_5
          subst e
          refine g_aload_n (i := 0) (r := 0) (t := 128) dX6_lineTells_127 rfl rfl (Or.inl l9_0) rfl ?_
          refine gm_getR (o := 0) (ci := 6) (k := 4) (r := 18) (t := 131) l6_0 l9_0 s_0 gf_X6_44 rfl r_0_4 l9_18 dX6_lineTells_128 rfl ?_
          refine gm_getR (o := 18) (ci := 1) (k := 5) (r := 23) (t := 134) l6_18 l9_18 s_18 gf_X6_227 rfl r_18_5 l9_23 dX6_lineTells_131 rfl ?_
          refine g_iload_n (i := 1) (t := 135) dX6_lineTells_134 rfl rfl rfl ?_
          refine gm_zald_n (a := 23) (n := 16) (t := 136) l6_23 l9_23 s_23 dX6_lineTells_135 (by omega) (by decide) rfl ?_
          rw [c3]
          refine g_if_eq (t1 := 143) (t2 := 139) dX6_lineTells_136 (by decide) rfl (fun h136 => ?_) (fun h136 => ?_)
          · refine g_iconst (t := 144) dX6_lineTells_143 c_iconst_0 rfl ?_
            exact g_retP dX6_lineTells_144 rfl rfl (by
    show _ = bI _
    first
    | (rw [bI_0 h136]; rfl)
    | (rw [bI_n0 h136]; rfl))
          · refine g_iconst (t := 140) dX6_lineTells_139 c_iconst_1 rfl ?_
            refine g_goto (t := 144) dX6_lineTells_140 (by decide) ?_
            exact g_retP dX6_lineTells_144 rfl rfl (by
    show _ = bI _
    first
    | (rw [bI_0 h136]; rfl)
    | (rw [bI_n0 h136]; rfl))
        · have e : k = 6 := (nI_eq (by omega) (by omega)).mp h26_6
          subst e
          refine g_aload_n (i := 0) (r := 0) (t := 146) dX6_lineTells_145 rfl rfl (Or.inl l9_0) rfl ?_
          refine gm_getR (o := 0) (ci := 6) (k := 4) (r := 18) (t := 149) l6_0 l9_0 s_0 gf_X6_44 rfl r_0_4 l9_18 dX6_lineTells_146 rfl ?_
          refine gm_getR (o := 18) (ci := 1) (k := 4) (r := 22) (t := 152) l6_18 l9_18 s_18 gf_X6_231 rfl r_18_4 l9_22 dX6_lineTells_149 rfl ?_
          refine g_iload_n (i := 1) (t := 153) dX6_lineTells_152 rfl rfl rfl ?_
          refine gm_iald_n (a := 22) (n := 16) (t := 154) l6_22 l9_22 s_22 dX6_lineTells_153 (by omega) (by decide) rfl ?_
          exact g_retP dX6_lineTells_154 rfl rfl (c2)
        · have e : k = 7 := by
            apply Classical.byContradiction
            intro q
            exact h26_d k (by omega) (congrArg nI (by omega))
          subst e
          refine g_aload_n (i := 0) (r := 0) (t := 156) dX6_lineTells_155 rfl rfl (Or.inl l9_0) rfl ?_
          refine gm_getR (o := 0) (ci := 6) (k := 4) (r := 18) (t := 159) l6_0 l9_0 s_0 gf_X6_44 rfl r_0_4 l9_18 dX6_lineTells_156 rfl ?_
          refine gm_getR (o := 18) (ci := 1) (k := 2) (r := 20) (t := 162) l6_18 l9_18 s_18 gf_X6_234 rfl r_18_2 l9_20 dX6_lineTells_159 rfl ?_
          refine g_iload_n (i := 1) (t := 163) dX6_lineTells_162 rfl rfl rfl ?_
          refine gm_iald_n (a := 20) (n := 16) (t := 164) l6_20 l9_20 s_20 dX6_lineTells_163 (by omega) (by decide) rfl ?_
          exact g_retP dX6_lineTells_164 rfl rfl (b2)
      · exfalso; omega
theorem x6_ge_loop (hX : rX I S) (hL : lX I S.1) : ∀ (d k : Nat), k + 1 + d = sC S.1 → Wp E fX6_greatestEnd (gn h) 25 [.ref 0, .int (geV S.1 (k + 1)), .int (nI (k + 1))] [] (gM I h) (gRet fX6_greatestEnd (gn h) (fun r σ' => r = some (.int (geV S.1 (sC S.1))) ∧ σ' = gM I h)) := by
  have ⟨hn, h4, hP, hB, hH, hT, _⟩ := hX
  obtain ⟨l1, l2, l3, l4⟩ := hL
  have hc := sC_le hn
  intro d
  induction d with
  | zero =>
    intro k hk
    refine g_iload_n (i := 2) (t := 26) dX6_greatestEnd_25 rfl rfl rfl ?_
    refine g_aload_n (i := 0) (r := 0) (t := 27) dX6_greatestEnd_26 rfl rfl (Or.inl l9_0) rfl ?_
    refine gm_getR (o := 0) (ci := 6) (k := 3) (r := 11) (t := 30) l6_0 l9_0 s_0 gf_X6_35 rfl r_0_3 l9_11 dX6_greatestEnd_27 rfl ?_
    refine gm_getI (o := 11) (ci := 2) (k := 0) (t := 33) l6_11 l9_11 s_11 gf_X6_141 rfl dX6_greatestEnd_30 rfl ?_
    rw [l1.2.1]
    refine g_icmp_ge_n (t1 := 55) (t2 := 36) dX6_greatestEnd_33 (by decide) rfl (by omega) (by omega) (fun h33 => ?_) (fun h33 => ?_)
    · refine g_iload_n (i := 1) (t := 56) dX6_greatestEnd_55 rfl rfl rfl ?_
      exact g_retP dX6_greatestEnd_56 rfl rfl (by rw [show k + 1 = sC S.1 from hk])
    · exfalso; omega
  | succ d ih =>
    intro k hk
    have hlt := lin_lt (sQ S.1) (c := sC S.1) (p := k + 1) (by omega)
    have a1 := l3.2 (k + 1) (by omega) hlt
    have a2 := l4.2.2 (k + 1) (by omega) hlt
    refine g_iload_n (i := 2) (t := 26) dX6_greatestEnd_25 rfl rfl rfl ?_
    refine g_aload_n (i := 0) (r := 0) (t := 27) dX6_greatestEnd_26 rfl rfl (Or.inl l9_0) rfl ?_
    refine gm_getR (o := 0) (ci := 6) (k := 3) (r := 11) (t := 30) l6_0 l9_0 s_0 gf_X6_35 rfl r_0_3 l9_11 dX6_greatestEnd_27 rfl ?_
    refine gm_getI (o := 11) (ci := 2) (k := 0) (t := 33) l6_11 l9_11 s_11 gf_X6_141 rfl dX6_greatestEnd_30 rfl ?_
    rw [l1.2.1]
    refine g_icmp_ge_n (t1 := 55) (t2 := 36) dX6_greatestEnd_33 (by decide) rfl (by omega) (by omega) (fun h33 => ?_) (fun h33 => ?_)
    · exfalso; omega
    · refine g_iload_n (i := 1) (t := 37) dX6_greatestEnd_36 rfl rfl rfl ?_
      refine g_aload_n (i := 0) (r := 0) (t := 38) dX6_greatestEnd_37 rfl rfl (Or.inl l9_0) rfl ?_
      refine gm_getR (o := 0) (ci := 6) (k := 5) (r := 27) (t := 41) l6_0 l9_0 s_0 gf_X6_53 rfl r_0_5 l9_27 dX6_greatestEnd_38 rfl ?_
      refine g_iload_n (i := 2) (t := 42) dX6_greatestEnd_41 rfl rfl rfl ?_
      refine g_cVp (o := 27) (t := 45) mX3_end k_X6_243 imX3_end seX3_end l6_27 l9_27 s_27 rfl dX6_greatestEnd_42 (x3_end (by omega)) rfl rfl (by decide) (by decide) (Nat.le_of_ble_eq_true rfl) rfl (Nat.le_refl _) ?_
      refine g_max (t := 48) k_X6_244 k_max2 k_ma3 k_max4 (by decide) (by decide) (Nat.le_of_ble_eq_true rfl) dX6_greatestEnd_45 rfl ?_
      refine g_top (y := geV S.1 (k + 2)) (by rw [geV, a1.1, a2.1]; rfl) ?_
      refine g_istore_n (i := 1) (t := 49) (L1 := [_, _, _]) dX6_greatestEnd_48 rfl (by decide) rfl rfl rfl ?_
      refine g_iinc (i := 2) (t := 52) (L1 := [_, _, _]) dX6_greatestEnd_49 rfl (gi_1 _) (by decide) rfl rfl rfl ?_
      refine g_goto (t := 25) dX6_greatestEnd_52 (by decide) ?_
      exact ih (k + 1) (by omega)
theorem x6_greatestEnd (hX : rX I S) (hL : lX I S.1) : gPI E fX6_greatestEnd [.ref 0] I h (geV S.1 (sC S.1)) := by
  refine gEv.of rfl (Nat.le_refl _) (Nat.le_of_ble_eq_true rfl) (L := [.ref 0, .null, .null]) rfl ?_
  have ⟨hn, h4, hP, hB, hH, hT, _⟩ := hX
  have ⟨l1, l2, l3, l4⟩ := hL
  have hc := sC_le hn
  cases hcs : sC S.1 with
  | zero =>
    refine g_aload_n (i := 0) (r := 0) (t := 1) dX6_greatestEnd_0 rfl rfl (Or.inl l9_0) rfl ?_
    refine gm_getR (o := 0) (ci := 6) (k := 3) (r := 11) (t := 4) l6_0 l9_0 s_0 gf_X6_35 rfl r_0_3 l9_11 dX6_greatestEnd_1 rfl ?_
    refine gm_getI (o := 11) (ci := 2) (k := 0) (t := 7) l6_11 l9_11 s_11 gf_X6_141 rfl dX6_greatestEnd_4 rfl ?_
    rw [l1.2.1, hcs]
    refine g_if_ne (t1 := 14) (t2 := 10) dX6_greatestEnd_7 (by decide) rfl (fun h7 => ?_) (fun h7 => ?_)
    · exact absurd rfl h7
    · refine g_sipush (t := 13) dX6_greatestEnd_10 c_sipush_m1001 rfl ?_
      exact g_retP dX6_greatestEnd_13 rfl rfl (rfl)
  | succ c =>
    have hlt := lin_lt (sQ S.1) (c := sC S.1) (p := 0) (by omega)
    have a1 := l3.2 0 (by omega) hlt
    have a2 := l4.2.2 0 (by omega) hlt
    rw [← hcs]
    refine g_aload_n (i := 0) (r := 0) (t := 1) dX6_greatestEnd_0 rfl rfl (Or.inl l9_0) rfl ?_
    refine gm_getR (o := 0) (ci := 6) (k := 3) (r := 11) (t := 4) l6_0 l9_0 s_0 gf_X6_35 rfl r_0_3 l9_11 dX6_greatestEnd_1 rfl ?_
    refine gm_getI (o := 11) (ci := 2) (k := 0) (t := 7) l6_11 l9_11 s_11 gf_X6_141 rfl dX6_greatestEnd_4 rfl ?_
    rw [l1.2.1]
    refine g_if_ne (t1 := 14) (t2 := 10) dX6_greatestEnd_7 (by decide) rfl (fun h7 => ?_) (fun h7 => ?_)
    · refine g_aload_n (i := 0) (r := 0) (t := 15) dX6_greatestEnd_14 rfl rfl (Or.inl l9_0) rfl ?_
      refine gm_getR (o := 0) (ci := 6) (k := 5) (r := 27) (t := 18) l6_0 l9_0 s_0 gf_X6_53 rfl r_0_5 l9_27 dX6_greatestEnd_15 rfl ?_
      refine g_iconst (t := 19) dX6_greatestEnd_18 c_iconst_0 rfl ?_
      refine g_cVp (o := 27) (t := 22) mX3_end k_X6_243 imX3_end seX3_end l6_27 l9_27 s_27 rfl dX6_greatestEnd_19 (x3_end (by omega)) rfl rfl (by decide) (by decide) (Nat.le_of_ble_eq_true rfl) rfl (Nat.le_refl _) ?_
      refine g_top (y := geV S.1 1) (by rw [a1.1, a2.1]; rfl) ?_
      refine g_istore_n (i := 1) (t := 23) (L1 := [_, _, _]) dX6_greatestEnd_22 rfl (by decide) rfl rfl rfl ?_
      refine g_iconst (t := 24) dX6_greatestEnd_23 c_iconst_1 rfl ?_
      refine g_istore_n (i := 2) (t := 25) (L1 := [_, _, _]) dX6_greatestEnd_24 rfl (by decide) rfl rfl rfl ?_
      exact x6_ge_loop hX hL c 0 (by omega)
    · exact absurd h7 (nI_ne0 (by omega) (by omega))
theorem x6_counted {k : Nat} (hX : rX I S) (hL : lX I S.1) (hk : k < 14) : gPI E fX6_counted [.ref 0, .int (nI k)] I h (cnV S k) := by
  refine gEv.of rfl (Nat.le_refl _) (Nat.le_of_ble_eq_true rfl) (L := [.ref 0, .int (nI k)]) rfl ?_
  have ⟨hn, h4, hP, hB, hH, hT, _⟩ := hX
  have ⟨l1, l2, l3, l4⟩ := hL
  have hc : sC S.1 ≤ S.1.1 := ordS_le _ _
  refine g_iload_n (i := 1) (t := 1) dX6_counted_0 rfl rfl rfl ?_
  refine g_sw7 (l := 0) (td := 105) (t0 := 44) (t1 := 52) (t2 := 68) (t3 := 76) (t4 := 84) (t5 := 89) (t6 := 97) (by decide) dX6_counted_1 rfl rfl (by decide) (by decide) (by decide) (by decide) (by decide) (by decide) (by decide) (by decide) (fun h1_0 => ?_) (fun h1_1 => ?_) (fun h1_2 => ?_) (fun h1_3 => ?_) (fun h1_4 => ?_) (fun h1_5 => ?_) (fun h1_6 => ?_) (fun h1_d => ?_)
  · have e : k = 0 := (nI_eq (by omega) (by omega)).mp h1_0
    subst e
    refine g_aload_n (i := 0) (r := 0) (t := 45) dX6_counted_44 rfl rfl (Or.inl l9_0) rfl ?_
    refine gm_getR (o := 0) (ci := 6) (k := 1) (r := 4) (t := 48) l6_0 l9_0 s_0 gf_X6_19 rfl r_0_1 l9_4 dX6_counted_45 rfl ?_
    refine gm_getI (o := 4) (ci := 4) (k := 0) (t := 51) l6_4 l9_4 s_4 gf_X6_72 rfl dX6_counted_48 rfl ?_
    exact g_retP dX6_counted_51 rfl rfl (h4)
  · have e : k = 1 := (nI_eq (by omega) (by omega)).mp h1_1
    subst e
    refine g_aload_n (i := 0) (r := 0) (t := 53) dX6_counted_52 rfl rfl (Or.inl l9_0) rfl ?_
    refine gm_getR (o := 0) (ci := 6) (k := 1) (r := 4) (t := 56) l6_0 l9_0 s_0 gf_X6_19 rfl r_0_1 l9_4 dX6_counted_53 rfl ?_
    refine gm_getI (o := 4) (ci := 4) (k := 0) (t := 59) l6_4 l9_4 s_4 gf_X6_72 rfl dX6_counted_56 rfl ?_
    refine g_aload_n (i := 0) (r := 0) (t := 60) dX6_counted_59 rfl rfl (Or.inl l9_0) rfl ?_
    refine gm_getR (o := 0) (ci := 6) (k := 3) (r := 11) (t := 63) l6_0 l9_0 s_0 gf_X6_35 rfl r_0_3 l9_11 dX6_counted_60 rfl ?_
    refine gm_getI (o := 11) (ci := 2) (k := 0) (t := 66) l6_11 l9_11 s_11 gf_X6_141 rfl dX6_counted_63 rfl ?_
    rw [h4, l1.2.1]
    refine g_isub (t := 67) dX6_counted_66 rfl ?_
    exact g_retP dX6_counted_67 rfl rfl (pk_sub hc)
  · have e : k = 2 := (nI_eq (by omega) (by omega)).mp h1_2
    subst e
    refine g_aload_n (i := 0) (r := 0) (t := 69) dX6_counted_68 rfl rfl (Or.inl l9_0) rfl ?_
    refine gm_getR (o := 0) (ci := 6) (k := 4) (r := 18) (t := 72) l6_0 l9_0 s_0 gf_X6_44 rfl r_0_4 l9_18 dX6_counted_69 rfl ?_
    refine gm_getI (o := 18) (ci := 1) (k := 0) (t := 75) l6_18 l9_18 s_18 gf_X6_147 rfl dX6_counted_72 rfl ?_
    exact g_retP dX6_counted_75 rfl rfl (l2.1)
  · have e : k = 3 := (nI_eq (by omega) (by omega)).mp h1_3
    subst e
    refine g_aload_n (i := 0) (r := 0) (t := 77) dX6_counted_76 rfl rfl (Or.inl l9_0) rfl ?_
    refine gm_getR (o := 0) (ci := 6) (k := 5) (r := 27) (t := 80) l6_0 l9_0 s_0 gf_X6_53 rfl r_0_5 l9_27 dX6_counted_77 rfl ?_
    refine gm_getI (o := 27) (ci := 3) (k := 0) (t := 83) l6_27 l9_27 s_27 gf_X6_237 rfl dX6_counted_80 rfl ?_
    exact g_retP dX6_counted_83 rfl rfl (l4.1)
  · have e : k = 4 := (nI_eq (by omega) (by omega)).mp h1_4
    subst e
    refine g_aload_n (i := 0) (r := 0) (t := 85) dX6_counted_84 rfl rfl (Or.inl l9_0) rfl ?_
    refine g_cVp (o := 0) (t := 88) mX6_greatestEnd k_X6_240 imX6_greatestEnd seX6_greatestEnd l6_0 l9_0 s_0 rfl dX6_counted_85 (x6_greatestEnd hX hL) rfl rfl (by decide) (by decide) (Nat.le_of_ble_eq_true rfl) rfl (Nat.le_refl _) ?_
    exact g_retP dX6_counted_88 rfl rfl (rfl)
  · have e : k = 5 := (nI_eq (by omega) (by omega)).mp h1_5
    subst e
    refine g_aload_n (i := 0) (r := 0) (t := 90) dX6_counted_89 rfl rfl (Or.inl l9_0) rfl ?_
    refine gm_getR (o := 0) (ci := 6) (k := 2) (r := 7) (t := 93) l6_0 l9_0 s_0 gf_X6_26 rfl r_0_2 l9_7 dX6_counted_90 rfl ?_
    refine gm_getI (o := 7) (ci := 0) (k := 0) (t := 96) l6_7 l9_7 s_7 gf_X6_129 rfl dX6_counted_93 rfl ?_
    exact g_retP dX6_counted_96 rfl rfl (hH.2.1)
  · have e : k = 6 := (nI_eq (by omega) (by omega)).mp h1_6
    subst e
    refine g_aload_n (i := 0) (r := 0) (t := 98) dX6_counted_97 rfl rfl (Or.inl l9_0) rfl ?_
    refine gm_getR (o := 0) (ci := 6) (k := 0) (r := 1) (t := 101) l6_0 l9_0 s_0 gf_X6_10 rfl r_0_0 l9_1 dX6_counted_98 rfl ?_
    refine gm_getI (o := 1) (ci := 5) (k := 2) (t := 104) l6_1 l9_1 s_1 gf_X6_68 rfl dX6_counted_101 rfl ?_
    exact g_retP dX6_counted_104 rfl rfl (hT.1)
  · obtain ⟨j, e⟩ : ∃ j, k = j + 7 := by
      refine ⟨k - 7, ?_⟩
      apply Classical.byContradiction
      intro q
      exact h1_d k (by omega) (congrArg nI (by omega))
    subst e
    refine g_aload_n (i := 0) (r := 0) (t := 106) dX6_counted_105 rfl rfl (Or.inl l9_0) rfl ?_
    refine gm_getR (o := 0) (ci := 6) (k := 1) (r := 4) (t := 109) l6_0 l9_0 s_0 gf_X6_19 rfl r_0_1 l9_4 dX6_counted_106 rfl ?_
    refine g_iload_n (i := 1) (t := 110) dX6_counted_109 rfl rfl rfl ?_
    refine g_bipush (t := 112) dX6_counted_110 c_bipush_7 rfl ?_
    refine g_isub (t := 113) dX6_counted_112 rfl ?_
    refine g_top (y := nI j) (by rw [pk_sub (by omega)]; exact congrArg nI (by omega)) ?_
    refine g_cVp (o := 4) (t := 116) mX4_number k_X6_123 imX4_number seX4_number l6_4 l9_4 s_4 rfl dX6_counted_113 (x4_number (by omega)) rfl rfl (by decide) (by decide) (Nat.le_of_ble_eq_true rfl) rfl (Nat.le_refl _) ?_
    exact g_retP dX6_counted_116 rfl rfl (by rw [hB]; rfl)
end X6D

