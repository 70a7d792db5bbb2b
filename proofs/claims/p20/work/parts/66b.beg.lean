/-! the law's start -/
theorem oIn_0 {S S' : sT} {v : Int32} (hn : S.1.1 = 0) (hT : S.2.2.1 = 0) (h : oInsert S (nI 0) v S') : v = -2000 ∧ S' = S := by
  have e : S.2.2 = (0, S.2.2.2) := by rw [← hT]
  have hr := rd_empty S.2.2.2
  rw [← e] at hr
  rcases h with ⟨b, -, -⟩ | ⟨i2, ib, b1, ⟨f, b2, b3, b4, b5⟩ | ⟨b2, -⟩ | ⟨b2, -⟩⟩
  · rw [hn] at b
    exact absurd b (bd_nI (by decide) (by decide))
  · rw [hr] at b3
    cases b3
    exact ⟨by rw [b4]; decide +kernel, b5⟩
  · rw [hr] at b2
    cases b2
  · rw [hr] at b2
    cases b2
theorem oIn_1 {S S' : sT} {v : Int32} (hn : S.1.1 = 0) (h : oInsert S (nI 1) v S') : v = -1002 ∧ S' = S := by
  rcases h with ⟨-, b1, b2⟩ | ⟨i2, ib, b1, -⟩
  · exact ⟨b1, b2⟩
  · have : 1 = i2 := (nI_eq (by decide) (by omega)).mp b1
    omega
theorem oRe_0 {S S' : sT} {v : Int32} (hn : S.1.1 = 0) (h : oRemove S (nI 0) v S') : v = -1002 ∧ S' = S := by
  rcases h with ⟨-, b1, b2⟩ | ⟨i2, ib, -⟩
  · exact ⟨b1, b2⟩
  · omega
theorem oHi_0 {S S' : sT} {v : Int32} (hn : S.1.1 = 0) (h : oHide S (nI 0) v S') : v = -1002 ∧ S' = S := by
  rcases h with ⟨-, b1, b2⟩ | ⟨i2, ib, -⟩
  · exact ⟨b1, b2⟩
  · omega
theorem oUn_0 {S S' : sT} {v : Int32} (hn : S.2.1 = []) (h : oUndo S v S') : v = -1003 ∧ S' = S := by
  rcases h with ⟨-, b1, b2⟩ | ⟨s, H, b, -⟩
  · exact ⟨b1, b2⟩
  · rw [hn] at b
    cases b
theorem li_0 {S : sT} {x y v : Int32} (hn : S.1.1 = 0) (h : vLies S x y v) : v = -1002 := by
  rcases h with ⟨-, b⟩ | ⟨i2, k2, b1, -⟩
  · exact b
  · omega
def S0 : sT := ((0, xP cI2, cI2 5), [], (0, cI2 2))
theorem S0_X : rX cI2 S0 := ⟨Nat.zero_le _, (show cI2 4 0 = nI 0 by decide +kernel), rfl, rfl, ⟨Nat.zero_le _, (show cI2 7 0 = nI 0 by decide +kernel), 0, by decide, (show cI2 7 1 = nI 0 by decide +kernel), fun u s hu => by cases hu⟩, ⟨(show cI2 1 2 = nI 0 by decide +kernel), Nat.zero_le _, rfl⟩, Or.inl (show cI2 0 7 = nI 0 by decide +kernel)⟩
theorem S0_V : vT S0 := ⟨⟨Nat.zero_le _, fun i w hi => absurd hi (Nat.not_lt_zero _), (show ∀ w, w < 7 → lob w ≤ (cI2 5 w).toInt ∧ (cI2 5 w).toInt ≤ hib w by decide +kernel)⟩, fun u s hu => by cases hu⟩
section BEG
variable {E : gE}
theorem law_137 (hL : E.2.2.2.2.1 ≤ 260) {J : Nat → Nat → Int32} {h : gX} (hg : gn h = 50) (hP : lawP J) : lwG E 137 [.ref 1000, .ref 0, .ref 41, .ref 42, .ref 43, .null, .null, .null, .null, .null] [] J h := by
  refine g_iconst (t := 138) dL_law_137 c_iconst_0 rfl ?_
  refine g_istore (i := 5) (t := 140) (L1 := [_, _, _, _, _, _, _, _, _, _]) dL_law_138 (by decide) rfl rfl rfl ?_
  exact law_loop hL 24 0 J h _ _ _ _ rfl hg hP
theorem law_begin (hL : E.2.2.2.2.1 ≤ 260) : lwG E 24 [.ref 1000, .ref 0, .ref 41, .ref 42, .ref 43, .null, .null, .null, .null, .null] [] cI2 (0, []) := by
  have hle : gn ((0, []) : gX) ≤ 194 := by decide
  have T132 : ∀ (J : Nat → Nat → Int32) (h' : gX), gn h' = gn ((0, []) : gX) + 6 → rX J S0 → aX J S0 → lwG E 132 [.ref 1000, .ref 0, .ref 41, .ref 42, .ref 43, .null, .null, .null, .null, .null] [.int (nI 1)] J h' := by
    intro J h' hn hXJ hAJ
    refine g_if_ne (t1 := 137) (t2 := 135) dL_law_132 (by decide) rfl (fun h132 => ?_) (fun h132 => ?_)
    · exact law_137 hL hn ⟨S0, hXJ, hAJ, S0_V⟩
    · exact absurd h132 (by decide)
  refine g_aload_n (i := 3) (r := 42) (t := 25) dL_law_24 rfl rfl (Or.inl l9_42) rfl ?_
  refine g_cSv (t := 28) mL_begins k_L_103 smL_begins dL_law_25 (l_begins) rfl rfl (by decide) (by decide) (Nat.le_of_ble_eq_true rfl) rfl hle (fun J25 q25 => ?_)
  obtain ⟨zq1, zq2⟩ := q25
  have zX0 : rX J25 S0 := S0_X.keep (cs := [42]) zq1 rfl
  have zA0 : aX J25 S0 := ⟨Nat.zero_le _, by rw [zq1.at 41 rfl]; show cI2 41 60 = nI 0; decide +kernel, fun i w hi => absurd hi (Nat.not_lt_zero _), fun w hw => by rw [zq2 w hw]; exact (show ∀ w, w < 7 → bgV w = cI2 5 w by decide +kernel) w hw⟩
  refine g_aload_n (i := 2) (r := 41) (t := 29) dL_law_28 rfl rfl (Or.inl l9_41) rfl ?_
  refine g_aload_n (i := 3) (r := 42) (t := 30) dL_law_29 rfl rfl (Or.inl l9_42) rfl ?_
  refine g_aload (i := 4) (r := 43) (t := 32) dL_law_30 rfl (Or.inl l9_43) rfl ?_
  refine g_cSv (t := 35) mL_orders k_L_107 smL_orders dL_law_32 (l_orders zA0 S0_V.1) rfl rfl (by decide) (by decide) (Nat.le_of_ble_eq_true rfl) rfl hle (fun J32 q32 => ?_)
  obtain ⟨zq3, zO1⟩ := q32
  have zX1 : rX J32 S0 := zX0.keep (cs := [43]) zq3 rfl
  have zA1 : aX J32 S0 := zA0.keep zq3 rfl rfl rfl
  refine g_aload_n (i := 1) (r := 0) (t := 36) dL_law_35 rfl rfl (Or.inl l9_0) rfl ?_
  refine g_iconst (t := 37) dL_law_36 c_iconst_0 rfl ?_
  refine g_cVi (o := 0) (t := 40) mX6_insert k_L_47 imX6_insert seX6_insert l6_0 l9_0 s_0 rfl dL_law_37 (x6_insert zX1) rfl rfl (by decide) (by decide) (Nat.le_of_ble_eq_true rfl) rfl hle (fun v37 J37 q37 => ?_)
  obtain ⟨zs1, S1, zo1, zX2⟩ := q37
  obtain ⟨zv1, rfl⟩ := oIn_0 rfl rfl zo1
  refine g_sipush (t := 43) dL_law_40 c_sipush_m2000 rfl ?_
  refine g_icmp_ne (t1 := 135) (t2 := 46) dL_law_43 (by decide) rfl (fun h43 => ?_) (fun h43 => ?_)
  · exact absurd zv1 h43
  · refine g_aload_n (i := 1) (r := 0) (t := 47) dL_law_46 rfl rfl (Or.inl l9_0) rfl ?_
    refine g_iconst (t := 48) dL_law_47 c_iconst_1 rfl ?_
    refine g_cVi (o := 0) (t := 51) mX6_insert k_L_47 imX6_insert seX6_insert l6_0 l9_0 s_0 rfl dL_law_48 (x6_insert zX2) rfl rfl (by decide) (by decide) (Nat.le_of_ble_eq_true rfl) rfl hle (fun v48 J48 q48 => ?_)
    obtain ⟨zs2, S2, zo2, zX3⟩ := q48
    obtain ⟨zv2, rfl⟩ := oIn_1 rfl zo2
    refine g_sipush (t := 54) dL_law_51 c_sipush_m1002 rfl ?_
    refine g_icmp_ne (t1 := 135) (t2 := 57) dL_law_54 (by decide) rfl (fun h54 => ?_) (fun h54 => ?_)
    · exact absurd zv2 h54
    · refine g_aload_n (i := 1) (r := 0) (t := 58) dL_law_57 rfl rfl (Or.inl l9_0) rfl ?_
      refine g_iconst (t := 59) dL_law_58 c_iconst_0 rfl ?_
      refine g_cVi (o := 0) (t := 62) mX6_remove k_L_111 imX6_remove seX6_remove l6_0 l9_0 s_0 rfl dL_law_59 (x6_remove zX3) rfl rfl (by decide) (by decide) (Nat.le_of_ble_eq_true rfl) rfl hle (fun v59 J59 q59 => ?_)
      obtain ⟨zs3, S3, zo3, zX4⟩ := q59
      obtain ⟨zv3, rfl⟩ := oRe_0 rfl zo3
      refine g_sipush (t := 65) dL_law_62 c_sipush_m1002 rfl ?_
      refine g_icmp_ne (t1 := 135) (t2 := 68) dL_law_65 (by decide) rfl (fun h65 => ?_) (fun h65 => ?_)
      · exact absurd zv3 h65
      · refine g_aload_n (i := 1) (r := 0) (t := 69) dL_law_68 rfl rfl (Or.inl l9_0) rfl ?_
        refine g_iconst (t := 70) dL_law_69 c_iconst_0 rfl ?_
        refine g_cVi (o := 0) (t := 73) mX6_hide k_L_73 imX6_hide seX6_hide l6_0 l9_0 s_0 rfl dL_law_70 (x6_hide zX4) rfl rfl (by decide) (by decide) (Nat.le_of_ble_eq_true rfl) rfl hle (fun v70 J70 q70 => ?_)
        obtain ⟨zs4, S4, zo4, zX5⟩ := q70
        obtain ⟨zv4, rfl⟩ := oHi_0 rfl zo4
        refine g_sipush (t := 76) dL_law_73 c_sipush_m1002 rfl ?_
        refine g_icmp_ne (t1 := 135) (t2 := 79) dL_law_76 (by decide) rfl (fun h76 => ?_) (fun h76 => ?_)
        · exact absurd zv4 h76
        · refine g_aload_n (i := 1) (r := 0) (t := 80) dL_law_79 rfl rfl (Or.inl l9_0) rfl ?_
          refine g_iconst (t := 81) dL_law_80 c_iconst_0 rfl ?_
          refine g_iconst (t := 82) dL_law_81 c_iconst_0 rfl ?_
          refine g_cVi (o := 0) (t := 85) mX6_lies k_L_86 imX6_lies seX6_lies l6_0 l9_0 s_0 rfl dL_law_82 (x6_lies zX5) rfl rfl (by decide) (by decide) (Nat.le_of_ble_eq_true rfl) rfl hle (fun v82 J82 q82 => ?_)
          obtain ⟨zs5, zX6, zo5⟩ := q82
          have zv5 := li_0 rfl zo5
          refine g_sipush (t := 88) dL_law_85 c_sipush_m1002 rfl ?_
          refine g_icmp_ne (t1 := 135) (t2 := 91) dL_law_88 (by decide) rfl (fun h88 => ?_) (fun h88 => ?_)
          · exact absurd zv5 h88
          · refine g_aload_n (i := 1) (r := 0) (t := 92) dL_law_91 rfl rfl (Or.inl l9_0) rfl ?_
            refine g_cVi (o := 0) (t := 95) mX6_undo k_L_114 imX6_undo seX6_undo l6_0 l9_0 s_0 rfl dL_law_92 (x6_undo zX6) rfl rfl (by decide) (by decide) (Nat.le_of_ble_eq_true rfl) rfl hle (fun v92 J92 q92 => ?_)
            obtain ⟨zs6, S6, zo6, zX7⟩ := q92
            obtain ⟨zv6, rfl⟩ := oUn_0 rfl zo6
            refine g_sipush (t := 98) dL_law_95 c_sipush_m1003 rfl ?_
            refine g_icmp_ne (t1 := 135) (t2 := 101) dL_law_98 (by decide) rfl (fun h98 => ?_) (fun h98 => ?_)
            · exact absurd zv6 h98
            · refine g_aload_n (i := 1) (r := 0) (t := 102) dL_law_101 rfl rfl (Or.inl l9_0) rfl ?_
              refine g_bipush (t := 104) dL_law_102 c_bipush_14 rfl ?_
              refine g_cVi (o := 0) (t := 107) mX6_count k_L_92 imX6_count seX6_count l6_0 l9_0 s_0 rfl dL_law_104 (x6_count zX7) rfl rfl (by decide) (by decide) (Nat.le_of_ble_eq_true rfl) rfl hle (fun v104 J104 q104 => ?_)
              obtain ⟨zs7, zX8, zo7⟩ := q104
              have zv7 := co_14 zo7
              have zs := (((((zs1.trans zs2).trans zs3).trans zs4).trans zs5).trans zs6).trans zs7
              have zA2 : aX J104 S0 := zA1.keep zs rfl rfl rfl
              have zO2 : orX J104 S0 := zO1.keep (zs.at 43 rfl)
              refine g_sipush (t := 110) dL_law_107 c_sipush_m1002 rfl ?_
              refine g_icmp_ne (t1 := 135) (t2 := 113) dL_law_110 (by decide) rfl (fun h110 => ?_) (fun h110 => ?_)
              · exact absurd zv7 h110
              · refine g_aload_n (i := 1) (r := 0) (t := 114) dL_law_113 rfl rfl (Or.inl l9_0) rfl ?_
                refine g_aload_n (i := 2) (r := 41) (t := 115) dL_law_114 rfl rfl (Or.inl l9_41) rfl ?_
                refine g_aload_n (i := 3) (r := 42) (t := 116) dL_law_115 rfl rfl (Or.inl l9_42) rfl ?_
                refine g_aload (i := 4) (r := 43) (t := 118) dL_law_116 rfl (Or.inl l9_43) rfl ?_
                refine g_cSi (t := 121) mL_areItems k_L_117 smL_areItems dL_law_118 (l_areItems zX8 zA2 zO2 S0_V) rfl rfl (by decide) (by decide) (Nat.le_of_ble_eq_true rfl) rfl hle (fun v118 J118 q118 => ?_)
                obtain ⟨zs8, rfl, zX9⟩ := q118
                have zA3 : aX J118 S0 := zA2.keep zs8 rfl rfl rfl
                have zO3 : orX J118 S0 := zO2.keep (zs8.at 43 rfl)
                refine g_if_eq (t1 := 135) (t2 := 124) dL_law_121 (by decide) rfl (fun h121 => ?_) (fun h121 => ?_)
                · exact absurd h121 (by decide)
                · refine g_aload_n (i := 1) (r := 0) (t := 125) dL_law_124 rfl rfl (Or.inl l9_0) rfl ?_
                  refine g_aload_n (i := 2) (r := 41) (t := 126) dL_law_125 rfl rfl (Or.inl l9_41) rfl ?_
                  refine g_aload_n (i := 3) (r := 42) (t := 127) dL_law_126 rfl rfl (Or.inl l9_42) rfl ?_
                  refine g_aload (i := 4) (r := 43) (t := 129) dL_law_127 rfl (Or.inl l9_43) rfl ?_
                  refine g_cSn (t := 132) mL_areSizes k_L_121 smL_areSizes dL_law_129 (l_areSizes zX9 zA3 zO3 S0_V (by decide)) rfl rfl (by decide) (by decide) (Nat.le_of_ble_eq_true rfl) rfl (by decide) (fun r129 J129 h129 n129 q129 => ?_)
                  obtain ⟨rfl, zq6, zq7, zq8, zq9⟩ := q129
                  exact T132 J129 h129 n129 zq6 (by unfold aX; rw [zq7, zq8]; exact zA3)
end BEG

