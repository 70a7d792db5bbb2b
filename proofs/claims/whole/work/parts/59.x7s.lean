/-! FlexRowsModel: moving -/
section X7S
variable {E : gE} {I : Nat → Nat → Int32} {h : Int64} {S : sT} {s : sS}
theorem x7_move {x y v : Int32} {S' : sT} (hR : rM I S) (hV : vT S) (hV' : vS S'.1) (ho : oMove S x y v S') : gQI E fX7_move [.ref 41, .int x, .int y] I h (fun v' I' => gSame ML I I' ∧ v' = v ∧ rM I' S') := by
  refine gEv.of rfl (Nat.le_refl _) (Nat.le_of_ble_eq_true rfl) (L := [.ref 41, .int x, .int y, .null]) rfl ?_
  have ⟨hn, hC, hH, hT⟩ := hR
  rcases ho with ⟨hb, rfl, rfl⟩ | ⟨a, b, ha, hb, rfl, rfl, rfl, o1, o2, o3, o4⟩
  · by_cases hx : bdI S'.1.1 x
    · refine g_aload_n (i := 0) (r := 41) (t := 1) dX7_move_0 rfl rfl (Or.inl l9_41) rfl ?_
      refine g_iload_n (i := 1) (t := 2) dX7_move_1 rfl rfl rfl ?_
      refine g_cVp (o := 41) (t := 5) mX7_isItem k_X7_153 imX7_isItem seX7_isItem l6_41 l9_41 s_41 rfl dX7_move_2 (x7_isItem_f hC hn hx) rfl rfl (by decide) (by decide) (Nat.le_of_ble_eq_true rfl) rfl ?_
      refine g_if_eq (t1 := 16) (t2 := 8) dX7_move_5 (by decide) rfl (fun h5 => ?_) (fun h5 => ?_)
      · refine g_sipush (t := 19) dX7_move_16 c_sipush_m1002 rfl ?_
        exact g_retI dX7_move_19 rfl rfl (⟨gSame.rf, rfl, hR⟩)
      · exact absurd rfl h5
    · obtain ⟨a, ha, rfl⟩ := bd_no (by omega) hx
      have hy := hb.resolve_left hx
      refine g_aload_n (i := 0) (r := 41) (t := 1) dX7_move_0 rfl rfl (Or.inl l9_41) rfl ?_
      refine g_iload_n (i := 1) (t := 2) dX7_move_1 rfl rfl rfl ?_
      refine g_cVp (o := 41) (t := 5) mX7_isItem k_X7_153 imX7_isItem seX7_isItem l6_41 l9_41 s_41 rfl dX7_move_2 (x7_isItem_t hC hn ha) rfl rfl (by decide) (by decide) (Nat.le_of_ble_eq_true rfl) rfl ?_
      refine g_if_eq (t1 := 16) (t2 := 8) dX7_move_5 (by decide) rfl (fun h5 => ?_) (fun h5 => ?_)
      · exact absurd h5 (by decide)
      · refine g_aload_n (i := 0) (r := 41) (t := 9) dX7_move_8 rfl rfl (Or.inl l9_41) rfl ?_
        refine g_iload_n (i := 2) (t := 10) dX7_move_9 rfl rfl rfl ?_
        refine g_cVp (o := 41) (t := 13) mX7_isItem k_X7_153 imX7_isItem seX7_isItem l6_41 l9_41 s_41 rfl dX7_move_10 (x7_isItem_f hC hn hy) rfl rfl (by decide) (by decide) (Nat.le_of_ble_eq_true rfl) rfl ?_
        refine g_if_ne (t1 := 20) (t2 := 16) dX7_move_13 (by decide) rfl (fun h13 => ?_) (fun h13 => ?_)
        · exact absurd rfl h13
        · refine g_sipush (t := 19) dX7_move_16 c_sipush_m1002 rfl ?_
          exact g_retI dX7_move_19 rfl rfl (⟨gSame.rf, rfl, hR⟩)
  · have T92 : ∀ (J0 J : Nat → Nat → Int32) (v3 : Value), gSame [41, 43] I J0 → (∀ k, k ≠ 2 → J0 41 k = I 41 k) → hM J0 (hS S) → gSame [42, 45] J0 J → (∀ q, 176 ≤ q → J 42 q = J0 42 q) → (∀ i w, i < 16 → w < 11 → i ≠ b → J 42 (11 * i + w) = J0 42 (11 * mvI a b i + w)) → (∀ q, q < 11 → J 45 q = J0 42 (11 * a + q)) → Wp E fX7_move 62 92 [.ref 41, .int (nI a), .int (nI b), v3] [] (gM J h) (gRet fX7_move 62 (fun r σ' => ∃ (v' : Int32) (I' : Nat → Nat → Int32), r = some (.int v') ∧ σ' = gM I' h ∧ gSame ML I I' ∧ v' = plcS (sQ S'.1).2.2.2 b (sC S'.1) 0 ∧ rM I' S')) := by
      intro J0 J v3 j1 j2 j3 hs hq hr h45
      have e42 : J0 42 = I 42 := j1.at 42 rfl
      refine g_aload_n (i := 0) (r := 41) (t := 93) dX7_move_92 rfl rfl (Or.inl l9_41) rfl ?_
      refine g_iload_n (i := 2) (t := 94) dX7_move_93 rfl rfl rfl ?_
      refine g_cVv (o := 41) (t := 97) mX7_lays k_X7_150 imX7_lays seX7_lays l6_41 l9_41 s_41 rfl dX7_move_94 (x7_lays (by omega)) rfl rfl (by decide) (by decide) (Nat.le_of_ble_eq_true rfl) rfl (fun J2 q => ?_)
      have hs2 : gSame [41, 42, 43, 45] I J2 := (((j1.wk rfl).trans (hs.wk rfl)).trans (q.1.wk rfl))
      have h41 : J2 41 = J0 41 := by rw [q.1.at 41 rfl, hs.at 41 rfl]
      have hR2 : rM J2 S' := by
        refine ⟨by rw [o1]; exact hn, ⟨?_, fun i w hi hw => ?_, fun k hk => ?_⟩, ?_, ?_⟩
        · rw [q.2, if_neg (by omega), hq _ (by omega), e42, hC.1, o1]
        · rw [o1] at hi
          rw [q.2, o4 i w (by omega) hw]
          by_cases y : i = b
          · subst y
            have e : mvI a i i = a := by unfold mvI; split <;> (repeat' split) <;> omega
            rw [if_pos (by omega), Nat.add_sub_cancel_left, h45 w hw, e42, e]
            exact hC.2.1 a w ha hw
          · rw [if_neg (by omega), hr i w (by omega) hw y, e42]
            exact hC.2.1 _ w (mvI_lt ha hb hi) hw
        · rw [q.2, if_neg (by omega), hq _ (by omega), e42, hC.2.2 k hk, o2]
        · rw [o3]; exact j3.keep (by rw [h41]) (by rw [q.1.at 43 rfl, hs.at 43 rfl])
        · rw [o3]; exact hT.keep (by rw [h41]; exact j2 4 (by decide)) (hs2.at 44 rfl)
      refine g_aload_n (i := 0) (r := 41) (t := 98) dX7_move_97 rfl rfl (Or.inl l9_41) rfl ?_
      refine g_aload_n (i := 0) (r := 41) (t := 99) dX7_move_98 rfl rfl (Or.inl l9_41) rfl ?_
      refine gm_getR (o := 41) (ci := 7) (k := 0) (r := 42) (t := 102) l6_41 l9_41 s_41 gf_X7_7 rfl r_41_0 l9_42 dX7_move_99 rfl ?_
      refine g_sipush (t := 105) dX7_move_102 c_sipush_177 rfl ?_
      refine gm_iald_n (a := 42) (n := 184) (t := 106) l6_42 l9_42 s_42 dX7_move_105 (by omega) (by decide) rfl ?_
      rw [show J2 42 177 = S'.1.2.2 0 from hR2.2.1.2.2 0 (by decide)]
      refine g_cVv (o := 41) (t := 109) mX7_draws k_X7_161 imX7_draws seX7_draws l6_41 l9_41 s_41 rfl dX7_move_106 (x7_draws hV' hV'.b0 hR2.2.1) rfl rfl (by decide) (by decide) (Nat.le_of_ble_eq_true rfl) rfl (fun J3 q3 => ?_)
      refine g_aload_n (i := 0) (r := 41) (t := 110) dX7_move_109 rfl rfl (Or.inl l9_41) rfl ?_
      refine g_iload_n (i := 2) (t := 111) dX7_move_110 rfl rfl rfl ?_
      refine g_cVp (o := 41) (t := 114) mX7_placeOf k_X7_164 imX7_placeOf seX7_placeOf l6_41 l9_41 s_41 rfl dX7_move_111 (x7_placeOf q3.2.2.1 (sC_le hV'.1) (fun p hp => by have := sQ_le hV'.1 hp; have := hV'.1; omega) (by omega)) rfl rfl (by decide) (by decide) (Nat.le_of_ble_eq_true rfl) rfl ?_
      exact g_retI dX7_move_114 rfl rfl (⟨(hs2.wk rfl).trans (q3.1.wk rfl), rfl, hR2.drawn q3.1 q3.2.1⟩)
    have T50 : ∀ (J0 J : Nat → Nat → Int32) (v3 : Value), gSame [41, 43] I J0 → (∀ k, k ≠ 2 → J0 41 k = I 41 k) → hM J0 (hS S) → gSame [45] J0 J → (∀ q, q < 11 → J 45 q = J0 42 (11 * a + q)) → Wp E fX7_move 62 50 [.ref 41, .int (nI a), .int (nI b), v3] [] (gM J h) (gRet fX7_move 62 (fun r σ' => ∃ (v' : Int32) (I' : Nat → Nat → Int32), r = some (.int v') ∧ σ' = gM I' h ∧ gSame ML I I' ∧ v' = plcS (sQ S'.1).2.2.2 b (sC S'.1) 0 ∧ rM I' S')) := by
      intro J0 J v3 j1 j2 j3 hs h45
      have e42 : J 42 = J0 42 := hs.at 42 rfl
      rcases Nat.lt_or_ge b a with hba | hab
      · have T71 : ∀ K v3, upR K J b a → Wp E fX7_move 62 71 [.ref 41, .int (nI a), .int (nI b), v3] [] (gM K h) (gRet fX7_move 62 (fun r σ' => ∃ (v' : Int32) (I' : Nat → Nat → Int32), r = some (.int v') ∧ σ' = gM I' h ∧ gSame ML I I' ∧ v' = plcS (sQ S'.1).2.2.2 b (sC S'.1) 0 ∧ rM I' S')) := by
          intro K v3 ⟨u1, u2, u3⟩
          refine g_iload_n (i := 1) (t := 72) dX7_move_71 rfl rfl rfl ?_
          refine g_istore_n (i := 3) (t := 73) (L1 := [_, _, _, _]) dX7_move_72 rfl (by decide) rfl rfl rfl ?_
          refine g_iload_n (i := 3) (t := 74) dX7_move_73 rfl rfl rfl ?_
          refine g_iload_n (i := 2) (t := 75) dX7_move_74 rfl rfl rfl ?_
          refine g_icmp_ge_n (t1 := 92) (t2 := 78) dX7_move_75 (by decide) rfl (by omega) (by omega) (fun h75 => ?_) (fun h75 => ?_)
          · refine T92 J0 K _ j1 j2 j3 ((hs.wk rfl).trans (u1.wk rfl)) (fun q z => by rw [u2 q z, e42]) (fun i w hi hw ne => ?_) (fun q z => by rw [u1.at 45 rfl]; exact h45 q z)
            rw [u3 i w hi hw, e42]
            by_cases z : b < i ∧ i ≤ a
            · rw [if_pos z]
              exact congrArg (fun z => J0 42 (11 * z + w)) (by unfold mvI; rw [if_neg (by omega), if_neg (by omega), if_neg (by omega), if_pos (by omega)])
            · rw [if_neg z]
              exact congrArg (fun z => J0 42 (11 * z + w)) (by unfold mvI; rw [if_neg (by omega)]; split <;> (repeat' split) <;> omega)
          · exfalso; omega
        refine g_iload_n (i := 1) (t := 51) dX7_move_50 rfl rfl rfl ?_
        refine g_istore_n (i := 3) (t := 52) (L1 := [_, _, _, _]) dX7_move_51 rfl (by decide) rfl rfl rfl ?_
        exact x7_mv_up (by omega) (by omega) T71 (a - b) a J (by omega) (Nat.le_refl _) ⟨gSame.rf, fun _ _ => rfl, fun i w hi hw => by rw [if_neg (by omega)]⟩
      · have T92' : ∀ K v3, dnR K J a b → Wp E fX7_move 62 92 [.ref 41, .int (nI a), .int (nI b), v3] [] (gM K h) (gRet fX7_move 62 (fun r σ' => ∃ (v' : Int32) (I' : Nat → Nat → Int32), r = some (.int v') ∧ σ' = gM I' h ∧ gSame ML I I' ∧ v' = plcS (sQ S'.1).2.2.2 b (sC S'.1) 0 ∧ rM I' S')) := by
          intro K v3 ⟨u1, u2, u3⟩
          refine T92 J0 K _ j1 j2 j3 ((hs.wk rfl).trans (u1.wk rfl)) (fun q z => by rw [u2 q z, e42]) (fun i w hi hw ne => ?_) (fun q z => by rw [u1.at 45 rfl]; exact h45 q z)
          rw [u3 i w hi hw, e42]
          by_cases z : a ≤ i ∧ i < b
          · rw [if_pos z]
            exact congrArg (fun z => J0 42 (11 * z + w)) (by unfold mvI; rw [if_pos (by omega), if_neg (by omega), if_pos (by omega)])
          · rw [if_neg z]
            exact congrArg (fun z => J0 42 (11 * z + w)) (by unfold mvI; rw [if_pos (by omega)]; split <;> (repeat' split) <;> omega)
        refine g_iload_n (i := 1) (t := 51) dX7_move_50 rfl rfl rfl ?_
        refine g_istore_n (i := 3) (t := 52) (L1 := [_, _, _, _]) dX7_move_51 rfl (by decide) rfl rfl rfl ?_
        refine g_iload_n (i := 3) (t := 53) dX7_move_52 rfl rfl rfl ?_
        refine g_iload_n (i := 2) (t := 54) dX7_move_53 rfl rfl rfl ?_
        refine g_icmp_le_n (t1 := 71) (t2 := 57) dX7_move_54 (by decide) rfl (by omega) (by omega) (fun h54 => ?_) (fun h54 => ?_)
        · refine g_iload_n (i := 1) (t := 72) dX7_move_71 rfl rfl rfl ?_
          refine g_istore_n (i := 3) (t := 73) (L1 := [_, _, _, _]) dX7_move_72 rfl (by decide) rfl rfl rfl ?_
          exact x7_mv_dn (by omega) (by omega) T92' (b - a) a J (by omega) (Nat.le_refl _) ⟨gSame.rf, fun _ _ => rfl, fun i w hi hw => by rw [if_neg (by omega)]⟩
        · exfalso; omega
    refine g_aload_n (i := 0) (r := 41) (t := 1) dX7_move_0 rfl rfl (Or.inl l9_41) rfl ?_
    refine g_iload_n (i := 1) (t := 2) dX7_move_1 rfl rfl rfl ?_
    refine g_cVp (o := 41) (t := 5) mX7_isItem k_X7_153 imX7_isItem seX7_isItem l6_41 l9_41 s_41 rfl dX7_move_2 (x7_isItem_t hC hn ha) rfl rfl (by decide) (by decide) (Nat.le_of_ble_eq_true rfl) rfl ?_
    refine g_if_eq (t1 := 16) (t2 := 8) dX7_move_5 (by decide) rfl (fun h5 => ?_) (fun h5 => ?_)
    · exact absurd h5 (by decide)
    · refine g_aload_n (i := 0) (r := 41) (t := 9) dX7_move_8 rfl rfl (Or.inl l9_41) rfl ?_
      refine g_iload_n (i := 2) (t := 10) dX7_move_9 rfl rfl rfl ?_
      refine g_cVp (o := 41) (t := 13) mX7_isItem k_X7_153 imX7_isItem seX7_isItem l6_41 l9_41 s_41 rfl dX7_move_10 (x7_isItem_t hC hn hb) rfl rfl (by decide) (by decide) (Nat.le_of_ble_eq_true rfl) rfl ?_
      refine g_if_ne (t1 := 20) (t2 := 16) dX7_move_13 (by decide) rfl (fun h13 => ?_) (fun h13 => ?_)
      · refine g_aload_n (i := 0) (r := 41) (t := 21) dX7_move_20 rfl rfl (Or.inl l9_41) rfl ?_
        refine g_cVv (o := 41) (t := 24) mX7_keeps k_X7_143 imX7_keeps seX7_keeps l6_41 l9_41 s_41 rfl dX7_move_21 (x7_keeps hR hV.h16) rfl rfl (by decide) (by decide) (Nat.le_of_ble_eq_true rfl) rfl (fun J q => ?_)
        refine g_iconst (t := 25) dX7_move_24 c_iconst_0 rfl ?_
        refine g_istore_n (i := 3) (t := 26) (L1 := [_, _, _, _]) dX7_move_25 rfl (by decide) rfl rfl rfl ?_
        exact x7_mv_read (by omega) 11 0 J rfl gSame.rf (fun q hq => absurd hq (Nat.not_lt_zero _)) (fun K v3 k1 k2 => T50 J K v3 q.1 q.2.1 q.2.2 k1 k2)
      · exact absurd h13 (by decide)
end X7S

