/-! FlexRowsModel: the changing steps -/
def vT (S : sT) : Prop := vS S.1 ∧ ∀ (u : Nat) (s : sS), S.2.1[u]? = some s → vS s
theorem vT.h16 {S : sT} (h : vT S) : ∀ (u : Nat) (s : sS), S.2.1[u]? = some s → s.1 ≤ 16 := fun u s hu => (h.2 u s hu).1
theorem mC.keep {I I' : Nat → Nat → Int32} {s : sS} (h : mC I s) (e : I' 42 = I 42) : mC I' s := by rw [mC, e]; exact h
theorem tM.keep {I I' : Nat → Nat → Int32} {T : tT} (h : tM I T) (e : I' 41 4 = I 41 4) (e2 : I' 44 = I 44) : tM I' T := by rw [tM, e, e2]; exact h
theorem hM.keep {I I' : Nat → Nat → Int32} {H : List sS} (h : hM I H) (e : I' 41 2 = I 41 2) (e2 : I' 43 = I 43) : hM I' H := by rw [hM, e, e2]; exact h
section X7C
variable {E : gE} {I : Nat → Nat → Int32} {h : Int64} {S : sT}
theorem x7_change {x y z v : Int32} {S' : sT} (hR : rM I S) (hV : vT S) (ho : oChange S x y z v S') : gQI E fX7_change [.ref 41, .int x, .int y, .int z] I h (fun v' I' => gSame ML I I' ∧ v' = v ∧ rM I' S') := by
  refine gEv.of rfl (Nat.le_refl _) (Nat.le_of_ble_eq_true rfl) (L := [.ref 41, .int x, .int y, .int z, .null]) rfl ?_
  have ⟨hn, hC, hH, hT⟩ := hR
  rcases ho with ⟨hb, rfl, rfl⟩ | ⟨it, k, hit, rfl, hk, rfl, hz1, hz2, rfl, o1, o2, o3, o4⟩
  · by_cases hx : bdI S'.1.1 x
    · refine g_aload_n (i := 0) (r := 41) (t := 1) dX7_change_0 rfl rfl (Or.inl l9_41) rfl ?_
      refine g_iload_n (i := 1) (t := 2) dX7_change_1 rfl rfl rfl ?_
      refine g_cVp (o := 41) (t := 5) mX7_isItem k_X7_153 imX7_isItem seX7_isItem l6_41 l9_41 s_41 rfl dX7_change_2 (x7_isItem_f hC hn hx) rfl rfl (by decide) (by decide) (Nat.le_of_ble_eq_true rfl) rfl ?_
      refine g_if_eq (t1 := 33) (t2 := 8) dX7_change_5 (by decide) rfl (fun h5 => ?_) (fun h5 => ?_)
      · refine g_sipush (t := 36) dX7_change_33 c_sipush_m1002 rfl ?_
        exact g_retI dX7_change_36 rfl rfl (⟨gSame.rf, rfl, hR⟩)
      · exact absurd rfl h5
    · obtain ⟨it, hit, rfl⟩ := bd_no (by omega) hx
      by_cases hy : bdI 10 y
      · refine g_aload_n (i := 0) (r := 41) (t := 1) dX7_change_0 rfl rfl (Or.inl l9_41) rfl ?_
        refine g_iload_n (i := 1) (t := 2) dX7_change_1 rfl rfl rfl ?_
        refine g_cVp (o := 41) (t := 5) mX7_isItem k_X7_153 imX7_isItem seX7_isItem l6_41 l9_41 s_41 rfl dX7_change_2 (x7_isItem_t hC hn hit) rfl rfl (by decide) (by decide) (Nat.le_of_ble_eq_true rfl) rfl ?_
        refine g_if_eq (t1 := 33) (t2 := 8) dX7_change_5 (by decide) rfl (fun h5 => ?_) (fun h5 => ?_)
        · exact absurd h5 (by decide)
        · refine g_iload_n (i := 2) (t := 9) dX7_change_8 rfl rfl rfl ?_
          refine g_iconst (t := 10) dX7_change_9 c_iconst_0 rfl ?_
          refine g_bipush (t := 12) dX7_change_10 c_bipush_9 rfl ?_
          refine g_cSp (t := 15) mX7_in k_X7_75 smX7_in dX7_change_12 (x7_in) rfl rfl (by decide) (by decide) (Nat.le_of_ble_eq_true rfl) rfl ?_
          rw [in_f (K := 9) (by decide) hy]
          refine g_if_eq (t1 := 33) (t2 := 18) dX7_change_15 (by decide) rfl (fun h15 => ?_) (fun h15 => ?_)
          · refine g_sipush (t := 36) dX7_change_33 c_sipush_m1002 rfl ?_
            exact g_retI dX7_change_36 rfl rfl (⟨gSame.rf, rfl, hR⟩)
          · exact absurd rfl h15
      · rcases hb with hb | hb | ⟨k, hk, rfl, hz⟩
        · exact absurd hb hx
        · exact absurd hb hy
        · have e : inI z (lwt k) (hwt k) = false := decide_eq_false fun u => hz.elim (fun w => absurd w (Int32.not_lt.mpr u.1)) (fun w => absurd w (Int32.not_lt.mpr u.2))
          refine g_aload_n (i := 0) (r := 41) (t := 1) dX7_change_0 rfl rfl (Or.inl l9_41) rfl ?_
          refine g_iload_n (i := 1) (t := 2) dX7_change_1 rfl rfl rfl ?_
          refine g_cVp (o := 41) (t := 5) mX7_isItem k_X7_153 imX7_isItem seX7_isItem l6_41 l9_41 s_41 rfl dX7_change_2 (x7_isItem_t hC hn hit) rfl rfl (by decide) (by decide) (Nat.le_of_ble_eq_true rfl) rfl ?_
          refine g_if_eq (t1 := 33) (t2 := 8) dX7_change_5 (by decide) rfl (fun h5 => ?_) (fun h5 => ?_)
          · exact absurd h5 (by decide)
          · refine g_iload_n (i := 2) (t := 9) dX7_change_8 rfl rfl rfl ?_
            refine g_iconst (t := 10) dX7_change_9 c_iconst_0 rfl ?_
            refine g_bipush (t := 12) dX7_change_10 c_bipush_9 rfl ?_
            refine g_cSp (t := 15) mX7_in k_X7_75 smX7_in dX7_change_12 (x7_in) rfl rfl (by decide) (by decide) (Nat.le_of_ble_eq_true rfl) rfl ?_
            rw [in_t (K := 9) (by decide) hy]
            refine g_if_eq (t1 := 33) (t2 := 18) dX7_change_15 (by decide) rfl (fun h15 => ?_) (fun h15 => ?_)
            · exact absurd h15 (by decide)
            · refine g_iload_n (i := 3) (t := 19) dX7_change_18 rfl rfl rfl ?_
              refine g_iload_n (i := 2) (t := 20) dX7_change_19 rfl rfl rfl ?_
              refine g_cSp (t := 23) mX7_leastOf k_X7_100 smX7_leastOf dX7_change_20 (x7_leastOf hk) rfl rfl (by decide) (by decide) (Nat.le_of_ble_eq_true rfl) rfl ?_
              refine g_iload_n (i := 2) (t := 24) dX7_change_23 rfl rfl rfl ?_
              refine g_cSp (t := 27) mX7_mostOf k_X7_104 smX7_mostOf dX7_change_24 (x7_mostOf hk) rfl rfl (by decide) (by decide) (Nat.le_of_ble_eq_true rfl) rfl ?_
              refine g_cSp (t := 30) mX7_in k_X7_75 smX7_in dX7_change_27 (x7_in) rfl rfl (by decide) (by decide) (Nat.le_of_ble_eq_true rfl) rfl ?_
              rw [e]
              refine g_if_ne (t1 := 37) (t2 := 33) dX7_change_30 (by decide) rfl (fun h30 => ?_) (fun h30 => ?_)
              · exact absurd rfl h30
              · refine g_sipush (t := 36) dX7_change_33 c_sipush_m1002 rfl ?_
                exact g_retI dX7_change_36 rfl rfl (⟨gSame.rf, rfl, hR⟩)
  · have e : inI z (lwt k) (hwt k) = true := decide_eq_true ⟨Int32.not_lt.mp hz1, Int32.not_lt.mp hz2⟩
    refine g_aload_n (i := 0) (r := 41) (t := 1) dX7_change_0 rfl rfl (Or.inl l9_41) rfl ?_
    refine g_iload_n (i := 1) (t := 2) dX7_change_1 rfl rfl rfl ?_
    refine g_cVp (o := 41) (t := 5) mX7_isItem k_X7_153 imX7_isItem seX7_isItem l6_41 l9_41 s_41 rfl dX7_change_2 (x7_isItem_t hC hn hit) rfl rfl (by decide) (by decide) (Nat.le_of_ble_eq_true rfl) rfl ?_
    refine g_if_eq (t1 := 33) (t2 := 8) dX7_change_5 (by decide) rfl (fun h5 => ?_) (fun h5 => ?_)
    · exact absurd h5 (by decide)
    · refine g_iload_n (i := 2) (t := 9) dX7_change_8 rfl rfl rfl ?_
      refine g_iconst (t := 10) dX7_change_9 c_iconst_0 rfl ?_
      refine g_bipush (t := 12) dX7_change_10 c_bipush_9 rfl ?_
      refine g_cSp (t := 15) mX7_in k_X7_75 smX7_in dX7_change_12 (x7_in) rfl rfl (by decide) (by decide) (Nat.le_of_ble_eq_true rfl) rfl ?_
      rw [in_t (K := 9) (by decide) (bd_nI (by decide) hk)]
      refine g_if_eq (t1 := 33) (t2 := 18) dX7_change_15 (by decide) rfl (fun h15 => ?_) (fun h15 => ?_)
      · exact absurd h15 (by decide)
      · refine g_iload_n (i := 3) (t := 19) dX7_change_18 rfl rfl rfl ?_
        refine g_iload_n (i := 2) (t := 20) dX7_change_19 rfl rfl rfl ?_
        refine g_cSp (t := 23) mX7_leastOf k_X7_100 smX7_leastOf dX7_change_20 (x7_leastOf hk) rfl rfl (by decide) (by decide) (Nat.le_of_ble_eq_true rfl) rfl ?_
        refine g_iload_n (i := 2) (t := 24) dX7_change_23 rfl rfl rfl ?_
        refine g_cSp (t := 27) mX7_mostOf k_X7_104 smX7_mostOf dX7_change_24 (x7_mostOf hk) rfl rfl (by decide) (by decide) (Nat.le_of_ble_eq_true rfl) rfl ?_
        refine g_cSp (t := 30) mX7_in k_X7_75 smX7_in dX7_change_27 (x7_in) rfl rfl (by decide) (by decide) (Nat.le_of_ble_eq_true rfl) rfl ?_
        rw [e]
        refine g_if_ne (t1 := 37) (t2 := 33) dX7_change_30 (by decide) rfl (fun h30 => ?_) (fun h30 => ?_)
        · refine g_aload_n (i := 0) (r := 41) (t := 38) dX7_change_37 rfl rfl (Or.inl l9_41) rfl ?_
          refine g_cVv (o := 41) (t := 41) mX7_keeps k_X7_143 imX7_keeps seX7_keeps l6_41 l9_41 s_41 rfl dX7_change_38 (x7_keeps hR hV.h16) rfl rfl (by decide) (by decide) (Nat.le_of_ble_eq_true rfl) rfl (fun J q => ?_)
          refine g_aload_n (i := 0) (r := 41) (t := 42) dX7_change_41 rfl rfl (Or.inl l9_41) rfl ?_
          refine g_iload_n (i := 1) (t := 43) dX7_change_42 rfl rfl rfl ?_
          refine g_iload_n (i := 2) (t := 44) dX7_change_43 rfl rfl rfl ?_
          refine g_cVp (o := 41) (t := 47) mX7_of k_X7_157 imX7_of seX7_of l6_41 l9_41 s_41 rfl dX7_change_44 (x7_of (by omega) (by omega)) rfl rfl (by decide) (by decide) (Nat.le_of_ble_eq_true rfl) rfl ?_
          refine g_istore (i := 4) (t := 49) (L1 := [_, _, _, _, _]) dX7_change_47 (by decide) rfl rfl rfl ?_
          refine g_aload_n (i := 0) (r := 41) (t := 50) dX7_change_49 rfl rfl (Or.inl l9_41) rfl ?_
          refine gm_getR (o := 41) (ci := 7) (k := 0) (r := 42) (t := 53) l6_41 l9_41 s_41 gf_X7_7 rfl r_41_0 l9_42 dX7_change_50 rfl ?_
          refine g_bipush (t := 55) dX7_change_53 c_bipush_11 rfl ?_
          refine g_iload_n (i := 1) (t := 56) dX7_change_55 rfl rfl rfl ?_
          refine g_imul (t := 57) dX7_change_56 rfl ?_
          refine g_iload_n (i := 2) (t := 58) dX7_change_57 rfl rfl rfl ?_
          refine g_iadd (t := 59) dX7_change_58 rfl ?_
          refine g_top (y := nI (11 * it + k)) (by rw [pk_mul, nI_add]) ?_
          refine g_iload_n (i := 3) (t := 60) dX7_change_59 rfl rfl rfl ?_
          skip
          refine gm_iast_n (a := 42) (n := 184) (t := 61) l6_42 l9_42 s_42 dX7_change_60 (by omega) (by decide) rfl ?_
          refine g_iload (i := 4) (t := 63) dX7_change_61 rfl rfl ?_
          exact g_retI dX7_change_63 rfl rfl (by
    have e42 : J 42 = I 42 := q.1.at 42 rfl
    have hs : gSame [41, 42, 43] I (gup J 42 (11 * it + k) z) := (q.1.wk rfl).up rfl
    refine ⟨hs.wk rfl, ?_, by rw [o1]; exact hn, ⟨?_, fun i w hi hw => ?_, fun w hw => ?_⟩, ?_, ?_⟩
    · rw [e42]; exact hC.2.1 it k hit (by omega)
    · rw [gup_k _ _ _ (by omega), e42, hC.1, o1]
    · rw [o1] at hi
      rw [gup_at, e42, o4 i w (by omega) hw]
      by_cases y : i = it ∧ w = k
      · rw [if_pos y, if_pos (by omega)]
      · rw [if_neg y, if_neg (by omega)]; exact hC.2.1 i w hi hw
    · rw [gup_k _ _ _ (by omega), e42, hC.2.2 w hw, o2]
    · rw [o3]; exact q.2.2.keep (gup_o _ _ _ _ (by decide)) (gup_rowo _ _ _ (by decide))
    · rw [o3]; exact hT.keep (by rw [gup_o _ _ _ _ (by decide)]; exact q.2.1 4 (by decide)) (hs.at 44 rfl))
        · exact absurd h30 (by decide)
theorem x7_hide {x v : Int32} {S' : sT} (hR : rM I S) (hV : vT S) (ho : oHide S x v S') : gQI E fX7_hide [.ref 41, .int x] I h (fun v' I' => gSame ML I I' ∧ v' = v ∧ rM I' S') := by
  refine gEv.of rfl (Nat.le_refl _) (Nat.le_of_ble_eq_true rfl) (L := [.ref 41, .int x]) rfl ?_
  have ⟨hn, hC, hH, hT⟩ := hR
  rcases ho with ⟨hx, rfl, rfl⟩ | ⟨it, hit, rfl, rfl, o1, o2, o3, o4⟩
  · refine g_aload_n (i := 0) (r := 41) (t := 1) dX7_hide_0 rfl rfl (Or.inl l9_41) rfl ?_
    refine g_iload_n (i := 1) (t := 2) dX7_hide_1 rfl rfl rfl ?_
    refine g_cVp (o := 41) (t := 5) mX7_isItem k_X7_153 imX7_isItem seX7_isItem l6_41 l9_41 s_41 rfl dX7_hide_2 (x7_isItem_f hC hn hx) rfl rfl (by decide) (by decide) (Nat.le_of_ble_eq_true rfl) rfl ?_
    refine g_if_ne (t1 := 12) (t2 := 8) dX7_hide_5 (by decide) rfl (fun h5 => ?_) (fun h5 => ?_)
    · exact absurd rfl h5
    · refine g_sipush (t := 11) dX7_hide_8 c_sipush_m1002 rfl ?_
      exact g_retI dX7_hide_11 rfl rfl (⟨gSame.rf, rfl, hR⟩)
  · refine g_aload_n (i := 0) (r := 41) (t := 1) dX7_hide_0 rfl rfl (Or.inl l9_41) rfl ?_
    refine g_iload_n (i := 1) (t := 2) dX7_hide_1 rfl rfl rfl ?_
    refine g_cVp (o := 41) (t := 5) mX7_isItem k_X7_153 imX7_isItem seX7_isItem l6_41 l9_41 s_41 rfl dX7_hide_2 (x7_isItem_t hC hn hit) rfl rfl (by decide) (by decide) (Nat.le_of_ble_eq_true rfl) rfl ?_
    refine g_if_ne (t1 := 12) (t2 := 8) dX7_hide_5 (by decide) rfl (fun h5 => ?_) (fun h5 => ?_)
    · refine g_aload_n (i := 0) (r := 41) (t := 13) dX7_hide_12 rfl rfl (Or.inl l9_41) rfl ?_
      refine g_cVv (o := 41) (t := 16) mX7_keeps k_X7_143 imX7_keeps seX7_keeps l6_41 l9_41 s_41 rfl dX7_hide_13 (x7_keeps hR hV.h16) rfl rfl (by decide) (by decide) (Nat.le_of_ble_eq_true rfl) rfl (fun J q => ?_)
      refine g_aload_n (i := 0) (r := 41) (t := 17) dX7_hide_16 rfl rfl (Or.inl l9_41) rfl ?_
      refine gm_getR (o := 41) (ci := 7) (k := 0) (r := 42) (t := 20) l6_41 l9_41 s_41 gf_X7_7 rfl r_41_0 l9_42 dX7_hide_17 rfl ?_
      refine g_bipush (t := 22) dX7_hide_20 c_bipush_11 rfl ?_
      refine g_iload_n (i := 1) (t := 23) dX7_hide_22 rfl rfl rfl ?_
      refine g_imul (t := 24) dX7_hide_23 rfl ?_
      refine g_bipush (t := 26) dX7_hide_24 c_bipush_10 rfl ?_
      refine g_iadd (t := 27) dX7_hide_26 rfl ?_
      refine g_top (y := nI (11 * it + 10)) (by rw [pk_mul, nI_add]) ?_
      refine g_iconst (t := 28) dX7_hide_27 c_iconst_1 rfl ?_
      refine g_aload_n (i := 0) (r := 41) (t := 29) dX7_hide_28 rfl rfl (Or.inl l9_41) rfl ?_
      refine g_iload_n (i := 1) (t := 30) dX7_hide_29 rfl rfl rfl ?_
      refine g_bipush (t := 32) dX7_hide_30 c_bipush_10 rfl ?_
      refine g_cVp (o := 41) (t := 35) mX7_of k_X7_157 imX7_of seX7_of l6_41 l9_41 s_41 rfl dX7_hide_32 (x7_of (by omega) (by omega)) rfl rfl (by decide) (by decide) (Nat.le_of_ble_eq_true rfl) rfl ?_
      rw [show J 42 (11 * it + 10) = S.1.2.1 it 10 by rw [q.1.at 42 rfl]; exact hC.2.1 it 10 hit (by decide)]
      refine g_isub (t := 36) dX7_hide_35 rfl ?_
      refine gm_iast_n (a := 42) (n := 184) (t := 37) l6_42 l9_42 s_42 dX7_hide_36 (by omega) (by decide) rfl ?_
      refine g_aload_n (i := 0) (r := 41) (t := 38) dX7_hide_37 rfl rfl (Or.inl l9_41) rfl ?_
      refine g_iload_n (i := 1) (t := 39) dX7_hide_38 rfl rfl rfl ?_
      refine g_bipush (t := 41) dX7_hide_39 c_bipush_10 rfl ?_
      refine g_cVp (o := 41) (t := 44) mX7_of k_X7_157 imX7_of seX7_of l6_41 l9_41 s_41 rfl dX7_hide_41 (x7_of (by omega) (by omega)) rfl rfl (by decide) (by decide) (Nat.le_of_ble_eq_true rfl) rfl ?_
      rw [gup_self]
      exact g_retI dX7_hide_44 rfl rfl (by
    have e42 : J 42 = I 42 := q.1.at 42 rfl
    have hs : gSame [41, 42, 43] I (gup J 42 (11 * it + 10) (nI 1 - S.1.2.1 it 10)) := (q.1.wk rfl).up rfl
    refine ⟨hs.wk rfl, rfl, by rw [o1]; exact hn, ⟨?_, fun i w hi hw => ?_, fun w hw => ?_⟩, ?_, ?_⟩
    · rw [gup_k _ _ _ (by omega), e42, hC.1, o1]
    · rw [o1] at hi
      rw [gup_at, e42, o4 i w (by omega) hw]
      by_cases y : i = it ∧ w = 10
      · rw [if_pos y, if_pos (by omega)]
      · rw [if_neg y, if_neg (by omega)]; exact hC.2.1 i w hi hw
    · rw [gup_k _ _ _ (by omega), e42, hC.2.2 w hw, o2]
    · rw [o3]; exact q.2.2.keep (gup_o _ _ _ _ (by decide)) (gup_rowo _ _ _ (by decide))
    · rw [o3]; exact hT.keep (by rw [gup_o _ _ _ _ (by decide)]; exact q.2.1 4 (by decide)) (hs.at 44 rfl))
    · exact absurd h5 (by decide)
theorem x7_set {y z v : Int32} {S' : sT} (hR : rM I S) (hV : vT S) (ho : oSet S y z v S') : gQI E fX7_set [.ref 41, .int y, .int z] I h (fun v' I' => gSame ML I I' ∧ v' = v ∧ rM I' S') := by
  refine gEv.of rfl (Nat.le_refl _) (Nat.le_of_ble_eq_true rfl) (L := [.ref 41, .int y, .int z, .null, .null]) rfl ?_
  have ⟨hn, hC, hH, hT⟩ := hR
  by_cases hy : bdI 7 y
  · have ho' : v = -1002 ∧ S' = S := by
      rcases ho with ⟨-, o⟩ | ⟨k, hk, rfl, -⟩
      · exact o
      · exact absurd hy (bd_nI (by decide) hk)
    obtain ⟨rfl, rfl⟩ := ho'
    have T : ∀ w3 : Int32, Wp E fX7_set 62 45 [.ref 41, .int y, .int z, .int w3, .null] [] (gM I h) (gRet fX7_set 62 (fun r σ' => ∃ (v : Int32) (I' : Nat → Nat → Int32), r = some (.int v) ∧ σ' = gM I' h ∧ gSame ML I I' ∧ v = -1002 ∧ rM I' S')) := by
      intro w3
      refine g_iload_n (i := 1) (t := 46) dX7_set_45 rfl rfl rfl ?_
      refine g_iconst (t := 47) dX7_set_46 c_iconst_0 rfl ?_
      refine g_bipush (t := 49) dX7_set_47 c_bipush_6 rfl ?_
      refine g_cSp (t := 52) mX7_in k_X7_75 smX7_in dX7_set_49 (x7_in) rfl rfl (by decide) (by decide) (Nat.le_of_ble_eq_true rfl) rfl ?_
      rw [in_f (K := 6) (by decide) hy]
      refine g_if_eq (t1 := 73) (t2 := 55) dX7_set_52 (by decide) rfl (fun h52 => ?_) (fun h52 => ?_)
      · refine g_sipush (t := 76) dX7_set_73 c_sipush_m1002 rfl ?_
        exact g_retI dX7_set_76 rfl rfl (⟨gSame.rf, rfl, hR⟩)
      · exact absurd rfl h52
    refine g_iload_n (i := 1) (t := 1) dX7_set_0 rfl rfl rfl ?_
    refine g_if_ne (t1 := 10) (t2 := 4) dX7_set_1 (by decide) rfl (fun h1 => ?_) (fun h1 => ?_)
    · refine g_iload_n (i := 1) (t := 11) dX7_set_10 rfl rfl rfl ?_
      refine g_iconst (t := 12) dX7_set_11 c_iconst_1 rfl ?_
      refine g_icmp_eq (t1 := 20) (t2 := 15) dX7_set_12 (by decide) rfl (fun h12 => ?_) (fun h12 => ?_)
      · refine g_bipush (t := 22) dX7_set_20 c_bipush_40 rfl ?_
        refine g_goto (t := 44) dX7_set_22 (by decide) ?_
        refine g_istore_n (i := 3) (t := 45) (L1 := [_, _, _, _, _]) dX7_set_44 rfl (by decide) rfl rfl rfl ?_
        exact T _
      · refine g_iload_n (i := 1) (t := 16) dX7_set_15 rfl rfl rfl ?_
        refine g_iconst (t := 17) dX7_set_16 c_iconst_2 rfl ?_
        refine g_icmp_ne (t1 := 25) (t2 := 20) dX7_set_17 (by decide) rfl (fun h17 => ?_) (fun h17 => ?_)
        · refine g_iload_n (i := 1) (t := 26) dX7_set_25 rfl rfl rfl ?_
          refine g_iconst (t := 27) dX7_set_26 c_iconst_4 rfl ?_
          refine g_icmp_ne (t1 := 34) (t2 := 30) dX7_set_27 (by decide) rfl (fun h27 => ?_) (fun h27 => ?_)
          · refine g_iload_n (i := 1) (t := 35) dX7_set_34 rfl rfl rfl ?_
            refine g_iconst (t := 36) dX7_set_35 c_iconst_5 rfl ?_
            refine g_icmp_ne (t1 := 43) (t2 := 39) dX7_set_36 (by decide) rfl (fun h36 => ?_) (fun h36 => ?_)
            · refine g_iconst (t := 44) dX7_set_43 c_iconst_1 rfl ?_
              refine g_istore_n (i := 3) (t := 45) (L1 := [_, _, _, _, _]) dX7_set_44 rfl (by decide) rfl rfl rfl ?_
              exact T _
            · refine g_iconst (t := 40) dX7_set_39 c_iconst_3 rfl ?_
              refine g_goto (t := 44) dX7_set_40 (by decide) ?_
              refine g_istore_n (i := 3) (t := 45) (L1 := [_, _, _, _, _]) dX7_set_44 rfl (by decide) rfl rfl rfl ?_
              exact T _
          · refine g_iconst (t := 31) dX7_set_30 c_iconst_5 rfl ?_
            refine g_goto (t := 44) dX7_set_31 (by decide) ?_
            refine g_istore_n (i := 3) (t := 45) (L1 := [_, _, _, _, _]) dX7_set_44 rfl (by decide) rfl rfl rfl ?_
            exact T _
        · refine g_bipush (t := 22) dX7_set_20 c_bipush_40 rfl ?_
          refine g_goto (t := 44) dX7_set_22 (by decide) ?_
          refine g_istore_n (i := 3) (t := 45) (L1 := [_, _, _, _, _]) dX7_set_44 rfl (by decide) rfl rfl rfl ?_
          exact T _
    · refine g_sipush (t := 7) dX7_set_4 c_sipush_999 rfl ?_
      refine g_goto (t := 44) dX7_set_7 (by decide) ?_
      refine g_istore_n (i := 3) (t := 45) (L1 := [_, _, _, _, _]) dX7_set_44 rfl (by decide) rfl rfl rfl ?_
      exact T _
  · obtain ⟨k, hk, rfl⟩ := bd_no (by decide) hy
    have T : Wp E fX7_set 62 45 [.ref 41, .int (nI k), .int z, .int (hbt k), .null] [] (gM I h) (gRet fX7_set 62 (fun r σ' => ∃ (v' : Int32) (I' : Nat → Nat → Int32), r = some (.int v') ∧ σ' = gM I' h ∧ gSame ML I I' ∧ v' = v ∧ rM I' S')) := by
      have T66 : Wp E fX7_set 62 66 [.ref 41, .int (nI k), .int z, .int (hbt k), .null] [.int (lbt k), .int z] (gM I h) (gRet fX7_set 62 (fun r σ' => ∃ (v' : Int32) (I' : Nat → Nat → Int32), r = some (.int v') ∧ σ' = gM I' h ∧ gSame ML I I' ∧ v' = v ∧ rM I' S')) := by
        refine g_iload_n (i := 3) (t := 67) dX7_set_66 rfl rfl rfl ?_
        refine g_cSp (t := 70) mX7_in k_X7_75 smX7_in dX7_set_67 (x7_in) rfl rfl (by decide) (by decide) (Nat.le_of_ble_eq_true rfl) rfl ?_
        refine g_if_ne (t1 := 77) (t2 := 73) dX7_set_70 (by decide) rfl (fun h70 => ?_) (fun h70 => ?_)
        · refine g_aload_n (i := 0) (r := 41) (t := 78) dX7_set_77 rfl rfl (Or.inl l9_41) rfl ?_
          refine g_cVv (o := 41) (t := 81) mX7_keeps k_X7_143 imX7_keeps seX7_keeps l6_41 l9_41 s_41 rfl dX7_set_78 (x7_keeps hR hV.h16) rfl rfl (by decide) (by decide) (Nat.le_of_ble_eq_true rfl) rfl (fun J q => ?_)
          refine g_aload_n (i := 0) (r := 41) (t := 82) dX7_set_81 rfl rfl (Or.inl l9_41) rfl ?_
          refine gm_getR (o := 41) (ci := 7) (k := 0) (r := 42) (t := 85) l6_41 l9_41 s_41 gf_X7_7 rfl r_41_0 l9_42 dX7_set_82 rfl ?_
          refine g_sipush (t := 88) dX7_set_85 c_sipush_177 rfl ?_
          refine g_iload_n (i := 1) (t := 89) dX7_set_88 rfl rfl rfl ?_
          refine g_iadd (t := 90) dX7_set_89 rfl ?_
          rw [nI_add]
          refine gm_iald_n (a := 42) (n := 184) (t := 91) l6_42 l9_42 s_42 dX7_set_90 (by omega) (by decide) rfl ?_
          refine g_istore (i := 4) (t := 93) (L1 := [_, _, _, _, _]) dX7_set_91 (by decide) rfl rfl rfl ?_
          refine g_aload_n (i := 0) (r := 41) (t := 94) dX7_set_93 rfl rfl (Or.inl l9_41) rfl ?_
          refine gm_getR (o := 41) (ci := 7) (k := 0) (r := 42) (t := 97) l6_41 l9_41 s_41 gf_X7_7 rfl r_41_0 l9_42 dX7_set_94 rfl ?_
          refine g_sipush (t := 100) dX7_set_97 c_sipush_177 rfl ?_
          refine g_iload_n (i := 1) (t := 101) dX7_set_100 rfl rfl rfl ?_
          refine g_iadd (t := 102) dX7_set_101 rfl ?_
          rw [nI_add]
          refine g_iload_n (i := 2) (t := 103) dX7_set_102 rfl rfl rfl ?_
          refine gm_iast_n (a := 42) (n := 184) (t := 104) l6_42 l9_42 s_42 dX7_set_103 (by omega) (by decide) rfl ?_
          refine g_iload (i := 4) (t := 106) dX7_set_104 rfl rfl ?_
          exact g_retI dX7_set_106 rfl rfl (by
    have hz := of_decide_eq_true (bI_n0 h70)
    rcases ho with ⟨hb, -⟩ | ⟨j, hj, ej, o1, o2, rfl, o3, o4, o5, o6⟩
    · exfalso
      rcases hb with hb | ⟨j, hj, ej, hb⟩
      · exact bd_nI (by decide) hk hb
      · have := (nI_eq (by omega) (by omega)).mp ej
        subst this
        exact hb.elim (fun w => absurd w (Int32.not_lt.mpr hz.1)) (fun w => absurd w (Int32.not_lt.mpr hz.2))
    · have := (nI_eq (by omega) (by omega)).mp ej
      subst this
      have e42 : J 42 = I 42 := q.1.at 42 rfl
      have hs : gSame [41, 42, 43] I (gup J 42 (177 + k) z) := (q.1.wk rfl).up rfl
      refine ⟨hs.wk rfl, ?_, by rw [o3]; exact hn, ⟨?_, fun i w hi hw => ?_, fun w hw => ?_⟩, ?_, ?_⟩
      · rw [e42]; exact hC.2.2 k hk
      · rw [gup_k _ _ _ (by omega), e42, hC.1, o3]
      · rw [o3] at hi
        rw [gup_k _ _ _ (by omega), e42, o4]; exact hC.2.1 i w hi hw
      · rw [gup_at, e42, o6 w hw]
        by_cases y : w = k
        · rw [if_pos y, if_pos (by omega)]
        · rw [if_neg y, if_neg (by omega)]; exact hC.2.2 w hw
      · rw [o5]; exact q.2.2.keep (gup_o _ _ _ _ (by decide)) (gup_rowo _ _ _ (by decide))
      · rw [o5]; exact hT.keep (by rw [gup_o _ _ _ _ (by decide)]; exact q.2.1 4 (by decide)) (hs.at 44 rfl))
        · refine g_sipush (t := 76) dX7_set_73 c_sipush_m1002 rfl ?_
          exact g_retI dX7_set_76 rfl rfl (by
    rcases ho with ⟨-, rfl, rfl⟩ | ⟨j, hj, ej, o1, o2, -⟩
    · exact ⟨gSame.rf, rfl, hR⟩
    · have := (nI_eq (by omega) (by omega)).mp ej
      subst this
      exact absurd (bI_0 h70) (by rw [inI, decide_eq_true ⟨Int32.not_lt.mp o1, Int32.not_lt.mp o2⟩]; decide))
      have lb : ∀ k, k < 7 → k ≠ 0 → lbt k = nI 0 := by decide +kernel
      refine g_iload_n (i := 1) (t := 46) dX7_set_45 rfl rfl rfl ?_
      refine g_iconst (t := 47) dX7_set_46 c_iconst_0 rfl ?_
      refine g_bipush (t := 49) dX7_set_47 c_bipush_6 rfl ?_
      refine g_cSp (t := 52) mX7_in k_X7_75 smX7_in dX7_set_49 (x7_in) rfl rfl (by decide) (by decide) (Nat.le_of_ble_eq_true rfl) rfl ?_
      rw [in_t (K := 6) (by decide) hy]
      refine g_if_eq (t1 := 73) (t2 := 55) dX7_set_52 (by decide) rfl (fun h52 => ?_) (fun h52 => ?_)
      · exact absurd h52 (by decide)
      · refine g_iload_n (i := 2) (t := 56) dX7_set_55 rfl rfl rfl ?_
        refine g_iload_n (i := 1) (t := 57) dX7_set_56 rfl rfl rfl ?_
        refine g_if_ne (t1 := 65) (t2 := 60) dX7_set_57 (by decide) rfl (fun h57 => ?_) (fun h57 => ?_)
        · refine g_iconst (t := 66) dX7_set_65 c_iconst_0 rfl ?_
          first
          | (have e : k = 0 := Classical.byContradiction fun u => nI_ne0 (by omega) (by omega) h57
             subst e
             exact T66)
          | (have e : k ≠ 0 := fun u => h57 (by rw [u]; rfl)
             rw [lb k hk e] at T66
             exact T66)
        · refine g_bipush (t := 62) dX7_set_60 c_bipush_20 rfl ?_
          refine g_goto (t := 66) dX7_set_62 (by decide) ?_
          first
          | (have e : k = 0 := Classical.byContradiction fun u => nI_ne0 (by omega) (by omega) h57
             subst e
             exact T66)
          | (have e : k ≠ 0 := fun u => h57 (by rw [u]; rfl)
             rw [lb k hk e] at T66
             exact T66)
    have hb3 : hbt 3 = nI 1 := by decide +kernel
    have hb6 : hbt 6 = nI 1 := by decide +kernel
    have hb : k ≠ 0 → k ≠ 1 → k ≠ 2 → k ≠ 4 → k ≠ 5 → hbt k = nI 1 := fun a b c d e => by
      rcases (show k = 3 ∨ k = 6 by omega) with u | u
      · rw [u]; exact hb3
      · rw [u]; exact hb6
    refine g_iload_n (i := 1) (t := 1) dX7_set_0 rfl rfl rfl ?_
    refine g_if_ne (t1 := 10) (t2 := 4) dX7_set_1 (by decide) rfl (fun h1 => ?_) (fun h1 => ?_)
    · refine g_iload_n (i := 1) (t := 11) dX7_set_10 rfl rfl rfl ?_
      refine g_iconst (t := 12) dX7_set_11 c_iconst_1 rfl ?_
      refine g_icmp_eq_n (t1 := 20) (t2 := 15) dX7_set_12 (by decide) rfl (by omega) (by omega) (fun h12 => ?_) (fun h12 => ?_)
      · refine g_bipush (t := 22) dX7_set_20 c_bipush_40 rfl ?_
        refine g_goto (t := 44) dX7_set_22 (by decide) ?_
        refine g_istore_n (i := 3) (t := 45) (L1 := [_, _, _, _, _]) dX7_set_44 rfl (by decide) rfl rfl rfl ?_
        first
        | (have e : k = 0 := Classical.byContradiction fun u => nI_ne0 (by omega) (by omega) h1
           subst e
           exact T)
        | (subst h12; exact T)
        | (subst h17; exact T)
        | (subst h27; exact T)
        | (subst h36; exact T)
        | (have e : k ≠ 0 := fun u => h1 (by rw [u]; rfl)
           rw [hb e h12 h17 h27 h36] at T
           exact T)
      · refine g_iload_n (i := 1) (t := 16) dX7_set_15 rfl rfl rfl ?_
        refine g_iconst (t := 17) dX7_set_16 c_iconst_2 rfl ?_
        refine g_icmp_ne_n (t1 := 25) (t2 := 20) dX7_set_17 (by decide) rfl (by omega) (by omega) (fun h17 => ?_) (fun h17 => ?_)
        · refine g_iload_n (i := 1) (t := 26) dX7_set_25 rfl rfl rfl ?_
          refine g_iconst (t := 27) dX7_set_26 c_iconst_4 rfl ?_
          refine g_icmp_ne_n (t1 := 34) (t2 := 30) dX7_set_27 (by decide) rfl (by omega) (by omega) (fun h27 => ?_) (fun h27 => ?_)
          · refine g_iload_n (i := 1) (t := 35) dX7_set_34 rfl rfl rfl ?_
            refine g_iconst (t := 36) dX7_set_35 c_iconst_5 rfl ?_
            refine g_icmp_ne_n (t1 := 43) (t2 := 39) dX7_set_36 (by decide) rfl (by omega) (by omega) (fun h36 => ?_) (fun h36 => ?_)
            · refine g_iconst (t := 44) dX7_set_43 c_iconst_1 rfl ?_
              refine g_istore_n (i := 3) (t := 45) (L1 := [_, _, _, _, _]) dX7_set_44 rfl (by decide) rfl rfl rfl ?_
              first
              | (have e : k = 0 := Classical.byContradiction fun u => nI_ne0 (by omega) (by omega) h1
                 subst e
                 exact T)
              | (subst h12; exact T)
              | (subst h17; exact T)
              | (subst h27; exact T)
              | (subst h36; exact T)
              | (have e : k ≠ 0 := fun u => h1 (by rw [u]; rfl)
                 rw [hb e h12 h17 h27 h36] at T
                 exact T)
            · refine g_iconst (t := 40) dX7_set_39 c_iconst_3 rfl ?_
              refine g_goto (t := 44) dX7_set_40 (by decide) ?_
              refine g_istore_n (i := 3) (t := 45) (L1 := [_, _, _, _, _]) dX7_set_44 rfl (by decide) rfl rfl rfl ?_
              first
              | (have e : k = 0 := Classical.byContradiction fun u => nI_ne0 (by omega) (by omega) h1
                 subst e
                 exact T)
              | (subst h12; exact T)
              | (subst h17; exact T)
              | (subst h27; exact T)
              | (subst h36; exact T)
              | (have e : k ≠ 0 := fun u => h1 (by rw [u]; rfl)
                 rw [hb e h12 h17 h27 h36] at T
                 exact T)
          · refine g_iconst (t := 31) dX7_set_30 c_iconst_5 rfl ?_
            refine g_goto (t := 44) dX7_set_31 (by decide) ?_
            refine g_istore_n (i := 3) (t := 45) (L1 := [_, _, _, _, _]) dX7_set_44 rfl (by decide) rfl rfl rfl ?_
            first
            | (have e : k = 0 := Classical.byContradiction fun u => nI_ne0 (by omega) (by omega) h1
               subst e
               exact T)
            | (subst h12; exact T)
            | (subst h17; exact T)
            | (subst h27; exact T)
            | (subst h36; exact T)
            | (have e : k ≠ 0 := fun u => h1 (by rw [u]; rfl)
               rw [hb e h12 h17 h27 h36] at T
               exact T)
        · refine g_bipush (t := 22) dX7_set_20 c_bipush_40 rfl ?_
          refine g_goto (t := 44) dX7_set_22 (by decide) ?_
          refine g_istore_n (i := 3) (t := 45) (L1 := [_, _, _, _, _]) dX7_set_44 rfl (by decide) rfl rfl rfl ?_
          first
          | (have e : k = 0 := Classical.byContradiction fun u => nI_ne0 (by omega) (by omega) h1
             subst e
             exact T)
          | (subst h12; exact T)
          | (subst h17; exact T)
          | (subst h27; exact T)
          | (subst h36; exact T)
          | (have e : k ≠ 0 := fun u => h1 (by rw [u]; rfl)
             rw [hb e h12 h17 h27 h36] at T
             exact T)
    · refine g_sipush (t := 7) dX7_set_4 c_sipush_999 rfl ?_
      refine g_goto (t := 44) dX7_set_7 (by decide) ?_
      refine g_istore_n (i := 3) (t := 45) (L1 := [_, _, _, _, _]) dX7_set_44 rfl (by decide) rfl rfl rfl ?_
      first
      | (have e : k = 0 := Classical.byContradiction fun u => nI_ne0 (by omega) (by omega) h1
         subst e
         exact T)
      | (subst h12; exact T)
      | (subst h17; exact T)
      | (subst h27; exact T)
      | (subst h36; exact T)
      | (have e : k ≠ 0 := fun u => h1 (by rw [u]; rfl)
         rw [hb e h12 h17 h27 h36] at T
         exact T)
theorem x7_item {x y v : Int32} (hR : rM I S) (ho : vItem S x y v) : gPI E fX7_item [.ref 41, .int x, .int y] I h v := by
  refine gEv.of rfl (Nat.le_refl _) (Nat.le_of_ble_eq_true rfl) (L := [.ref 41, .int x, .int y]) rfl ?_
  have ⟨hn, hC, hH, hT⟩ := hR
  rcases ho with ⟨hb, rfl⟩ | ⟨it, k, hit, rfl, hk, rfl, rfl⟩
  · by_cases hx : bdI S.1.1 x
    · refine g_aload_n (i := 0) (r := 41) (t := 1) dX7_item_0 rfl rfl (Or.inl l9_41) rfl ?_
      refine g_iload_n (i := 1) (t := 2) dX7_item_1 rfl rfl rfl ?_
      refine g_cVp (o := 41) (t := 5) mX7_isItem k_X7_153 imX7_isItem seX7_isItem l6_41 l9_41 s_41 rfl dX7_item_2 (x7_isItem_f hC hn hx) rfl rfl (by decide) (by decide) (Nat.le_of_ble_eq_true rfl) rfl ?_
      refine g_if_eq (t1 := 18) (t2 := 8) dX7_item_5 (by decide) rfl (fun h5 => ?_) (fun h5 => ?_)
      · refine g_sipush (t := 21) dX7_item_18 c_sipush_m1002 rfl ?_
        exact g_retP dX7_item_21 rfl rfl (rfl)
      · exact absurd rfl h5
    · obtain ⟨it, hit, rfl⟩ := bd_no (by omega) hx
      have hy : bdI 12 y := hb.elim (fun u => absurd u hx) id
      refine g_aload_n (i := 0) (r := 41) (t := 1) dX7_item_0 rfl rfl (Or.inl l9_41) rfl ?_
      refine g_iload_n (i := 1) (t := 2) dX7_item_1 rfl rfl rfl ?_
      refine g_cVp (o := 41) (t := 5) mX7_isItem k_X7_153 imX7_isItem seX7_isItem l6_41 l9_41 s_41 rfl dX7_item_2 (x7_isItem_t hC hn hit) rfl rfl (by decide) (by decide) (Nat.le_of_ble_eq_true rfl) rfl ?_
      refine g_if_eq (t1 := 18) (t2 := 8) dX7_item_5 (by decide) rfl (fun h5 => ?_) (fun h5 => ?_)
      · exact absurd h5 (by decide)
      · refine g_iload_n (i := 2) (t := 9) dX7_item_8 rfl rfl rfl ?_
        refine g_iconst (t := 10) dX7_item_9 c_iconst_0 rfl ?_
        refine g_bipush (t := 12) dX7_item_10 c_bipush_11 rfl ?_
        refine g_cSp (t := 15) mX7_in k_X7_75 smX7_in dX7_item_12 (x7_in) rfl rfl (by decide) (by decide) (Nat.le_of_ble_eq_true rfl) rfl ?_
        rw [in_f (K := 11) (by decide) hy]
        refine g_if_ne (t1 := 22) (t2 := 18) dX7_item_15 (by decide) rfl (fun h15 => ?_) (fun h15 => ?_)
        · exact absurd rfl h15
        · refine g_sipush (t := 21) dX7_item_18 c_sipush_m1002 rfl ?_
          exact g_retP dX7_item_21 rfl rfl (rfl)
  · refine g_aload_n (i := 0) (r := 41) (t := 1) dX7_item_0 rfl rfl (Or.inl l9_41) rfl ?_
    refine g_iload_n (i := 1) (t := 2) dX7_item_1 rfl rfl rfl ?_
    refine g_cVp (o := 41) (t := 5) mX7_isItem k_X7_153 imX7_isItem seX7_isItem l6_41 l9_41 s_41 rfl dX7_item_2 (x7_isItem_t hC hn hit) rfl rfl (by decide) (by decide) (Nat.le_of_ble_eq_true rfl) rfl ?_
    refine g_if_eq (t1 := 18) (t2 := 8) dX7_item_5 (by decide) rfl (fun h5 => ?_) (fun h5 => ?_)
    · exact absurd h5 (by decide)
    · refine g_iload_n (i := 2) (t := 9) dX7_item_8 rfl rfl rfl ?_
      refine g_iconst (t := 10) dX7_item_9 c_iconst_0 rfl ?_
      refine g_bipush (t := 12) dX7_item_10 c_bipush_11 rfl ?_
      refine g_cSp (t := 15) mX7_in k_X7_75 smX7_in dX7_item_12 (x7_in) rfl rfl (by decide) (by decide) (Nat.le_of_ble_eq_true rfl) rfl ?_
      rw [in_t (K := 11) (by decide) (bd_nI (by decide) hk)]
      refine g_if_ne (t1 := 22) (t2 := 18) dX7_item_15 (by decide) rfl (fun h15 => ?_) (fun h15 => ?_)
      · refine g_iload_n (i := 2) (t := 23) dX7_item_22 rfl rfl rfl ?_
        refine g_bipush (t := 25) dX7_item_23 c_bipush_11 rfl ?_
        refine g_icmp_ne_n (t1 := 36) (t2 := 28) dX7_item_25 (by decide) rfl (by omega) (by omega) (fun h25 => ?_) (fun h25 => ?_)
        · refine g_aload_n (i := 0) (r := 41) (t := 37) dX7_item_36 rfl rfl (Or.inl l9_41) rfl ?_
          refine g_iload_n (i := 1) (t := 38) dX7_item_37 rfl rfl rfl ?_
          refine g_iload_n (i := 2) (t := 39) dX7_item_38 rfl rfl rfl ?_
          refine g_cVp (o := 41) (t := 42) mX7_of k_X7_157 imX7_of seX7_of l6_41 l9_41 s_41 rfl dX7_item_39 (x7_of (by omega) (by omega)) rfl rfl (by decide) (by decide) (Nat.le_of_ble_eq_true rfl) rfl ?_
          exact g_retP dX7_item_42 rfl rfl (by
    first
    | rw [if_pos h25]
    | (rw [if_neg h25]; exact hC.2.1 it k hit (by omega)))
        · refine g_aload_n (i := 0) (r := 41) (t := 29) dX7_item_28 rfl rfl (Or.inl l9_41) rfl ?_
          refine g_iload_n (i := 1) (t := 30) dX7_item_29 rfl rfl rfl ?_
          refine g_cVp (o := 41) (t := 33) mX7_wish k_X7_179 imX7_wish seX7_wish l6_41 l9_41 s_41 rfl dX7_item_30 (x7_wish hC hn (by omega)) rfl rfl (by decide) (by decide) (Nat.le_of_ble_eq_true rfl) rfl ?_
          refine g_goto (t := 42) dX7_item_33 (by decide) ?_
          exact g_retP dX7_item_42 rfl rfl (by
    first
    | rw [if_pos h25]
    | (rw [if_neg h25]; exact hC.2.1 it k hit (by omega)))
      · exact absurd h15 (by decide)
end X7C

