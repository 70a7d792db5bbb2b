/-! FlexRowsModel: the least width, the digest -/
section GCH
variable {E : gE} {F : gF} {pc : Nat} {L st : List Value} {I : Nat → Nat → Int32} {h : Int64} {K : gK}
theorem g_cVh {Fc : gF} {n index t o ci : Nat} {T : u_T} {N : Nat} {as S : List Value} {h1 : Int64} (hm : gMi Fc n) (hw1 : Cond.methodLink F.1.cls index Fc.1 ∈ gB) (hw2 : Cond.instanceMethod Fc.1 ∈ gB) (hw3 : Cond.selects Fc.1.cls Fc.1 Fc.1 ∈ gB) (ho : o < 62) (h9 : o < 1000) (hsh : gsh o = .inl ci) (hcl : vwCl[ci]? = some (Fc.1.cls, T, N)) (d : decode F.2.1 pc = .ok (.invokevirtual index, 3)) (he : gEv E Fc 62 (.ref o :: as) (gM I h) (fun r σ' => r = none ∧ σ' = gM I h1)) (hn : as.length = n) (hS : S = as.reverse ++ .ref o :: st) (hfr : Fc.2.2.2.2.1 + 1 ≤ F.2.2.2.2.1) (hlo : 8 + (Fc.2.2.1 + 11) + Fc.2.2.2.2.2 ≤ F.2.2.2.2.2) (hst : (st.map fun v => v.category).sum ≤ 8) (e : pc + 3 = t) (kk : Wp E F 62 t L st (gM I h1) K) : Wp E F 62 pc L S (gM I h) K :=
  g_callV hm hw1 hw2 hw3 ho h9 hsh hcl he hn hS (Nat.le_refl _) hfr hlo hst d e fun r σ' q _ => by obtain ⟨rfl, rfl⟩ := q; exact kk
end GCH
section X7U
variable {E : gE} {I : Nat → Nat → Int32} {h : Int64} {S : sT} {s : sS}
theorem x7_leastWidth {x y v : Int32} (hR : rM I S) (hV : vT S) (ho : vLeast S x y v) : gQI E fX7_leastWidth [.ref 41, .int x, .int y] I h (fun v' I' => gSame ML I I' ∧ v' = v ∧ rM I' S) := by
  refine gEv.of rfl (Nat.le_refl _) (Nat.le_of_ble_eq_true rfl) (L := [.ref 41, .int x, .int y, .null]) rfl ?_
  rcases ho with ⟨k, k1, k16, rfl, rfl, rfl⟩ | ⟨rfl, rfl, rfl⟩ | ⟨n1, n2, rfl⟩
  · have e : inI (nI k) (nI 1) (nI 16) = true := decide_eq_true ⟨nI_le k1 (by omega), nI_le k16 (by decide)⟩
    have e0 : inI (nI 0) (nI 0) (nI 1) = true := by decide +kernel
    refine g_iload_n (i := 1) (t := 1) dX7_leastWidth_0 rfl rfl rfl ?_
    refine g_iconst (t := 2) dX7_leastWidth_1 c_iconst_0 rfl ?_
    refine g_iconst (t := 3) dX7_leastWidth_2 c_iconst_1 rfl ?_
    refine g_cSp (t := 6) mX7_in k_X7_75 smX7_in dX7_leastWidth_3 (x7_in) rfl rfl (by decide) (by decide) (Nat.le_of_ble_eq_true rfl) rfl ?_
    rw [e0]
    refine g_if_eq (t1 := 35) (t2 := 9) dX7_leastWidth_6 (by decide) rfl (fun h6 => ?_) (fun h6 => ?_)
    · exact absurd h6 (by decide)
    · refine g_iload_n (i := 2) (t := 10) dX7_leastWidth_9 rfl rfl rfl ?_
      refine g_iload_n (i := 1) (t := 11) dX7_leastWidth_10 rfl rfl rfl ?_
      refine g_if_ne (t1 := 18) (t2 := 14) dX7_leastWidth_11 (by decide) rfl (fun h11 => ?_) (fun h11 => ?_)
      · exact absurd rfl h11
      · refine g_iconst (t := 15) dX7_leastWidth_14 c_iconst_1 rfl ?_
        refine g_goto (t := 19) dX7_leastWidth_15 (by decide) ?_
        refine g_iload_n (i := 1) (t := 20) dX7_leastWidth_19 rfl rfl rfl ?_
        refine g_if_ne (t1 := 28) (t2 := 23) dX7_leastWidth_20 (by decide) rfl (fun h20 => ?_) (fun h20 => ?_)
        · exact absurd rfl h20
        · refine g_bipush (t := 25) dX7_leastWidth_23 c_bipush_16 rfl ?_
          refine g_goto (t := 29) dX7_leastWidth_25 (by decide) ?_
          refine g_cSp (t := 32) mX7_in k_X7_75 smX7_in dX7_leastWidth_29 (x7_in) rfl rfl (by decide) (by decide) (Nat.le_of_ble_eq_true rfl) rfl ?_
          rw [e]
          refine g_if_ne (t1 := 39) (t2 := 35) dX7_leastWidth_32 (by decide) rfl (fun h32 => ?_) (fun h32 => ?_)
          · refine g_bipush (t := 41) dX7_leastWidth_39 c_bipush_20 rfl ?_
            refine g_istore_n (i := 3) (t := 42) (L1 := [_, _, _, _]) dX7_leastWidth_41 rfl (by decide) rfl rfl rfl ?_
            exact x7_lw_loop (a := true) hV k16 (fun q => absurd q (by decide)) 980 20 I rfl (Nat.le_refl _) hR gSame.rf rfl
          · exact absurd h32 (by decide)
  · have e : inI (nI 0) (nI 0) (nI 0) = true := by decide +kernel
    have e0 : inI (nI 1) (nI 0) (nI 1) = true := by decide +kernel
    refine g_iload_n (i := 1) (t := 1) dX7_leastWidth_0 rfl rfl rfl ?_
    refine g_iconst (t := 2) dX7_leastWidth_1 c_iconst_0 rfl ?_
    refine g_iconst (t := 3) dX7_leastWidth_2 c_iconst_1 rfl ?_
    refine g_cSp (t := 6) mX7_in k_X7_75 smX7_in dX7_leastWidth_3 (x7_in) rfl rfl (by decide) (by decide) (Nat.le_of_ble_eq_true rfl) rfl ?_
    rw [e0]
    refine g_if_eq (t1 := 35) (t2 := 9) dX7_leastWidth_6 (by decide) rfl (fun h6 => ?_) (fun h6 => ?_)
    · exact absurd h6 (by decide)
    · refine g_iload_n (i := 2) (t := 10) dX7_leastWidth_9 rfl rfl rfl ?_
      refine g_iload_n (i := 1) (t := 11) dX7_leastWidth_10 rfl rfl rfl ?_
      refine g_if_ne (t1 := 18) (t2 := 14) dX7_leastWidth_11 (by decide) rfl (fun h11 => ?_) (fun h11 => ?_)
      · refine g_iconst (t := 19) dX7_leastWidth_18 c_iconst_0 rfl ?_
        refine g_iload_n (i := 1) (t := 20) dX7_leastWidth_19 rfl rfl rfl ?_
        refine g_if_ne (t1 := 28) (t2 := 23) dX7_leastWidth_20 (by decide) rfl (fun h20 => ?_) (fun h20 => ?_)
        · refine g_iconst (t := 29) dX7_leastWidth_28 c_iconst_0 rfl ?_
          refine g_cSp (t := 32) mX7_in k_X7_75 smX7_in dX7_leastWidth_29 (x7_in) rfl rfl (by decide) (by decide) (Nat.le_of_ble_eq_true rfl) rfl ?_
          rw [e]
          refine g_if_ne (t1 := 39) (t2 := 35) dX7_leastWidth_32 (by decide) rfl (fun h32 => ?_) (fun h32 => ?_)
          · refine g_bipush (t := 41) dX7_leastWidth_39 c_bipush_20 rfl ?_
            refine g_istore_n (i := 3) (t := 42) (L1 := [_, _, _, _]) dX7_leastWidth_41 rfl (by decide) rfl rfl rfl ?_
            exact x7_lw_loop (a := false) (k := 0) hV (by decide) (fun _ => rfl) 980 20 I rfl (Nat.le_refl _) hR gSame.rf rfl
          · exact absurd h32 (by decide)
        · exact absurd h20 (by decide)
      · exact absurd h11 (by decide)
  · have T29 : ∀ a b : Int32, inI y a b = false → Wp E fX7_leastWidth 62 29 [.ref 41, .int x, .int y, .null] [.int b, .int a, .int y] (gM I h) (gRet fX7_leastWidth 62 (fun r σ' => ∃ (v' : Int32) (I' : Nat → Nat → Int32), r = some (.int v') ∧ σ' = gM I' h ∧ gSame ML I I' ∧ v' = -1002 ∧ rM I' S)) := by
      intro a b hab
      refine g_cSp (t := 32) mX7_in k_X7_75 smX7_in dX7_leastWidth_29 (x7_in) rfl rfl (by decide) (by decide) (Nat.le_of_ble_eq_true rfl) rfl ?_
      rw [hab]
      refine g_if_ne (t1 := 39) (t2 := 35) dX7_leastWidth_32 (by decide) rfl (fun h32 => ?_) (fun h32 => ?_)
      · exact absurd rfl h32
      · refine g_sipush (t := 38) dX7_leastWidth_35 c_sipush_m1002 rfl ?_
        exact g_retI dX7_leastWidth_38 rfl rfl (⟨gSame.rf, rfl, hR⟩)
    by_cases hx : bdI 2 x
    · refine g_iload_n (i := 1) (t := 1) dX7_leastWidth_0 rfl rfl rfl ?_
      refine g_iconst (t := 2) dX7_leastWidth_1 c_iconst_0 rfl ?_
      refine g_iconst (t := 3) dX7_leastWidth_2 c_iconst_1 rfl ?_
      refine g_cSp (t := 6) mX7_in k_X7_75 smX7_in dX7_leastWidth_3 (x7_in) rfl rfl (by decide) (by decide) (Nat.le_of_ble_eq_true rfl) rfl ?_
      rw [in_f (K := 1) (by decide) hx]
      refine g_if_eq (t1 := 35) (t2 := 9) dX7_leastWidth_6 (by decide) rfl (fun h6 => ?_) (fun h6 => ?_)
      · refine g_sipush (t := 38) dX7_leastWidth_35 c_sipush_m1002 rfl ?_
        exact g_retI dX7_leastWidth_38 rfl rfl (⟨gSame.rf, rfl, hR⟩)
      · exact absurd rfl h6
    · obtain ⟨k, hk, rfl⟩ := bd_no (by decide) hx
      refine g_iload_n (i := 1) (t := 1) dX7_leastWidth_0 rfl rfl rfl ?_
      refine g_iconst (t := 2) dX7_leastWidth_1 c_iconst_0 rfl ?_
      refine g_iconst (t := 3) dX7_leastWidth_2 c_iconst_1 rfl ?_
      refine g_cSp (t := 6) mX7_in k_X7_75 smX7_in dX7_leastWidth_3 (x7_in) rfl rfl (by decide) (by decide) (Nat.le_of_ble_eq_true rfl) rfl ?_
      rw [in_t (K := 1) (by decide) hx]
      refine g_if_eq (t1 := 35) (t2 := 9) dX7_leastWidth_6 (by decide) rfl (fun h6 => ?_) (fun h6 => ?_)
      · exact absurd h6 (by decide)
      · refine g_iload_n (i := 2) (t := 10) dX7_leastWidth_9 rfl rfl rfl ?_
        refine g_iload_n (i := 1) (t := 11) dX7_leastWidth_10 rfl rfl rfl ?_
        refine g_if_ne (t1 := 18) (t2 := 14) dX7_leastWidth_11 (by decide) rfl (fun h11 => ?_) (fun h11 => ?_)
        · refine g_iconst (t := 19) dX7_leastWidth_18 c_iconst_0 rfl ?_
          refine g_iload_n (i := 1) (t := 20) dX7_leastWidth_19 rfl rfl rfl ?_
          refine g_if_ne (t1 := 28) (t2 := 23) dX7_leastWidth_20 (by decide) rfl (fun h20 => ?_) (fun h20 => ?_)
          · refine g_iconst (t := 29) dX7_leastWidth_28 c_iconst_0 rfl ?_
            first
            | exact absurd h20 h11
            | exact absurd h11 h20
            | (refine T29 _ _ (decide_eq_false fun u => n1 ⟨?_, u.1, u.2⟩)
               rw [h11]; rfl)
            | (refine T29 _ _ (decide_eq_false fun u => n2 ⟨?_, ?_⟩)
               · have : k ≠ 0 := fun q => h11 (by rw [q]; rfl)
                 exact congrArg nI (by omega)
               · exact Int32.le_antisymm u.2 u.1)
          · refine g_bipush (t := 25) dX7_leastWidth_23 c_bipush_16 rfl ?_
            refine g_goto (t := 29) dX7_leastWidth_25 (by decide) ?_
            first
            | exact absurd h20 h11
            | exact absurd h11 h20
            | (refine T29 _ _ (decide_eq_false fun u => n1 ⟨?_, u.1, u.2⟩)
               rw [h11]; rfl)
            | (refine T29 _ _ (decide_eq_false fun u => n2 ⟨?_, ?_⟩)
               · have : k ≠ 0 := fun q => h11 (by rw [q]; rfl)
                 exact congrArg nI (by omega)
               · exact Int32.le_antisymm u.2 u.1)
        · refine g_iconst (t := 15) dX7_leastWidth_14 c_iconst_1 rfl ?_
          refine g_goto (t := 19) dX7_leastWidth_15 (by decide) ?_
          refine g_iload_n (i := 1) (t := 20) dX7_leastWidth_19 rfl rfl rfl ?_
          refine g_if_ne (t1 := 28) (t2 := 23) dX7_leastWidth_20 (by decide) rfl (fun h20 => ?_) (fun h20 => ?_)
          · refine g_iconst (t := 29) dX7_leastWidth_28 c_iconst_0 rfl ?_
            first
            | exact absurd h20 h11
            | exact absurd h11 h20
            | (refine T29 _ _ (decide_eq_false fun u => n1 ⟨?_, u.1, u.2⟩)
               rw [h11]; rfl)
            | (refine T29 _ _ (decide_eq_false fun u => n2 ⟨?_, ?_⟩)
               · have : k ≠ 0 := fun q => h11 (by rw [q]; rfl)
                 exact congrArg nI (by omega)
               · exact Int32.le_antisymm u.2 u.1)
          · refine g_bipush (t := 25) dX7_leastWidth_23 c_bipush_16 rfl ?_
            refine g_goto (t := 29) dX7_leastWidth_25 (by decide) ?_
            first
            | exact absurd h20 h11
            | exact absurd h11 h20
            | (refine T29 _ _ (decide_eq_false fun u => n1 ⟨?_, u.1, u.2⟩)
               rw [h11]; rfl)
            | (refine T29 _ _ (decide_eq_false fun u => n2 ⟨?_, ?_⟩)
               · have : k ≠ 0 := fun q => h11 (by rw [q]; rfl)
                 exact congrArg nI (by omega)
               · exact Int32.le_antisymm u.2 u.1)
theorem x7_mixes {v : Int64} : gEv E fX7_mixes 62 [.ref 41, .long v] (gM I h) (fun r σ' => r = none ∧ σ' = gM I (h * 31 + v)) := by
  refine gEv.of rfl (Nat.le_refl _) (Nat.le_of_ble_eq_true rfl) (L := [.ref 41, .long v, .null]) rfl ?_
  refine g_aload_n (i := 0) (r := 41) (t := 1) dX7_mixes_0 rfl rfl (Or.inl l9_41) rfl ?_
  refine g_ldc2 (v := 31) (t := 4) kc_X7_250 dX7_mixes_1 rfl ?_
  refine g_aload_n (i := 0) (r := 41) (t := 5) dX7_mixes_4 rfl rfl (Or.inl l9_41) rfl ?_
  refine gm_getL (o := 41) (ci := 7) (k := 26) (t := 8) l6_41 l9_41 s_41 gf_X7_252 rfl dX7_mixes_5 rfl ?_
  refine g_lmul (t := 9) dX7_mixes_8 rfl ?_
  refine g_lload_n (i := 1) (t := 10) dX7_mixes_9 rfl rfl rfl ?_
  refine g_ladd (t := 11) dX7_mixes_10 rfl ?_
  refine gm_putL (ci := 7) (k := 26) (t := 14) s_41 gp_X7_252 rfl (fun j hj => gfk_one hj) dX7_mixes_11 rfl ?_
  exact Wp.here ⟨rfl, Or.inr (Or.inl ⟨dX7_mixes_14, rfl, rfl, rfl, by rw [Int64.mul_comm]⟩)⟩
theorem x7_mi_loop2 {it p : Nat} (hC : mC I s) (hn : s.1 ≤ 16) (hD : dM I s (s.2.2 0)) (hp : p < sC s) {x : Int64} : ∀ (d k : Nat), k + d = 8 → Wp E fX7_mixesItem 62 33 [.ref 41, .int (nI it), .int (nI p), .int (nI k)] [] (gM I (dgV x (liV s p) k)) (gRet fX7_mixesItem 62 (fun r σ' => r = none ∧ σ' = gM I (dgV x (liV s p) 8))) := by
  have hc := sC_le hn
  intro d
  induction d with
  | zero =>
    intro k hk
    have hk : k = 8 := by omega
    subst hk
    refine g_iload_n (i := 3) (t := 34) dX7_mixesItem_33 rfl rfl rfl ?_
    refine g_bipush (t := 36) dX7_mixesItem_34 c_bipush_8 rfl ?_
    refine g_icmp_ge_n (t1 := 63) (t2 := 39) dX7_mixesItem_36 (by decide) rfl (by omega) (by omega) (fun h36 => ?_) (fun h36 => ?_)
    · exact Wp.here ⟨rfl, Or.inr (Or.inl ⟨dX7_mixesItem_63, rfl, rfl, rfl, rfl⟩)⟩
    · exfalso; omega
  | succ d ih =>
    intro k hk
    refine g_iload_n (i := 3) (t := 34) dX7_mixesItem_33 rfl rfl rfl ?_
    refine g_bipush (t := 36) dX7_mixesItem_34 c_bipush_8 rfl ?_
    refine g_icmp_ge_n (t1 := 63) (t2 := 39) dX7_mixesItem_36 (by decide) rfl (by omega) (by omega) (fun h36 => ?_) (fun h36 => ?_)
    · exfalso; omega
    · refine g_iload_n (i := 2) (t := 40) dX7_mixesItem_39 rfl rfl rfl ?_
      refine g_sipush (t := 43) dX7_mixesItem_40 c_sipush_m1001 rfl ?_
      refine g_icmp_eq (t1 := 63) (t2 := 46) dX7_mixesItem_43 (by decide) rfl (fun h43 => ?_) (fun h43 => ?_)
      · exact absurd h43 (nI_nm (by omega))
      · refine g_aload_n (i := 0) (r := 41) (t := 47) dX7_mixesItem_46 rfl rfl (Or.inl l9_41) rfl ?_
        refine g_aload_n (i := 0) (r := 41) (t := 48) dX7_mixesItem_47 rfl rfl (Or.inl l9_41) rfl ?_
        refine g_iload_n (i := 2) (t := 49) dX7_mixesItem_48 rfl rfl rfl ?_
        refine g_iload_n (i := 3) (t := 50) dX7_mixesItem_49 rfl rfl rfl ?_
        refine g_cVp (o := 41) (t := 53) mX7_liesAt k_X7_228 imX7_liesAt seX7_liesAt l6_41 l9_41 s_41 rfl dX7_mixesItem_50 (x7_liesAt hC hn hD hp (by omega)) rfl rfl (by decide) (by decide) (Nat.le_of_ble_eq_true rfl) rfl ?_
        refine g_i2l (t := 54) dX7_mixesItem_53 rfl ?_
        refine g_cVh (o := 41) (t := 57) mX7_mixes k_X7_259 imX7_mixes seX7_mixes l6_41 l9_41 s_41 rfl dX7_mixesItem_54 (x7_mixes) rfl rfl (by decide) (by decide) (Nat.le_of_ble_eq_true rfl) rfl ?_
        refine g_iinc (i := 3) (t := 60) (L1 := [_, _, _, _]) dX7_mixesItem_57 rfl (gi_1 _) (by decide) rfl rfl rfl ?_
        refine g_goto (t := 33) dX7_mixesItem_60 (by decide) ?_
        exact ih (k + 1) (by omega)
theorem x7_mi_loop1 {it : Nat} (hR : rM I S) (hit : it < S.1.1) {x : Int64} {K : gK} : ∀ (d k : Nat), k + d = 12 →
    (∀ v2, Wp E fX7_mixesItem 62 25 [.ref 41, .int (nI it), v2, .null] [] (gM I (dgV x (fun k => if k = 11 then wsh S.1.2.1 it else S.1.2.1 it k) 12)) K) →
    Wp E fX7_mixesItem 62 2 [.ref 41, .int (nI it), .int (nI k), .null] [] (gM I (dgV x (fun k => if k = 11 then wsh S.1.2.1 it else S.1.2.1 it k) k)) K := by
  have hn := hR.1
  intro d
  induction d with
  | zero =>
    intro k hk kk
    have hk : k = 12 := by omega
    subst hk
    refine g_iload_n (i := 2) (t := 3) dX7_mixesItem_2 rfl rfl rfl ?_
    refine g_bipush (t := 5) dX7_mixesItem_3 c_bipush_12 rfl ?_
    refine g_icmp_ge_n (t1 := 25) (t2 := 8) dX7_mixesItem_5 (by decide) rfl (by omega) (by omega) (fun h5 => ?_) (fun h5 => ?_)
    · exact kk _
    · exfalso; omega
  | succ d ih =>
    intro k hk kk
    refine g_iload_n (i := 2) (t := 3) dX7_mixesItem_2 rfl rfl rfl ?_
    refine g_bipush (t := 5) dX7_mixesItem_3 c_bipush_12 rfl ?_
    refine g_icmp_ge_n (t1 := 25) (t2 := 8) dX7_mixesItem_5 (by decide) rfl (by omega) (by omega) (fun h5 => ?_) (fun h5 => ?_)
    · exfalso; omega
    · refine g_aload_n (i := 0) (r := 41) (t := 9) dX7_mixesItem_8 rfl rfl (Or.inl l9_41) rfl ?_
      refine g_aload_n (i := 0) (r := 41) (t := 10) dX7_mixesItem_9 rfl rfl (Or.inl l9_41) rfl ?_
      refine g_iload_n (i := 1) (t := 11) dX7_mixesItem_10 rfl rfl rfl ?_
      refine g_iload_n (i := 2) (t := 12) dX7_mixesItem_11 rfl rfl rfl ?_
      refine g_cVp (o := 41) (t := 15) mX7_item k_X7_256 imX7_item seX7_item l6_41 l9_41 s_41 rfl dX7_mixesItem_12 (x7_item hR (Or.inr ⟨it, k, hit, rfl, by omega, rfl, rfl⟩)) rfl rfl (by decide) (by decide) (Nat.le_of_ble_eq_true rfl) rfl ?_
      refine g_i2l (t := 16) dX7_mixesItem_15 rfl ?_
      refine g_cVh (o := 41) (t := 19) mX7_mixes k_X7_259 imX7_mixes seX7_mixes l6_41 l9_41 s_41 rfl dX7_mixesItem_16 (x7_mixes) rfl rfl (by decide) (by decide) (Nat.le_of_ble_eq_true rfl) rfl ?_
      refine g_iinc (i := 2) (t := 22) (L1 := [_, _, _, _]) dX7_mixesItem_19 rfl (gi_1 _) (by decide) rfl rfl rfl ?_
      refine g_goto (t := 2) dX7_mixesItem_22 (by decide) ?_
      exact ih (k + 1) (by omega) kk
theorem x7_mixesItem {it : Nat} (hR : rM I S) (hV : vT S) (hD : dM I S.1 (S.1.2.2 0)) (hit : it < S.1.1) : gEv E fX7_mixesItem 62 [.ref 41, .int (nI it)] (gM I h) (fun r σ' => r = none ∧ σ' = gM I (dgI S h it)) := by
  refine gEv.of rfl (Nat.le_refl _) (Nat.le_of_ble_eq_true rfl) (L := [.ref 41, .int (nI it), .null, .null]) rfl ?_
  have ⟨hn, hC, hH, hT⟩ := hR
  have hc := sC_le hn
  have e12 : dgV h (fun k => if k = 11 then wsh S.1.2.1 it else S.1.2.1 it k) 12 = dgV h (fun w => S.1.2.1 it w) 11 * 31 + (wsh S.1.2.1 it).toInt64 := by
    rw [dgV, if_pos rfl]
    rw [dgV_cong 11 (g2 := fun w => S.1.2.1 it w) (fun k hk => if_neg (by omega))]
  have T25 : ∀ v2, Wp E fX7_mixesItem 62 25 [.ref 41, .int (nI it), v2, .null] [] (gM I (dgV h (fun k => if k = 11 then wsh S.1.2.1 it else S.1.2.1 it k) 12)) (gRet fX7_mixesItem 62 (fun r σ' => r = none ∧ σ' = gM I (dgI S h it))) := by
    intro v2
    rw [e12]
    by_cases h10 : S.1.2.1 it 10 = 0
    · obtain ⟨p, hp, hpi⟩ : ∃ p, p < sC S.1 ∧ (sQ S.1).2.2.2 p = it := ordS_all S.1.2.1 S.1.1 it hit h10
      have e : dgI S h it = dgV (dgV h (fun w => S.1.2.1 it w) 11 * 31 + (wsh S.1.2.1 it).toInt64) (liV S.1 p) 8 := by
        unfold dgI
        rw [if_pos h10]
        refine dgV_cong 8 fun k _ => ?_
        have : plcS (sQ S.1).2.2.2 it (sC S.1) 0 = nI p := by rw [← hpi, plc_of hp]
        show liV S.1 (plcS (sQ S.1).2.2.2 it (sC S.1) 0).toNatClampNeg k = _
        rw [this, nI_clamp (by omega)]
      rw [e]
      refine g_aload_n (i := 0) (r := 41) (t := 26) dX7_mixesItem_25 rfl rfl (Or.inl l9_41) rfl ?_
      refine g_iload_n (i := 1) (t := 27) dX7_mixesItem_26 rfl rfl rfl ?_
      refine g_cVp (o := 41) (t := 30) mX7_placeOf k_X7_164 imX7_placeOf seX7_placeOf l6_41 l9_41 s_41 rfl dX7_mixesItem_27 (x7_placeOf hD.1 hc (fun a b => by have := sQ_le hn b; omega) (by omega)) rfl rfl (by decide) (by decide) (Nat.le_of_ble_eq_true rfl) rfl ?_
      rw [← hpi, plc_of hp, hpi]
      refine g_istore_n (i := 2) (t := 31) (L1 := [_, _, _, _]) dX7_mixesItem_30 rfl (by decide) rfl rfl rfl ?_
      refine g_iconst (t := 32) dX7_mixesItem_31 c_iconst_0 rfl ?_
      refine g_istore_n (i := 3) (t := 33) (L1 := [_, _, _, _]) dX7_mixesItem_32 rfl (by decide) rfl rfl rfl ?_
      exact x7_mi_loop2 hC hn hD hp 8 0 rfl
    · have e : dgI S h it = dgV h (fun w => S.1.2.1 it w) 11 * 31 + (wsh S.1.2.1 it).toInt64 := by
        unfold dgI
        rw [if_neg h10]
      have hno : plcS (sQ S.1).2.2.2 it (sC S.1) 0 = -1001 := plcS_no (c := sC S.1) (fun p hp q => h10 (by rw [← q]; exact ordS_shown S.1.2.1 S.1.1 p hp)) _ 0 (Nat.zero_add _)
      rw [e]
      refine g_aload_n (i := 0) (r := 41) (t := 26) dX7_mixesItem_25 rfl rfl (Or.inl l9_41) rfl ?_
      refine g_iload_n (i := 1) (t := 27) dX7_mixesItem_26 rfl rfl rfl ?_
      refine g_cVp (o := 41) (t := 30) mX7_placeOf k_X7_164 imX7_placeOf seX7_placeOf l6_41 l9_41 s_41 rfl dX7_mixesItem_27 (x7_placeOf hD.1 hc (fun a b => by have := sQ_le hn b; omega) (by omega)) rfl rfl (by decide) (by decide) (Nat.le_of_ble_eq_true rfl) rfl ?_
      rw [hno]
      refine g_istore_n (i := 2) (t := 31) (L1 := [_, _, _, _]) dX7_mixesItem_30 rfl (by decide) rfl rfl rfl ?_
      refine g_iconst (t := 32) dX7_mixesItem_31 c_iconst_0 rfl ?_
      refine g_istore_n (i := 3) (t := 33) (L1 := [_, _, _, _]) dX7_mixesItem_32 rfl (by decide) rfl rfl rfl ?_
      refine g_iload_n (i := 3) (t := 34) dX7_mixesItem_33 rfl rfl rfl ?_
      refine g_bipush (t := 36) dX7_mixesItem_34 c_bipush_8 rfl ?_
      refine g_icmp_ge (t1 := 63) (t2 := 39) dX7_mixesItem_36 (by decide) rfl (fun h36 => ?_) (fun h36 => ?_)
      · exact absurd h36 (by decide)
      · refine g_iload_n (i := 2) (t := 40) dX7_mixesItem_39 rfl rfl rfl ?_
        refine g_sipush (t := 43) dX7_mixesItem_40 c_sipush_m1001 rfl ?_
        refine g_icmp_eq (t1 := 63) (t2 := 46) dX7_mixesItem_43 (by decide) rfl (fun h43 => ?_) (fun h43 => ?_)
        · exact Wp.here ⟨rfl, Or.inr (Or.inl ⟨dX7_mixesItem_63, rfl, rfl, rfl, rfl⟩)⟩
        · exact absurd rfl h43
  refine g_iconst (t := 1) dX7_mixesItem_0 c_iconst_0 rfl ?_
  refine g_istore_n (i := 2) (t := 2) (L1 := [_, _, _, _]) dX7_mixesItem_1 rfl (by decide) rfl rfl rfl ?_
  exact x7_mi_loop1 hR hit 12 0 rfl T25
end X7U

