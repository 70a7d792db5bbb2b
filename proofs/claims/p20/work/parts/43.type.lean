/-! the law types: a number, a word -/
def apT (T : tT) (x : Int32) : tT := (T.1 + 1, upd T.2 T.1 x)
def apL (T : tT) : List Nat → tT
  | [] => T
  | c :: l => apL (apT T (nI c)) l
theorem apL_app (T : tT) (l m : List Nat) : apL T (l ++ m) = apL (apL T l) m := by
  induction l generalizing T with
  | nil => rfl
  | cons c l ih => exact ih (apT T (nI c))
theorem apL_len (T : tT) (l : List Nat) : (apL T l).1 = T.1 + l.length := by
  induction l generalizing T with
  | nil => rfl
  | cons c l ih =>
    rw [List.length_cons]
    have := ih (apT T (nI c))
    rw [show (apT T (nI c)).1 = T.1 + 1 from rfl] at this
    show (apL (apT T (nI c)) l).1 = _
    omega
/-- the state with another text -/
def tS (S : sT) (T : tT) : sT := (S.1, S.2.1, T)
theorem tS_tS (S : sT) (T T2 : tT) : tS (tS S T) T2 = tS S T2 := rfl
theorem tS_self (S : sT) : tS S S.2.2 = S := rfl
theorem vT_tS {S : sT} {T : tT} (h : vT S) : vT (tS S T) := h
/-- digits of a number, its letters -/
def dgL (a : Nat) : List Nat := (if a < 100 then [] else [48 + a / 100]) ++ (if a < 10 then [] else [48 + a / 10 % 10]) ++ [48 + a % 10]
def nmL (g : Bool) (a : Nat) : List Nat := (if g then [45] else []) ++ dgL a
theorem dgL_len (a : Nat) : (dgL a).length ≤ 3 := by
  unfold dgL
  split <;> split <;> simp
theorem nmL_len (g : Bool) (a : Nat) : (nmL g a).length ≤ 4 := by
  have := dgL_len a
  unfold nmL
  cases g
  · show ([] ++ dgL a).length ≤ 4; rw [List.nil_append]; omega
  · show ([45] ++ dgL a).length ≤ 4; rw [List.length_append]; show 1 + _ ≤ 4; omega
/-- the number by its sign and its size -/
def sgI (g : Bool) (a : Nat) : Int32 := if g then -(nI a) else nI a
section TYP
variable {E : gE} {I : Nat → Nat → Int32} {h : gX} {S : sT}
theorem x6_typeQ {x : Int32} {c : Nat} (hx : x = nI c) (hX : rX I S) (hc : c < 128) (hT : S.2.2.1 < 80) : gQI E fX6_type [.ref 0, .int x] I h (fun v I' => gSame CL I I' ∧ v = nI (S.2.2.1 + 1) ∧ rX I' (tS S (apT S.2.2 (nI c)))) := by
  subst hx
  refine gQI.mono (x6_type hX) fun v I' q => ?_
  obtain ⟨q1, S', q2, q3⟩ := q
  refine ⟨q1, ?_⟩
  rcases q2 with ⟨z, -, -⟩ | ⟨k, hk, e, ⟨-, z2, z3⟩ | ⟨z, -, -⟩⟩
  · exact absurd z (bd_nI (by decide) hc)
  · have : k = c := (nI_eq (by omega) (by omega)).mp e.symm
    subst this
    subst z3
    exact ⟨z2, q3⟩
  · omega
theorem tp_pos {n : Nat} (hn : n < 1000) : ¬ nI (n + 1) ≤ 0 := by
  rw [Int32.not_le]
  show nI 0 < nI (n + 1)
  exact nI_lt (by omega) (by omega)
theorem l_typesNumber {g : Bool} {a : Nat} (hX : rX I S) (ha : a < 1000) (hg : g = true → 0 < a) (hT : S.2.2.1 + 4 ≤ 80) : gQI E fL_typesNumber [.ref 0, .int (sgI g a)] I h (fun v I' => gSame CL I I' ∧ v = nI 1 ∧ rX I' (tS S (apL S.2.2 (nmL g a)))) := by
  have e1 : nI 48 + nI a / nI 100 = nI (48 + a / 100) := by rw [pk_div (by omega) (by decide) (by decide), nI_add]
  have e2 : nI 48 + (nI a / nI 10 - nI a / nI 10 / nI 10 * nI 10) = nI (48 + a / 10 % 10) := by
    rw [pk_div (by omega) (by decide) (by decide), pk_div (by omega) (by decide) (by decide), pk_mul, pk_sub (Nat.div_mul_le_self _ _), nI_add]
    exact congrArg nI (by omega)
  have e3 : nI 48 + (nI a - nI a / nI 10 * nI 10) = nI (48 + a % 10) := by
    rw [pk_div (by omega) (by decide) (by decide), pk_mul, pk_sub (Nat.div_mul_le_self _ _), nI_add]
    exact congrArg nI (by omega)
  have T67 : ∀ (J : Nat → Nat → Int32) (T : tT), gSame CL I J → rX J (tS S T) → T.1 + 1 ≤ 80 → apL T [48 + a % 10] = apL S.2.2 (nmL g a) → Wp E fL_typesNumber (gn h) 67 [.ref 0, .int (sgI g a), .int (nI a), .null] [] (gM J h) (gRet fL_typesNumber (gn h) (fun r σ' => ∃ (v : Int32) (I' : Nat → Nat → Int32), r = some (.int v) ∧ σ' = gM I' h ∧ gSame CL I I' ∧ v = nI 1 ∧ rX I' (tS S (apL S.2.2 (nmL g a))))) := by
    intro J T hs hXJ hT1 he
    refine g_iconst (t := 68) dL_typesNumber_67 c_iconst_1 rfl ?_
    refine g_goto (t := 72) dL_typesNumber_68 (by decide) ?_
    refine g_istore_n (i := 3) (t := 73) (L1 := [_, _, _, _]) dL_typesNumber_72 rfl (by decide) rfl rfl rfl ?_
    refine g_iload_n (i := 3) (t := 74) dL_typesNumber_73 rfl rfl rfl ?_
    refine g_if_eq (t1 := 95) (t2 := 77) dL_typesNumber_74 (by decide) rfl (fun h74 => ?_) (fun h74 => ?_)
    · exact absurd h74 (by decide)
    · refine g_aload_n (i := 0) (r := 0) (t := 78) dL_typesNumber_77 rfl rfl (Or.inl l9_0) rfl ?_
      refine g_bipush (t := 80) dL_typesNumber_78 c_bipush_48 rfl ?_
      refine g_iload_n (i := 2) (t := 81) dL_typesNumber_80 rfl rfl rfl ?_
      refine g_bipush (t := 83) dL_typesNumber_81 c_bipush_10 rfl ?_
      refine g_irem (t := 84) dL_typesNumber_83 (by first | assumption | decide) rfl ?_
      refine g_iadd (t := 85) dL_typesNumber_84 rfl ?_
      refine g_cVi (o := 0) (t := 88) mX6_type k_L_9 imX6_type seX6_type l6_0 l9_0 s_0 rfl dL_typesNumber_85 (x6_typeQ e3 hXJ (by omega) hT1) rfl rfl (by decide) (by decide) (Nat.le_of_ble_eq_true rfl) rfl (Nat.le_refl _) (fun v85 J85 q85 => ?_)
      obtain ⟨q1, rfl, q3⟩ := q85
      refine g_if_le (t1 := 95) (t2 := 91) dL_typesNumber_88 (by decide) rfl (fun h88 => ?_) (fun h88 => ?_)
      · exact absurd h88 (tp_pos (by show T.1 < 1000; omega))
      · refine g_iconst (t := 92) dL_typesNumber_91 c_iconst_1 rfl ?_
        refine g_goto (t := 96) dL_typesNumber_92 (by decide) ?_
        exact g_retI dL_typesNumber_96 rfl (by decide +kernel) (⟨hs.trans q1, rfl, by rw [← he]; exact q3⟩)
  have T44 : ∀ (J : Nat → Nat → Int32) (T : tT), gSame CL I J → rX J (tS S T) → T.1 + 2 ≤ 80 → apL T ((if a < 10 then [] else [48 + a / 10 % 10]) ++ [48 + a % 10]) = apL S.2.2 (nmL g a) → Wp E fL_typesNumber (gn h) 44 [.ref 0, .int (sgI g a), .int (nI a), .null] [] (gM J h) (gRet fL_typesNumber (gn h) (fun r σ' => ∃ (v : Int32) (I' : Nat → Nat → Int32), r = some (.int v) ∧ σ' = gM I' h ∧ gSame CL I I' ∧ v = nI 1 ∧ rX I' (tS S (apL S.2.2 (nmL g a))))) := by
    intro J T hs hXJ hT1 he
    refine g_iload_n (i := 2) (t := 45) dL_typesNumber_44 rfl rfl rfl ?_
    refine g_bipush (t := 47) dL_typesNumber_45 c_bipush_10 rfl ?_
    refine g_icmp_lt_n (t1 := 67) (t2 := 50) dL_typesNumber_47 (by decide) rfl (by omega) (by omega) (fun h47 => ?_) (fun h47 => ?_)
    · rw [if_pos h47] at he
      exact T67 J T hs hXJ (by omega) he
    · refine g_aload_n (i := 0) (r := 0) (t := 51) dL_typesNumber_50 rfl rfl (Or.inl l9_0) rfl ?_
      refine g_bipush (t := 53) dL_typesNumber_51 c_bipush_48 rfl ?_
      refine g_iload_n (i := 2) (t := 54) dL_typesNumber_53 rfl rfl rfl ?_
      refine g_bipush (t := 56) dL_typesNumber_54 c_bipush_10 rfl ?_
      refine g_idiv (t := 57) dL_typesNumber_56 (by first | assumption | decide) rfl ?_
      refine g_bipush (t := 59) dL_typesNumber_57 c_bipush_10 rfl ?_
      refine g_irem (t := 60) dL_typesNumber_59 (by first | assumption | decide) rfl ?_
      refine g_iadd (t := 61) dL_typesNumber_60 rfl ?_
      refine g_cVi (o := 0) (t := 64) mX6_type k_L_9 imX6_type seX6_type l6_0 l9_0 s_0 rfl dL_typesNumber_61 (x6_typeQ e2 hXJ (by omega) (by show T.1 < 80; omega)) rfl rfl (by decide) (by decide) (Nat.le_of_ble_eq_true rfl) rfl (Nat.le_refl _) (fun v61 J61 q61 => ?_)
      obtain ⟨q1, rfl, q3⟩ := q61
      refine g_if_le (t1 := 71) (t2 := 67) dL_typesNumber_64 (by decide) rfl (fun h64 => ?_) (fun h64 => ?_)
      · exact absurd h64 (tp_pos (by show T.1 < 1000; omega))
      · rw [if_neg (by omega)] at he
        exact T67 J61 _ (hs.trans q1) q3 (by show T.1 + 1 + 1 ≤ 80; omega) he
  have T24 : ∀ (J : Nat → Nat → Int32) (T : tT), gSame CL I J → rX J (tS S T) → T.1 + 3 ≤ 80 → apL T (dgL a) = apL S.2.2 (nmL g a) → Wp E fL_typesNumber (gn h) 24 [.ref 0, .int (sgI g a), .int (nI a), .null] [] (gM J h) (gRet fL_typesNumber (gn h) (fun r σ' => ∃ (v : Int32) (I' : Nat → Nat → Int32), r = some (.int v) ∧ σ' = gM I' h ∧ gSame CL I I' ∧ v = nI 1 ∧ rX I' (tS S (apL S.2.2 (nmL g a))))) := by
    intro J T hs hXJ hT1 he
    unfold dgL at he
    rw [List.append_assoc] at he
    refine g_iload_n (i := 2) (t := 25) dL_typesNumber_24 rfl rfl rfl ?_
    refine g_bipush (t := 27) dL_typesNumber_25 c_bipush_100 rfl ?_
    refine g_icmp_lt_n (t1 := 44) (t2 := 30) dL_typesNumber_27 (by decide) rfl (by omega) (by omega) (fun h27 => ?_) (fun h27 => ?_)
    · rw [if_pos h27] at he
      exact T44 J T hs hXJ (by omega) he
    · refine g_aload_n (i := 0) (r := 0) (t := 31) dL_typesNumber_30 rfl rfl (Or.inl l9_0) rfl ?_
      refine g_bipush (t := 33) dL_typesNumber_31 c_bipush_48 rfl ?_
      refine g_iload_n (i := 2) (t := 34) dL_typesNumber_33 rfl rfl rfl ?_
      refine g_bipush (t := 36) dL_typesNumber_34 c_bipush_100 rfl ?_
      refine g_idiv (t := 37) dL_typesNumber_36 (by first | assumption | decide) rfl ?_
      refine g_iadd (t := 38) dL_typesNumber_37 rfl ?_
      refine g_cVi (o := 0) (t := 41) mX6_type k_L_9 imX6_type seX6_type l6_0 l9_0 s_0 rfl dL_typesNumber_38 (x6_typeQ e1 hXJ (by omega) (by show T.1 < 80; omega)) rfl rfl (by decide) (by decide) (Nat.le_of_ble_eq_true rfl) rfl (Nat.le_refl _) (fun v38 J38 q38 => ?_)
      obtain ⟨q1, rfl, q3⟩ := q38
      refine g_if_le (t1 := 71) (t2 := 44) dL_typesNumber_41 (by decide) rfl (fun h41 => ?_) (fun h41 => ?_)
      · exact absurd h41 (tp_pos (by show T.1 < 1000; omega))
      · rw [if_neg (by omega)] at he
        exact T44 J38 _ (hs.trans q1) q3 (by show T.1 + 1 + 2 ≤ 80; omega) he
  refine gEv.of rfl (Nat.le_refl _) (Nat.le_of_ble_eq_true rfl) (L := [.ref 0, .int (sgI g a), .null, .null]) rfl ?_
  cases g with
  | false =>
    have hz : ¬ sgI false a < 0 := nI_pos (by omega)
    refine g_iload_n (i := 1) (t := 1) dL_typesNumber_0 rfl rfl rfl ?_
    refine g_if_ge (t1 := 9) (t2 := 4) dL_typesNumber_1 (by decide) rfl (fun h1 => ?_) (fun h1 => ?_)
    · refine g_iload_n (i := 1) (t := 10) dL_typesNumber_9 rfl rfl rfl ?_
      refine g_istore_n (i := 2) (t := 11) (L1 := [_, _, _, _]) dL_typesNumber_10 rfl (by decide) rfl rfl rfl ?_
      refine g_iload_n (i := 1) (t := 12) dL_typesNumber_11 rfl rfl rfl ?_
      refine g_if_ge (t1 := 24) (t2 := 15) dL_typesNumber_12 (by decide) rfl (fun h12 => ?_) (fun h12 => ?_)
      · exact T24 I S.2.2 gSame.rf hX (by omega) rfl
      · exact absurd (Int32.not_le.mp h12) hz
    · exact absurd (Int32.not_le.mp h1) hz
  | true =>
    have h0 := hg rfl
    have hz : sgI true a < 0 := by
      show -(nI a) < 0
      rw [t_lt, t_neg (by rw [nI_toInt (by omega)]; omega), nI_toInt (by omega), show (0 : Int32).toInt = 0 by decide +kernel]
      omega
    have hnn : -(sgI true a) = nI a := by
      show -(-(nI a)) = nI a
      first
      | exact Int32.neg_neg
      | exact Int32.neg_neg _
      | (rw [t_eq, t_neg (by rw [t_neg (by rw [nI_toInt (by omega)]; omega), nI_toInt (by omega)]; omega), t_neg (by rw [nI_toInt (by omega)]; omega)]; omega)
      | done
    refine g_iload_n (i := 1) (t := 1) dL_typesNumber_0 rfl rfl rfl ?_
    refine g_if_ge (t1 := 9) (t2 := 4) dL_typesNumber_1 (by decide) rfl (fun h1 => ?_) (fun h1 => ?_)
    · exact absurd hz (Int32.not_lt.mpr h1)
    · refine g_iload_n (i := 1) (t := 5) dL_typesNumber_4 rfl rfl rfl ?_
      refine g_ineg (t := 6) dL_typesNumber_5 rfl ?_
      refine g_goto (t := 10) dL_typesNumber_6 (by decide) ?_
      refine g_top hnn ?_
      refine g_istore_n (i := 2) (t := 11) (L1 := [_, _, _, _]) dL_typesNumber_10 rfl (by decide) rfl rfl rfl ?_
      refine g_iload_n (i := 1) (t := 12) dL_typesNumber_11 rfl rfl rfl ?_
      refine g_if_ge (t1 := 24) (t2 := 15) dL_typesNumber_12 (by decide) rfl (fun h12 => ?_) (fun h12 => ?_)
      · exact absurd hz (Int32.not_lt.mpr h12)
      · refine g_aload_n (i := 0) (r := 0) (t := 16) dL_typesNumber_15 rfl rfl (Or.inl l9_0) rfl ?_
        refine g_bipush (t := 18) dL_typesNumber_16 c_bipush_45 rfl ?_
        refine g_cVi (o := 0) (t := 21) mX6_type k_L_9 imX6_type seX6_type l6_0 l9_0 s_0 rfl dL_typesNumber_18 (x6_typeQ (c := 45) rfl hX (by decide) (by omega)) rfl rfl (by decide) (by decide) (Nat.le_of_ble_eq_true rfl) rfl (Nat.le_refl _) (fun v18 J18 q18 => ?_)
        obtain ⟨q1, rfl, q3⟩ := q18
        refine g_if_le (t1 := 71) (t2 := 24) dL_typesNumber_21 (by decide) rfl (fun h21 => ?_) (fun h21 => ?_)
        · exact absurd h21 (tp_pos (by omega))
        · exact T24 J18 _ q1 q3 (by show S.2.2.1 + 1 + 3 ≤ 80; omega) rfl
/-! a word -/
def wdV : Nat → Int64
  | 1 => 1735552887
  | 2 => 126892433305195
  | 3 => 7170414
  | 4 => 7168376
  | 5 => 120265298635118
  | 6 => 1918987883
  | 7 => 114784769370228
  | 8 => 431198598248
  | _ => 107079749563251
def wdc (w j : Nat) : Int32 := (wdV w >>> ((nI (8 * j)).toInt64 &&& 63) &&& 127).toInt32
def wdn (w j : Nat) : Nat := (wdc w j).toNatClampNeg
def wdL (w : Nat) : Nat → List Nat
  | 0 => []
  | d + 1 => (if wdn w d = 0 then [] else [wdn w d]) ++ wdL w d
theorem wdc_n : ∀ w, w < 10 → ∀ j, j < 8 → wdc w j = nI (wdn w j) ∧ wdn w j < 128 := by decide +kernel
theorem wdL_len (w : Nat) : ∀ d, (wdL w d).length ≤ d
  | 0 => Nat.le_refl _
  | d + 1 => by
    have := wdL_len w d
    unfold wdL
    split
    · rw [List.nil_append]; omega
    · rw [List.length_append]; show 1 + _ ≤ d + 1; omega
theorem wdL_6 : ∀ w, w < 10 → (wdL w 8).length ≤ 6 := by decide +kernel
def kI : Nat → Int32
  | 0 => -8
  | d + 1 => nI (8 * d)
theorem kI_dn : ∀ d, d < 9 → kI (d + 1) + Int32.ofInt (-8) = kI d := by decide +kernel
theorem kI_neg : ∀ d, d < 9 → (kI d < 0 ↔ d = 0) := by decide +kernel
theorem l_word {w : Nat} (h0 : 1 ≤ w) (hw : w < 10) : gPL E fL_word [.int (nI w)] I h (wdV w) := by
  refine gEv.of rfl (Nat.le_refl _) (Nat.le_of_ble_eq_true rfl) (L := [.int (nI w)]) rfl ?_
  refine g_iload_n (i := 0) (t := 1) dL_word_0 rfl rfl rfl ?_
  refine g_sw8 (l := 1) (td := 80) (t0 := 48) (t1 := 52) (t2 := 56) (t3 := 60) (t4 := 64) (t5 := 68) (t6 := 72) (t7 := 76) (by decide) dL_word_1 rfl rfl (by decide) (by decide) (by decide) (by decide) (by decide) (by decide) (by decide) (by decide) (by decide) (fun h1_1 => ?_) (fun h1_2 => ?_) (fun h1_3 => ?_) (fun h1_4 => ?_) (fun h1_5 => ?_) (fun h1_6 => ?_) (fun h1_7 => ?_) (fun h1_8 => ?_) (fun h1_d => ?_)
  · refine g_ldc2 (v := 1735552887) (t := 51) kc_L_17 dL_word_48 rfl ?_
    exact g_retL dL_word_51 rfl (by rw [show w = 1 from (nI_eq (by omega) (by decide)).mp h1_1]; rfl)
  · refine g_ldc2 (v := 126892433305195) (t := 55) kc_L_19 dL_word_52 rfl ?_
    exact g_retL dL_word_55 rfl (by rw [show w = 2 from (nI_eq (by omega) (by decide)).mp h1_2]; rfl)
  · refine g_ldc2 (v := 7170414) (t := 59) kc_L_21 dL_word_56 rfl ?_
    exact g_retL dL_word_59 rfl (by rw [show w = 3 from (nI_eq (by omega) (by decide)).mp h1_3]; rfl)
  · refine g_ldc2 (v := 7168376) (t := 63) kc_L_23 dL_word_60 rfl ?_
    exact g_retL dL_word_63 rfl (by rw [show w = 4 from (nI_eq (by omega) (by decide)).mp h1_4]; rfl)
  · refine g_ldc2 (v := 120265298635118) (t := 67) kc_L_25 dL_word_64 rfl ?_
    exact g_retL dL_word_67 rfl (by rw [show w = 5 from (nI_eq (by omega) (by decide)).mp h1_5]; rfl)
  · refine g_ldc2 (v := 1918987883) (t := 71) kc_L_27 dL_word_68 rfl ?_
    exact g_retL dL_word_71 rfl (by rw [show w = 6 from (nI_eq (by omega) (by decide)).mp h1_6]; rfl)
  · refine g_ldc2 (v := 114784769370228) (t := 75) kc_L_29 dL_word_72 rfl ?_
    exact g_retL dL_word_75 rfl (by rw [show w = 7 from (nI_eq (by omega) (by decide)).mp h1_7]; rfl)
  · refine g_ldc2 (v := 431198598248) (t := 79) kc_L_31 dL_word_76 rfl ?_
    exact g_retL dL_word_79 rfl (by rw [show w = 8 from (nI_eq (by omega) (by decide)).mp h1_8]; rfl)
  · refine g_ldc2 (v := 107079749563251) (t := 83) kc_L_33 dL_word_80 rfl ?_
    exact g_retL dL_word_83 rfl (by
    have h9 : w = 9 := by
      have k : ∀ j, j < 8 → ¬ w = 1 + j := fun j hj e => h1_d j hj (congrArg nI e)
      have a0 := k 0 (by decide)
      have a1 := k 1 (by decide)
      have a2 := k 2 (by decide)
      have a3 := k 3 (by decide)
      have a4 := k 4 (by decide)
      have a5 := k 5 (by decide)
      have a6 := k 6 (by decide)
      have a7 := k 7 (by decide)
      omega
    rw [h9]; rfl)
theorem l_sp_loop {w : Nat} (hw : w < 10) {I0 : Nat → Nat → Int32} : ∀ (d : Nat) (I : Nat → Nat → Int32) (T : tT) (v5 : Value), d < 9 → gSame CL I0 I → rX I (tS S T) → T.1 + d ≤ 80 → Wp E fL_spells (gn h) 6 [.ref 0, .long (wdV w), .null, .int (nI 1), .int (kI d), v5] [] (gM I h) (gRet fL_spells (gn h) (fun r σ' => ∃ (v : Int32) (I' : Nat → Nat → Int32), r = some (.int v) ∧ σ' = gM I' h ∧ gSame CL I0 I' ∧ v = nI 1 ∧ rX I' (tS S (apL T (wdL w d))))) := by
  intro d
  induction d with
  | zero =>
    intro I T v5 hd hs hX hT
    refine g_iload (i := 4) (t := 8) dL_spells_6 rfl rfl ?_
    refine g_if_lt (t1 := 52) (t2 := 11) dL_spells_8 (by decide) rfl (fun h8 => ?_) (fun h8 => ?_)
    · refine g_iload_n (i := 3) (t := 53) dL_spells_52 rfl rfl rfl ?_
      exact g_retI dL_spells_53 rfl (by decide +kernel) (⟨hs, rfl, hX⟩)
    · exact absurd (by decide +kernel) h8
  | succ d ih =>
    intro I T v5 hd hs hX hT
    obtain ⟨c1, c2⟩ := wdc_n w hw d (by omega)
    refine g_iload (i := 4) (t := 8) dL_spells_6 rfl rfl ?_
    refine g_if_lt (t1 := 52) (t2 := 11) dL_spells_8 (by decide) rfl (fun h8 => ?_) (fun h8 => ?_)
    · exact absurd ((kI_neg (d + 1) hd).mp h8) (Nat.succ_ne_zero d)
    · refine g_lload_n (i := 1) (t := 12) dL_spells_11 rfl rfl rfl ?_
      refine g_iload (i := 4) (t := 14) dL_spells_12 rfl rfl ?_
      refine g_lshr (t := 15) dL_spells_14 rfl ?_
      refine g_ldc2 (v := 127) (t := 18) kc_L_15 dL_spells_15 rfl ?_
      refine g_land (t := 19) dL_spells_18 rfl ?_
      refine g_l2i (t := 20) dL_spells_19 rfl ?_
      refine g_top (y := nI (wdn w d)) c1 ?_
      refine g_istore (i := 5) (t := 22) (L1 := [_, _, _, _, _, _]) dL_spells_20 (by decide) rfl rfl rfl ?_
      refine g_iload_n (i := 3) (t := 23) dL_spells_22 rfl rfl rfl ?_
      refine g_if_eq (t1 := 44) (t2 := 26) dL_spells_23 (by decide) rfl (fun h23 => ?_) (fun h23 => ?_)
      · exact absurd h23 (by decide)
      · refine g_iload (i := 5) (t := 28) dL_spells_26 rfl rfl ?_
        refine g_if_eq (t1 := 40) (t2 := 31) dL_spells_28 (by decide) rfl (fun h28 => ?_) (fun h28 => ?_)
        · have e0 : wdn w d = 0 := (nI_eq (by omega) (by decide)).mp (h28.trans nI_0.symm)
          refine g_iconst (t := 41) dL_spells_40 c_iconst_1 rfl ?_
          refine g_goto (t := 45) dL_spells_41 (by decide) ?_
          refine g_istore_n (i := 3) (t := 46) (L1 := [_, _, _, _, _, _]) dL_spells_45 rfl (by decide) rfl rfl rfl ?_
          refine g_iinc (i := 4) (t := 49) (L1 := [_, _, _, _, _, _]) dL_spells_46 rfl (kI_dn d (by omega)) (by decide) rfl rfl rfl ?_
          refine g_goto (t := 6) dL_spells_49 (by decide) ?_
          first
          | (have ed : wdL w (d + 1) = wdL w d := by rw [wdL, if_pos e0]; rfl
             rw [ed]
             exact ih I T _ (by omega) hs hX (by omega))
          | (have ed : wdL w (d + 1) = wdn w d :: wdL w d := by rw [wdL, if_neg e0]; rfl
             rw [ed]
             exact ih J34 (apT T (nI (wdn w d))) _ (by omega) (hs.trans q1) q3 (by show T.1 + 1 + d ≤ 80; omega))
          | done
        · have e0 : ¬ wdn w d = 0 := fun z => h28 (by rw [z]; rfl)
          refine g_aload_n (i := 0) (r := 0) (t := 32) dL_spells_31 rfl rfl (Or.inl l9_0) rfl ?_
          refine g_iload (i := 5) (t := 34) dL_spells_32 rfl rfl ?_
          refine g_cVi (o := 0) (t := 37) mX6_type k_L_9 imX6_type seX6_type l6_0 l9_0 s_0 rfl dL_spells_34 (x6_typeQ rfl hX c2 (by show T.1 < 80; omega)) rfl rfl (by decide) (by decide) (Nat.le_of_ble_eq_true rfl) rfl (Nat.le_refl _) (fun v34 J34 q34 => ?_)
          obtain ⟨q1, rfl, q3⟩ := q34
          refine g_if_le (t1 := 44) (t2 := 40) dL_spells_37 (by decide) rfl (fun h37 => ?_) (fun h37 => ?_)
          · exact absurd h37 (tp_pos (by show T.1 < 1000; omega))
          · refine g_iconst (t := 41) dL_spells_40 c_iconst_1 rfl ?_
            refine g_goto (t := 45) dL_spells_41 (by decide) ?_
            refine g_istore_n (i := 3) (t := 46) (L1 := [_, _, _, _, _, _]) dL_spells_45 rfl (by decide) rfl rfl rfl ?_
            refine g_iinc (i := 4) (t := 49) (L1 := [_, _, _, _, _, _]) dL_spells_46 rfl (kI_dn d (by omega)) (by decide) rfl rfl rfl ?_
            refine g_goto (t := 6) dL_spells_49 (by decide) ?_
            first
            | (have ed : wdL w (d + 1) = wdL w d := by rw [wdL, if_pos e0]; rfl
               rw [ed]
               exact ih I T _ (by omega) hs hX (by omega))
            | (have ed : wdL w (d + 1) = wdn w d :: wdL w d := by rw [wdL, if_neg e0]; rfl
               rw [ed]
               exact ih J34 (apT T (nI (wdn w d))) _ (by omega) (hs.trans q1) q3 (by show T.1 + 1 + d ≤ 80; omega))
            | done
theorem l_spells {w : Nat} (hw : w < 10) (hX : rX I S) (hT : S.2.2.1 + 8 ≤ 80) : gQI E fL_spells [.ref 0, .long (wdV w)] I h (fun v I' => gSame CL I I' ∧ v = nI 1 ∧ rX I' (tS S (apL S.2.2 (wdL w 8)))) := by
  refine gEv.of rfl (Nat.le_refl _) (Nat.le_of_ble_eq_true rfl) (L := [.ref 0, .long (wdV w), .null, .null, .null, .null]) rfl ?_
  have T := l_sp_loop (E := E) (h := h) (S := S) hw 8 I S.2.2 .null (by decide) gSame.rf hX hT
  refine g_iconst (t := 1) dL_spells_0 c_iconst_1 rfl ?_
  refine g_istore_n (i := 3) (t := 2) (L1 := [_, _, _, _, _, _]) dL_spells_1 rfl (by decide) rfl rfl rfl ?_
  refine g_bipush (t := 4) dL_spells_2 c_bipush_56 rfl ?_
  refine g_istore (i := 4) (t := 6) (L1 := [_, _, _, _, _, _]) dL_spells_4 (by decide) rfl rfl rfl ?_
  exact T
end TYP

