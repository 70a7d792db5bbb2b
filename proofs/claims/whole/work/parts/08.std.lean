/-- the references, once all is made -/
def gR0L : List (List (Option Nat)) := [[some 1, some 4, some 7, some 11, some 18, some 27, some 32], [some 2, some 3], [], [], [none, some 5, some 6], [], [], [none, none, some 8, some 9, some 10], [], [], [], [none, some 12, some 13, some 14, some 15, some 16, some 17, some 4], [], [], [], [], [], [], [none, some 19, some 20, some 21, some 22, some 23, some 24, some 25, some 26, some 4, some 11], [], [], [], [], [], [], [], [], [none, some 28, some 29, some 30, some 31, some 4, some 11, some 18], [], [], [], [], [none, some 33, some 34, some 35, some 36, some 37, some 38, some 39, some 40, some 4, some 11], [], [], [], [], [], [], [], [], [some 42, some 43, none, some 44, none, none, none, some 45, some 46, none, some 47, some 48, some 49, none, some 50, some 51, some 52, some 53, some 54, some 55, some 56, some 57, some 58, some 59, some 60, some 61], [], [], [], [], [], [], [], [], [], [], [], [], [], [], [], [], [], [], [], []]
def gR0 (o k : Nat) : Option Nat := (gR0L.getD o []).getD k none
abbrev gM (I : Nat → Nat → Int32) (h : Int64) : gS := (62, I, gR0, h)
theorem r_0_0 : gR0 0 0 = some 1 := rfl
theorem r_0_1 : gR0 0 1 = some 4 := rfl
theorem r_0_2 : gR0 0 2 = some 7 := rfl
theorem r_0_3 : gR0 0 3 = some 11 := rfl
theorem r_0_4 : gR0 0 4 = some 18 := rfl
theorem r_0_5 : gR0 0 5 = some 27 := rfl
theorem r_0_6 : gR0 0 6 = some 32 := rfl
theorem r_1_0 : gR0 1 0 = some 2 := rfl
theorem r_1_1 : gR0 1 1 = some 3 := rfl
theorem r_4_1 : gR0 4 1 = some 5 := rfl
theorem r_4_2 : gR0 4 2 = some 6 := rfl
theorem r_7_2 : gR0 7 2 = some 8 := rfl
theorem r_7_3 : gR0 7 3 = some 9 := rfl
theorem r_7_4 : gR0 7 4 = some 10 := rfl
theorem r_11_1 : gR0 11 1 = some 12 := rfl
theorem r_11_2 : gR0 11 2 = some 13 := rfl
theorem r_11_3 : gR0 11 3 = some 14 := rfl
theorem r_11_4 : gR0 11 4 = some 15 := rfl
theorem r_11_5 : gR0 11 5 = some 16 := rfl
theorem r_11_6 : gR0 11 6 = some 17 := rfl
theorem r_11_7 : gR0 11 7 = some 4 := rfl
theorem r_18_1 : gR0 18 1 = some 19 := rfl
theorem r_18_2 : gR0 18 2 = some 20 := rfl
theorem r_18_3 : gR0 18 3 = some 21 := rfl
theorem r_18_4 : gR0 18 4 = some 22 := rfl
theorem r_18_5 : gR0 18 5 = some 23 := rfl
theorem r_18_6 : gR0 18 6 = some 24 := rfl
theorem r_18_7 : gR0 18 7 = some 25 := rfl
theorem r_18_8 : gR0 18 8 = some 26 := rfl
theorem r_18_9 : gR0 18 9 = some 4 := rfl
theorem r_18_10 : gR0 18 10 = some 11 := rfl
theorem r_27_1 : gR0 27 1 = some 28 := rfl
theorem r_27_2 : gR0 27 2 = some 29 := rfl
theorem r_27_3 : gR0 27 3 = some 30 := rfl
theorem r_27_4 : gR0 27 4 = some 31 := rfl
theorem r_27_5 : gR0 27 5 = some 4 := rfl
theorem r_27_6 : gR0 27 6 = some 11 := rfl
theorem r_27_7 : gR0 27 7 = some 18 := rfl
theorem r_32_1 : gR0 32 1 = some 33 := rfl
theorem r_32_2 : gR0 32 2 = some 34 := rfl
theorem r_32_3 : gR0 32 3 = some 35 := rfl
theorem r_32_4 : gR0 32 4 = some 36 := rfl
theorem r_32_5 : gR0 32 5 = some 37 := rfl
theorem r_32_6 : gR0 32 6 = some 38 := rfl
theorem r_32_7 : gR0 32 7 = some 39 := rfl
theorem r_32_8 : gR0 32 8 = some 40 := rfl
theorem r_32_9 : gR0 32 9 = some 4 := rfl
theorem r_32_10 : gR0 32 10 = some 11 := rfl
theorem r_41_0 : gR0 41 0 = some 42 := rfl
theorem r_41_1 : gR0 41 1 = some 43 := rfl
theorem r_41_3 : gR0 41 3 = some 44 := rfl
theorem r_41_7 : gR0 41 7 = some 45 := rfl
theorem r_41_8 : gR0 41 8 = some 46 := rfl
theorem r_41_10 : gR0 41 10 = some 47 := rfl
theorem r_41_11 : gR0 41 11 = some 48 := rfl
theorem r_41_12 : gR0 41 12 = some 49 := rfl
theorem r_41_14 : gR0 41 14 = some 50 := rfl
theorem r_41_15 : gR0 41 15 = some 51 := rfl
theorem r_41_16 : gR0 41 16 = some 52 := rfl
theorem r_41_17 : gR0 41 17 = some 53 := rfl
theorem r_41_18 : gR0 41 18 = some 54 := rfl
theorem r_41_19 : gR0 41 19 = some 55 := rfl
theorem r_41_20 : gR0 41 20 = some 56 := rfl
theorem r_41_21 : gR0 41 21 = some 57 := rfl
theorem r_41_22 : gR0 41 22 = some 58 := rfl
theorem r_41_23 : gR0 41 23 = some 59 := rfl
theorem r_41_24 : gR0 41 24 = some 60 := rfl
theorem r_41_25 : gR0 41 25 = some 61 := rfl
theorem s_0 : gsh 0 = .inl 6 := rfl
theorem l6_0 : 0 < 62 := by decide
theorem l9_0 : 0 < 1000 := by decide
theorem s_1 : gsh 1 = .inl 5 := rfl
theorem l6_1 : 1 < 62 := by decide
theorem l9_1 : 1 < 1000 := by decide
theorem s_2 : gsh 2 = .inr (1, 80) := rfl
theorem l6_2 : 2 < 62 := by decide
theorem l9_2 : 2 < 1000 := by decide
theorem s_3 : gsh 3 = .inr (0, 10) := rfl
theorem l6_3 : 3 < 62 := by decide
theorem l9_3 : 3 < 1000 := by decide
theorem s_4 : gsh 4 = .inl 4 := rfl
theorem l6_4 : 4 < 62 := by decide
theorem l9_4 : 4 < 1000 := by decide
theorem s_5 : gsh 5 = .inr (0, 7) := rfl
theorem l6_5 : 5 < 62 := by decide
theorem l9_5 : 5 < 1000 := by decide
theorem s_6 : gsh 6 = .inr (0, 176) := rfl
theorem l6_6 : 6 < 62 := by decide
theorem l9_6 : 6 < 1000 := by decide
theorem s_7 : gsh 7 = .inl 0 := rfl
theorem l6_7 : 7 < 62 := by decide
theorem l9_7 : 7 < 1000 := by decide
theorem s_8 : gsh 8 = .inr (0, 8) := rfl
theorem l6_8 : 8 < 62 := by decide
theorem l9_8 : 8 < 1000 := by decide
theorem s_9 : gsh 9 = .inr (0, 56) := rfl
theorem l6_9 : 9 < 62 := by decide
theorem l9_9 : 9 < 1000 := by decide
theorem s_10 : gsh 10 = .inr (0, 1408) := rfl
theorem l6_10 : 10 < 62 := by decide
theorem l9_10 : 10 < 1000 := by decide
theorem s_11 : gsh 11 = .inl 2 := rfl
theorem l6_11 : 11 < 62 := by decide
theorem l9_11 : 11 < 1000 := by decide
theorem s_12 : gsh 12 = .inr (0, 16) := rfl
theorem l6_12 : 12 < 62 := by decide
theorem l9_12 : 12 < 1000 := by decide
theorem s_13 : gsh 13 = .inr (0, 16) := rfl
theorem l6_13 : 13 < 62 := by decide
theorem l9_13 : 13 < 1000 := by decide
theorem s_14 : gsh 14 = .inr (0, 16) := rfl
theorem l6_14 : 14 < 62 := by decide
theorem l9_14 : 14 < 1000 := by decide
theorem s_15 : gsh 15 = .inr (0, 16) := rfl
theorem l6_15 : 15 < 62 := by decide
theorem l9_15 : 15 < 1000 := by decide
theorem s_16 : gsh 16 = .inr (0, 16) := rfl
theorem l6_16 : 16 < 62 := by decide
theorem l9_16 : 16 < 1000 := by decide
theorem s_17 : gsh 17 = .inr (0, 16) := rfl
theorem l6_17 : 17 < 62 := by decide
theorem l9_17 : 17 < 1000 := by decide
theorem s_18 : gsh 18 = .inl 1 := rfl
theorem l6_18 : 18 < 62 := by decide
theorem l9_18 : 18 < 1000 := by decide
theorem s_19 : gsh 19 = .inr (0, 16) := rfl
theorem l6_19 : 19 < 62 := by decide
theorem l9_19 : 19 < 1000 := by decide
theorem s_20 : gsh 20 = .inr (0, 16) := rfl
theorem l6_20 : 20 < 62 := by decide
theorem l9_20 : 20 < 1000 := by decide
theorem s_21 : gsh 21 = .inr (0, 16) := rfl
theorem l6_21 : 21 < 62 := by decide
theorem l9_21 : 21 < 1000 := by decide
theorem s_22 : gsh 22 = .inr (0, 16) := rfl
theorem l6_22 : 22 < 62 := by decide
theorem l9_22 : 22 < 1000 := by decide
theorem s_23 : gsh 23 = .inr (2, 16) := rfl
theorem l6_23 : 23 < 62 := by decide
theorem l9_23 : 23 < 1000 := by decide
theorem s_24 : gsh 24 = .inr (0, 16) := rfl
theorem l6_24 : 24 < 62 := by decide
theorem l9_24 : 24 < 1000 := by decide
theorem s_25 : gsh 25 = .inr (0, 16) := rfl
theorem l6_25 : 25 < 62 := by decide
theorem l9_25 : 25 < 1000 := by decide
theorem s_26 : gsh 26 = .inr (0, 16) := rfl
theorem l6_26 : 26 < 62 := by decide
theorem l9_26 : 26 < 1000 := by decide
theorem s_27 : gsh 27 = .inl 3 := rfl
theorem l6_27 : 27 < 62 := by decide
theorem l9_27 : 27 < 1000 := by decide
theorem s_28 : gsh 28 = .inr (0, 16) := rfl
theorem l6_28 : 28 < 62 := by decide
theorem l9_28 : 28 < 1000 := by decide
theorem s_29 : gsh 29 = .inr (0, 16) := rfl
theorem l6_29 : 29 < 62 := by decide
theorem l9_29 : 29 < 1000 := by decide
theorem s_30 : gsh 30 = .inr (0, 16) := rfl
theorem l6_30 : 30 < 62 := by decide
theorem l9_30 : 30 < 1000 := by decide
theorem s_31 : gsh 31 = .inr (0, 16) := rfl
theorem l6_31 : 31 < 62 := by decide
theorem l9_31 : 31 < 1000 := by decide
theorem s_32 : gsh 32 = .inl 1 := rfl
theorem l6_32 : 32 < 62 := by decide
theorem l9_32 : 32 < 1000 := by decide
theorem s_33 : gsh 33 = .inr (0, 16) := rfl
theorem l6_33 : 33 < 62 := by decide
theorem l9_33 : 33 < 1000 := by decide
theorem s_34 : gsh 34 = .inr (0, 16) := rfl
theorem l6_34 : 34 < 62 := by decide
theorem l9_34 : 34 < 1000 := by decide
theorem s_35 : gsh 35 = .inr (0, 16) := rfl
theorem l6_35 : 35 < 62 := by decide
theorem l9_35 : 35 < 1000 := by decide
theorem s_36 : gsh 36 = .inr (0, 16) := rfl
theorem l6_36 : 36 < 62 := by decide
theorem l9_36 : 36 < 1000 := by decide
theorem s_37 : gsh 37 = .inr (2, 16) := rfl
theorem l6_37 : 37 < 62 := by decide
theorem l9_37 : 37 < 1000 := by decide
theorem s_38 : gsh 38 = .inr (0, 16) := rfl
theorem l6_38 : 38 < 62 := by decide
theorem l9_38 : 38 < 1000 := by decide
theorem s_39 : gsh 39 = .inr (0, 16) := rfl
theorem l6_39 : 39 < 62 := by decide
theorem l9_39 : 39 < 1000 := by decide
theorem s_40 : gsh 40 = .inr (0, 16) := rfl
theorem l6_40 : 40 < 62 := by decide
theorem l9_40 : 40 < 1000 := by decide
theorem s_41 : gsh 41 = .inl 7 := rfl
theorem l6_41 : 41 < 62 := by decide
theorem l9_41 : 41 < 1000 := by decide
theorem s_42 : gsh 42 = .inr (0, 184) := rfl
theorem l6_42 : 42 < 62 := by decide
theorem l9_42 : 42 < 1000 := by decide
theorem s_43 : gsh 43 = .inr (0, 1472) := rfl
theorem l6_43 : 43 < 62 := by decide
theorem l9_43 : 43 < 1000 := by decide
theorem s_44 : gsh 44 = .inr (0, 80) := rfl
theorem l6_44 : 44 < 62 := by decide
theorem l9_44 : 44 < 1000 := by decide
theorem s_45 : gsh 45 = .inr (0, 11) := rfl
theorem l6_45 : 45 < 62 := by decide
theorem l9_45 : 45 < 1000 := by decide
theorem s_46 : gsh 46 = .inr (0, 16) := rfl
theorem l6_46 : 46 < 62 := by decide
theorem l9_46 : 46 < 1000 := by decide
theorem s_47 : gsh 47 = .inr (0, 16) := rfl
theorem l6_47 : 47 < 62 := by decide
theorem l9_47 : 47 < 1000 := by decide
theorem s_48 : gsh 48 = .inr (0, 16) := rfl
theorem l6_48 : 48 < 62 := by decide
theorem l9_48 : 48 < 1000 := by decide
theorem s_49 : gsh 49 = .inr (0, 16) := rfl
theorem l6_49 : 49 < 62 := by decide
theorem l9_49 : 49 < 1000 := by decide
theorem s_50 : gsh 50 = .inr (0, 16) := rfl
theorem l6_50 : 50 < 62 := by decide
theorem l9_50 : 50 < 1000 := by decide
theorem s_51 : gsh 51 = .inr (0, 16) := rfl
theorem l6_51 : 51 < 62 := by decide
theorem l9_51 : 51 < 1000 := by decide
theorem s_52 : gsh 52 = .inr (0, 16) := rfl
theorem l6_52 : 52 < 62 := by decide
theorem l9_52 : 52 < 1000 := by decide
theorem s_53 : gsh 53 = .inr (2, 16) := rfl
theorem l6_53 : 53 < 62 := by decide
theorem l9_53 : 53 < 1000 := by decide
theorem s_54 : gsh 54 = .inr (0, 16) := rfl
theorem l6_54 : 54 < 62 := by decide
theorem l9_54 : 54 < 1000 := by decide
theorem s_55 : gsh 55 = .inr (0, 16) := rfl
theorem l6_55 : 55 < 62 := by decide
theorem l9_55 : 55 < 1000 := by decide
theorem s_56 : gsh 56 = .inr (0, 16) := rfl
theorem l6_56 : 56 < 62 := by decide
theorem l9_56 : 56 < 1000 := by decide
theorem s_57 : gsh 57 = .inr (2, 16) := rfl
theorem l6_57 : 57 < 62 := by decide
theorem l9_57 : 57 < 1000 := by decide
theorem s_58 : gsh 58 = .inr (0, 16) := rfl
theorem l6_58 : 58 < 62 := by decide
theorem l9_58 : 58 < 1000 := by decide
theorem s_59 : gsh 59 = .inr (0, 16) := rfl
theorem l6_59 : 59 < 62 := by decide
theorem l9_59 : 59 < 1000 := by decide
theorem s_60 : gsh 60 = .inr (0, 16) := rfl
theorem l6_60 : 60 < 62 := by decide
theorem l9_60 : 60 < 1000 := by decide
theorem s_61 : gsh 61 = .inr (0, 16) := rfl
theorem l6_61 : 61 < 62 := by decide
theorem l9_61 : 61 < 1000 := by decide
theorem c_bipush_m49 : (Int8.ofInt (-49)).toInt32 = (-49) := by decide +kernel
theorem c_bipush_m9 : (Int8.ofInt (-9)).toInt32 = (-9) := by decide +kernel
theorem c_bipush_6 : (Int8.ofInt (6)).toInt32 = nI 6 := by decide +kernel
theorem c_bipush_7 : (Int8.ofInt (7)).toInt32 = nI 7 := by decide +kernel
theorem c_bipush_8 : (Int8.ofInt (8)).toInt32 = nI 8 := by decide +kernel
theorem c_bipush_9 : (Int8.ofInt (9)).toInt32 = nI 9 := by decide +kernel
theorem c_bipush_10 : (Int8.ofInt (10)).toInt32 = nI 10 := by decide +kernel
theorem c_bipush_11 : (Int8.ofInt (11)).toInt32 = nI 11 := by decide +kernel
theorem c_bipush_12 : (Int8.ofInt (12)).toInt32 = nI 12 := by decide +kernel
theorem c_bipush_13 : (Int8.ofInt (13)).toInt32 = nI 13 := by decide +kernel
theorem c_bipush_14 : (Int8.ofInt (14)).toInt32 = nI 14 := by decide +kernel
theorem c_bipush_16 : (Int8.ofInt (16)).toInt32 = nI 16 := by decide +kernel
theorem c_bipush_20 : (Int8.ofInt (20)).toInt32 = nI 20 := by decide +kernel
theorem c_bipush_31 : (Int8.ofInt (31)).toInt32 = nI 31 := by decide +kernel
theorem c_bipush_32 : (Int8.ofInt (32)).toInt32 = nI 32 := by decide +kernel
theorem c_bipush_40 : (Int8.ofInt (40)).toInt32 = nI 40 := by decide +kernel
theorem c_bipush_45 : (Int8.ofInt (45)).toInt32 = nI 45 := by decide +kernel
theorem c_bipush_48 : (Int8.ofInt (48)).toInt32 = nI 48 := by decide +kernel
theorem c_bipush_50 : (Int8.ofInt (50)).toInt32 = nI 50 := by decide +kernel
theorem c_bipush_56 : (Int8.ofInt (56)).toInt32 = nI 56 := by decide +kernel
theorem c_bipush_57 : (Int8.ofInt (57)).toInt32 = nI 57 := by decide +kernel
theorem c_bipush_80 : (Int8.ofInt (80)).toInt32 = nI 80 := by decide +kernel
theorem c_bipush_97 : (Int8.ofInt (97)).toInt32 = nI 97 := by decide +kernel
theorem c_bipush_100 : (Int8.ofInt (100)).toInt32 = nI 100 := by decide +kernel
theorem c_bipush_122 : (Int8.ofInt (122)).toInt32 = nI 122 := by decide +kernel
theorem c_bipush_127 : (Int8.ofInt (127)).toInt32 = nI 127 := by decide +kernel
theorem c_iconst_m1 : Int32.ofInt (-1) = (-1) := by decide +kernel
theorem c_iconst_0 : Int32.ofInt (0) = nI 0 := by decide +kernel
theorem c_iconst_1 : Int32.ofInt (1) = nI 1 := by decide +kernel
theorem c_iconst_2 : Int32.ofInt (2) = nI 2 := by decide +kernel
theorem c_iconst_3 : Int32.ofInt (3) = nI 3 := by decide +kernel
theorem c_iconst_4 : Int32.ofInt (4) = nI 4 := by decide +kernel
theorem c_iconst_5 : Int32.ofInt (5) = nI 5 := by decide +kernel
theorem c_sipush_m2000 : (Int16.ofInt (-2000)).toInt32 = (-2000) := by decide +kernel
theorem c_sipush_m1004 : (Int16.ofInt (-1004)).toInt32 = (-1004) := by decide +kernel
theorem c_sipush_m1003 : (Int16.ofInt (-1003)).toInt32 = (-1003) := by decide +kernel
theorem c_sipush_m1002 : (Int16.ofInt (-1002)).toInt32 = (-1002) := by decide +kernel
theorem c_sipush_m1001 : (Int16.ofInt (-1001)).toInt32 = (-1001) := by decide +kernel
theorem c_sipush_176 : (Int16.ofInt (176)).toInt32 = nI 176 := by decide +kernel
theorem c_sipush_177 : (Int16.ofInt (177)).toInt32 = nI 177 := by decide +kernel
theorem c_sipush_178 : (Int16.ofInt (178)).toInt32 = nI 178 := by decide +kernel
theorem c_sipush_179 : (Int16.ofInt (179)).toInt32 = nI 179 := by decide +kernel
theorem c_sipush_180 : (Int16.ofInt (180)).toInt32 = nI 180 := by decide +kernel
theorem c_sipush_181 : (Int16.ofInt (181)).toInt32 = nI 181 := by decide +kernel
theorem c_sipush_182 : (Int16.ofInt (182)).toInt32 = nI 182 := by decide +kernel
theorem c_sipush_183 : (Int16.ofInt (183)).toInt32 = nI 183 := by decide +kernel
theorem c_sipush_184 : (Int16.ofInt (184)).toInt32 = nI 184 := by decide +kernel
theorem c_sipush_255 : (Int16.ofInt (255)).toInt32 = nI 255 := by decide +kernel
theorem c_sipush_300 : (Int16.ofInt (300)).toInt32 = nI 300 := by decide +kernel
theorem c_sipush_400 : (Int16.ofInt (400)).toInt32 = nI 400 := by decide +kernel
theorem c_sipush_999 : (Int16.ofInt (999)).toInt32 = nI 999 := by decide +kernel
theorem c_sipush_1288 : (Int16.ofInt (1288)).toInt32 = nI 1288 := by decide +kernel
theorem c_sipush_1408 : (Int16.ofInt (1408)).toInt32 = nI 1408 := by decide +kernel
theorem c_sipush_1472 : (Int16.ofInt (1472)).toInt32 = nI 1472 := by decide +kernel
theorem c_sipush_2000 : (Int16.ofInt (2000)).toInt32 = nI 2000 := by decide +kernel
theorem c_sipush_5000 : (Int16.ofInt (5000)).toInt32 = nI 5000 := by decide +kernel
theorem g0 : (0 : Int32) = nI 0 := nI_0.symm
/-- contracts: a number, nothing changed -/
abbrev gPI (E : gE) (F : gF) (as : List Value) (I : Nat → Nat → Int32) (h : Int64) (v : Int32) : Prop := gEv E F 62 as (gM I h) (fun r σ' => r = some (.int v) ∧ σ' = gM I h)
/-- a number, and what then is held -/
abbrev gQI (E : gE) (F : gF) (as : List Value) (I : Nat → Nat → Int32) (h : Int64) (P : Int32 → (Nat → Nat → Int32) → Prop) : Prop := gEv E F 62 as (gM I h) (fun r σ' => ∃ (v : Int32) (I' : Nat → Nat → Int32), r = some (.int v) ∧ σ' = gM I' h ∧ P v I')
/-- nothing, and what then is held -/
abbrev gQV (E : gE) (F : gF) (as : List Value) (I : Nat → Nat → Int32) (h : Int64) (P : (Nat → Nat → Int32) → Prop) : Prop := gEv E F 62 as (gM I h) (fun r σ' => ∃ I' : Nat → Nat → Int32, r = none ∧ σ' = gM I' h ∧ P I')
theorem gPI.post {E : gE} {F : gF} {as : List Value} {I : Nat → Nat → Int32} {h : Int64} {v : Int32} {P : Int32 → (Nat → Nat → Int32) → Prop} (he : gPI E F as I h v) (hp : P v I) : gQI E F as I h P := gEv.mono he fun r σ' q => ⟨v, I, q.1, q.2, hp⟩
theorem gQI.mono {E : gE} {F : gF} {as : List Value} {I : Nat → Nat → Int32} {h : Int64} {P P2 : Int32 → (Nat → Nat → Int32) → Prop} (he : gQI E F as I h P) (hp : ∀ v I', P v I' → P2 v I') : gQI E F as I h P2 := gEv.mono he fun r σ' ⟨v, I', a, b, c⟩ => ⟨v, I', a, b, hp v I' c⟩
theorem gQV.mono {E : gE} {F : gF} {as : List Value} {I : Nat → Nat → Int32} {h : Int64} {P P2 : (Nat → Nat → Int32) → Prop} (he : gQV E F as I h P) (hp : ∀ I', P I' → P2 I') : gQV E F as I h P2 := gEv.mono he fun r σ' ⟨I', a, b, c⟩ => ⟨I', a, b, hp I' c⟩
section GSTD
variable {E : gE} {F : gF} {pc : Nat} {L st : List Value} {I : Nat → Nat → Int32} {h : Int64} {K : gK}
theorem g_cVp {Fc : gF} {n index t o ci : Nat} {T : u_T} {N : Nat} {as S : List Value} {v : Int32} (hm : gMi Fc n) (hw1 : Cond.methodLink F.1.cls index Fc.1 ∈ gB) (hw2 : Cond.instanceMethod Fc.1 ∈ gB) (hw3 : Cond.selects Fc.1.cls Fc.1 Fc.1 ∈ gB) (ho : o < 62) (h9 : o < 1000) (hsh : gsh o = .inl ci) (hcl : vwCl[ci]? = some (Fc.1.cls, T, N)) (d : decode F.2.1 pc = .ok (.invokevirtual index, 3)) (he : gPI E Fc (.ref o :: as) I h v) (hn : as.length = n) (hS : S = as.reverse ++ .ref o :: st) (hfr : Fc.2.2.2.2.1 + 1 ≤ F.2.2.2.2.1) (hlo : 8 + (Fc.2.2.1 + 11) + Fc.2.2.2.2.2 ≤ F.2.2.2.2.2) (hst : (st.map fun v => v.category).sum ≤ 8) (e : pc + 3 = t) (kk : Wp E F 62 t L (.int v :: st) (gM I h) K) : Wp E F 62 pc L S (gM I h) K :=
  g_callV hm hw1 hw2 hw3 ho h9 hsh hcl he hn hS (Nat.le_refl _) hfr hlo hst d e fun r σ' q _ => by obtain ⟨rfl, rfl⟩ := q; exact kk
theorem g_cVi {Fc : gF} {n index t o ci : Nat} {T : u_T} {N : Nat} {as S : List Value} {P : Int32 → (Nat → Nat → Int32) → Prop} (hm : gMi Fc n) (hw1 : Cond.methodLink F.1.cls index Fc.1 ∈ gB) (hw2 : Cond.instanceMethod Fc.1 ∈ gB) (hw3 : Cond.selects Fc.1.cls Fc.1 Fc.1 ∈ gB) (ho : o < 62) (h9 : o < 1000) (hsh : gsh o = .inl ci) (hcl : vwCl[ci]? = some (Fc.1.cls, T, N)) (d : decode F.2.1 pc = .ok (.invokevirtual index, 3)) (he : gQI E Fc (.ref o :: as) I h P) (hn : as.length = n) (hS : S = as.reverse ++ .ref o :: st) (hfr : Fc.2.2.2.2.1 + 1 ≤ F.2.2.2.2.1) (hlo : 8 + (Fc.2.2.1 + 11) + Fc.2.2.2.2.2 ≤ F.2.2.2.2.2) (hst : (st.map fun v => v.category).sum ≤ 8) (e : pc + 3 = t) (kk : ∀ (v : Int32) (I' : Nat → Nat → Int32), P v I' → Wp E F 62 t L (.int v :: st) (gM I' h) K) : Wp E F 62 pc L S (gM I h) K :=
  g_callV hm hw1 hw2 hw3 ho h9 hsh hcl he hn hS (Nat.le_refl _) hfr hlo hst d e fun r σ' q _ => by obtain ⟨v, I', rfl, rfl, q⟩ := q; exact kk v I' q
theorem g_cVv {Fc : gF} {n index t o ci : Nat} {T : u_T} {N : Nat} {as S : List Value} {P : (Nat → Nat → Int32) → Prop} (hm : gMi Fc n) (hw1 : Cond.methodLink F.1.cls index Fc.1 ∈ gB) (hw2 : Cond.instanceMethod Fc.1 ∈ gB) (hw3 : Cond.selects Fc.1.cls Fc.1 Fc.1 ∈ gB) (ho : o < 62) (h9 : o < 1000) (hsh : gsh o = .inl ci) (hcl : vwCl[ci]? = some (Fc.1.cls, T, N)) (d : decode F.2.1 pc = .ok (.invokevirtual index, 3)) (he : gQV E Fc (.ref o :: as) I h P) (hn : as.length = n) (hS : S = as.reverse ++ .ref o :: st) (hfr : Fc.2.2.2.2.1 + 1 ≤ F.2.2.2.2.1) (hlo : 8 + (Fc.2.2.1 + 11) + Fc.2.2.2.2.2 ≤ F.2.2.2.2.2) (hst : (st.map fun v => v.category).sum ≤ 8) (e : pc + 3 = t) (kk : ∀ I' : Nat → Nat → Int32, P I' → Wp E F 62 t L st (gM I' h) K) : Wp E F 62 pc L S (gM I h) K :=
  g_callV hm hw1 hw2 hw3 ho h9 hsh hcl he hn hS (Nat.le_refl _) hfr hlo hst d e fun r σ' q _ => by obtain ⟨I', rfl, rfl, q⟩ := q; exact kk I' q
theorem g_cSp {Fc : gF} {n index t : Nat} {as S : List Value} {v : Int32} (hm : gMi Fc n) (hw1 : Cond.methodLink F.1.cls index Fc.1 ∈ gB) (hw2 : Cond.static Fc.1 ∈ gB) (d : decode F.2.1 pc = .ok (.invokestatic index, 3)) (he : gPI E Fc as I h v) (hn : as.length = n) (hS : S = as.reverse ++ st) (hfr : Fc.2.2.2.2.1 + 1 ≤ F.2.2.2.2.1) (hlo : 8 + (Fc.2.2.1 + 11) + Fc.2.2.2.2.2 ≤ F.2.2.2.2.2) (hst : (st.map fun v => v.category).sum ≤ 8) (e : pc + 3 = t) (kk : Wp E F 62 t L (.int v :: st) (gM I h) K) : Wp E F 62 pc L S (gM I h) K :=
  g_callS hm hw1 hw2 he hn hS (Nat.le_refl _) hfr hlo hst d e fun r σ' q _ => by obtain ⟨rfl, rfl⟩ := q; exact kk
theorem g_cTp {Fc : gF} {n index t r i : Nat} {q : Nat × String × List Int32} {as S : List Value} {v : Int32} (hm : gMi Fc n) (hw1 : Cond.methodLink F.1.cls index Fc.1 ∈ gB) (hw2 : Cond.instanceMethod Fc.1 ∈ gB) (hw3 : Cond.selects Fc.1.cls Fc.1 Fc.1 ∈ gB) (hi : gtx[i]? = some q) (hr : r = 1010 + i) (hcl : Fc.1.cls = "java/lang/String") (d : decode F.2.1 pc = .ok (.invokevirtual index, 3)) (he : gPI E Fc (.ref r :: as) I h v) (hn : as.length = n) (hS : S = as.reverse ++ .ref r :: st) (hfr : Fc.2.2.2.2.1 + 1 ≤ F.2.2.2.2.1) (hlo : 8 + (Fc.2.2.1 + 11) + Fc.2.2.2.2.2 ≤ F.2.2.2.2.2) (hst : (st.map fun v => v.category).sum ≤ 8) (e : pc + 3 = t) (kk : Wp E F 62 t L (.int v :: st) (gM I h) K) : Wp E F 62 pc L S (gM I h) K :=
  g_callVS hm hw1 hw2 hw3 hi hr hcl he hn hS (Nat.le_refl _) hfr hlo hst d e fun r σ' q _ => by obtain ⟨rfl, rfl⟩ := q; exact kk
theorem g_cSi {Fc : gF} {n index t : Nat} {as S : List Value} {P : Int32 → (Nat → Nat → Int32) → Prop} (hm : gMi Fc n) (hw1 : Cond.methodLink F.1.cls index Fc.1 ∈ gB) (hw2 : Cond.static Fc.1 ∈ gB) (d : decode F.2.1 pc = .ok (.invokestatic index, 3)) (he : gQI E Fc as I h P) (hn : as.length = n) (hS : S = as.reverse ++ st) (hfr : Fc.2.2.2.2.1 + 1 ≤ F.2.2.2.2.1) (hlo : 8 + (Fc.2.2.1 + 11) + Fc.2.2.2.2.2 ≤ F.2.2.2.2.2) (hst : (st.map fun v => v.category).sum ≤ 8) (e : pc + 3 = t) (kk : ∀ (v : Int32) (I' : Nat → Nat → Int32), P v I' → Wp E F 62 t L (.int v :: st) (gM I' h) K) : Wp E F 62 pc L S (gM I h) K :=
  g_callS hm hw1 hw2 he hn hS (Nat.le_refl _) hfr hlo hst d e fun r σ' q _ => by obtain ⟨v, I', rfl, rfl, q⟩ := q; exact kk v I' q
theorem g_retP {v v0 : Int32} {ty : FieldType} (d : decode F.2.1 pc = .ok (.ireturn, 1)) (hr : F.2.2.2.1 = some ty) (hn : narrow ty (.int v) = .int v) (hq : v = v0) : Wp E F 62 pc L [.int v] (gM I h) (gRet F 62 (fun r σ' => r = some (.int v0) ∧ σ' = gM I h)) :=
  Wp.here ⟨rfl, Or.inl ⟨d, v, ty, rfl, hr, hn, by rw [hq], rfl⟩⟩
theorem g_retI {v : Int32} {ty : FieldType} {h0 : Int64} {P : Int32 → (Nat → Nat → Int32) → Prop} (d : decode F.2.1 pc = .ok (.ireturn, 1)) (hr : F.2.2.2.1 = some ty) (hn : narrow ty (.int v) = .int v) (hq : P v I) : Wp E F 62 pc L [.int v] (gM I h0) (gRet F 62 (fun r σ' => ∃ (v : Int32) (I' : Nat → Nat → Int32), r = some (.int v) ∧ σ' = gM I' h0 ∧ P v I')) :=
  Wp.here ⟨rfl, Or.inl ⟨d, v, ty, rfl, hr, hn, v, I, rfl, rfl, hq⟩⟩
theorem g_retV {P : (Nat → Nat → Int32) → Prop} (d : decode F.2.1 pc = .ok (.return_, 1)) (hr : F.2.2.2.1 = none) (hq : P I) : Wp E F 62 pc L [] (gM I h) (gRet F 62 (fun r σ' => ∃ I' : Nat → Nat → Int32, r = none ∧ σ' = gM I' h ∧ P I')) :=
  Wp.here ⟨rfl, Or.inr (Or.inl ⟨d, rfl, hr, I, rfl, rfl, hq⟩)⟩
/-- the top of the stack, otherwise said -/
theorem g_top {nE : Nat} {σ : gS} {x y : Int32} (hxy : x = y) (k : Wp E F nE pc L (.int y :: st) σ K) : Wp E F nE pc L (.int x :: st) σ K := hxy ▸ k
theorem g_if {nE : Nat} {σ : gS} {c : Prop} [Decidable c] {x y : Int32} (k : Wp E F nE pc L (.int (if c then x else y) :: st) σ K) (hc : c) : Wp E F nE pc L (.int x :: st) σ K := by rw [if_pos hc] at k; exact k
/-- two numbers compared -/
theorem g_icmp_ge_n {t1 t2 a b nE : Nat} {σ : gS} {off : Int} (d : decode F.2.1 pc = .ok (.if_icmp .ge off, 3)) (ht : (pc : Int) + off = (t1 : Int)) (e : pc + 3 = t2) (ha : a < 2 ^ 31) (hb : b < 2 ^ 31) (kt : b ≤ a → Wp E F nE t1 L st σ K) (kf : a < b → Wp E F nE t2 L st σ K) : Wp E F nE pc L (.int (nI b) :: .int (nI a) :: st) σ K :=
  g_icmp_ge d ht e (fun q => kt ((nI_leI hb ha).mp q)) (fun q => kf (Nat.lt_of_not_le fun z => q ((nI_leI hb ha).mpr z)))
theorem g_icmp_gt_n {t1 t2 a b nE : Nat} {σ : gS} {off : Int} (d : decode F.2.1 pc = .ok (.if_icmp .gt off, 3)) (ht : (pc : Int) + off = (t1 : Int)) (e : pc + 3 = t2) (ha : a < 2 ^ 31) (hb : b < 2 ^ 31) (kt : b < a → Wp E F nE t1 L st σ K) (kf : a ≤ b → Wp E F nE t2 L st σ K) : Wp E F nE pc L (.int (nI b) :: .int (nI a) :: st) σ K :=
  g_icmp_gt d ht e (fun q => kt ((nI_ltI hb ha).mp q)) (fun q => kf (Nat.le_of_not_lt fun z => q ((nI_ltI hb ha).mpr z)))
theorem g_icmp_le_n {t1 t2 a b nE : Nat} {σ : gS} {off : Int} (d : decode F.2.1 pc = .ok (.if_icmp .le off, 3)) (ht : (pc : Int) + off = (t1 : Int)) (e : pc + 3 = t2) (ha : a < 2 ^ 31) (hb : b < 2 ^ 31) (kt : a ≤ b → Wp E F nE t1 L st σ K) (kf : b < a → Wp E F nE t2 L st σ K) : Wp E F nE pc L (.int (nI b) :: .int (nI a) :: st) σ K :=
  g_icmp_le d ht e (fun q => kt ((nI_leI ha hb).mp q)) (fun q => kf (Nat.lt_of_not_le fun z => q ((nI_leI ha hb).mpr z)))
theorem g_icmp_lt_n {t1 t2 a b nE : Nat} {σ : gS} {off : Int} (d : decode F.2.1 pc = .ok (.if_icmp .lt off, 3)) (ht : (pc : Int) + off = (t1 : Int)) (e : pc + 3 = t2) (ha : a < 2 ^ 31) (hb : b < 2 ^ 31) (kt : a < b → Wp E F nE t1 L st σ K) (kf : b ≤ a → Wp E F nE t2 L st σ K) : Wp E F nE pc L (.int (nI b) :: .int (nI a) :: st) σ K :=
  g_icmp_lt d ht e (fun q => kt ((nI_ltI ha hb).mp q)) (fun q => kf (Nat.le_of_not_lt fun z => q ((nI_ltI ha hb).mpr z)))
theorem g_icmp_eq_n {t1 t2 a b nE : Nat} {σ : gS} {off : Int} (d : decode F.2.1 pc = .ok (.if_icmp .eq off, 3)) (ht : (pc : Int) + off = (t1 : Int)) (e : pc + 3 = t2) (ha : a < 2 ^ 31) (hb : b < 2 ^ 31) (kt : a = b → Wp E F nE t1 L st σ K) (kf : a ≠ b → Wp E F nE t2 L st σ K) : Wp E F nE pc L (.int (nI b) :: .int (nI a) :: st) σ K :=
  g_icmp_eq d ht e (fun q => kt ((nI_eq ha hb).mp q)) (fun q => kf fun z => q ((nI_eq ha hb).mpr z))
theorem g_icmp_ne_n {t1 t2 a b nE : Nat} {σ : gS} {off : Int} (d : decode F.2.1 pc = .ok (.if_icmp .ne off, 3)) (ht : (pc : Int) + off = (t1 : Int)) (e : pc + 3 = t2) (ha : a < 2 ^ 31) (hb : b < 2 ^ 31) (kt : a ≠ b → Wp E F nE t1 L st σ K) (kf : a = b → Wp E F nE t2 L st σ K) : Wp E F nE pc L (.int (nI b) :: .int (nI a) :: st) σ K :=
  g_icmp_ne d ht e (fun q => kt fun z => q ((nI_eq ha hb).mpr z)) (fun q => kf ((nI_eq ha hb).mp q))
end GSTD
/-- cells that stay -/
def gSame (cs : List Nat) (I I' : Nat → Nat → Int32) : Prop := ∀ c, c ∉ cs → I' c = I c
theorem gSame.rf {cs : List Nat} {I : Nat → Nat → Int32} : gSame cs I I := fun _ _ => rfl
theorem gSame.trans {cs : List Nat} {I I1 I2 : Nat → Nat → Int32} (h1 : gSame cs I I1) (h2 : gSame cs I1 I2) : gSame cs I I2 := fun c hc => (h2 c hc).trans (h1 c hc)
theorem gSame.wk {cs cs2 : List Nat} {I I' : Nat → Nat → Int32} (h : gSame cs I I') (hs : cs.all (fun c => cs2.contains c) = true) : gSame cs2 I I' := fun c hc => h c fun q => hc (by have := List.all_eq_true.mp hs c q; simpa using this)
theorem gSame.up {cs : List Nat} {I I' : Nat → Nat → Int32} {o k : Nat} {v : Int32} (h : gSame cs I I') (ho : cs.contains o = true) : gSame cs I (gup I' o k v) := fun c hc => by
  have : c ≠ o := fun q => hc (by subst q; simpa using ho)
  rw [gup_rowo _ _ _ this]
  exact h c hc
theorem gSame.at {cs : List Nat} {I I' : Nat → Nat → Int32} (h : gSame cs I I') (c : Nat) (hc : cs.contains c = false) : I' c = I c := h c (by simpa using hc)

/-- the long field's place -/
def gfkLong : Nat := 26
section GMROWS
variable {E : gE} {F : gF} {pc : Nat} {L st : List Value} {I : Nat → Nat → Int32} {h : Int64} {K : gK}
theorem gm_getI {ci k o index t : Nat} (ho : o < 62) (h9 : o < 1000) (hsh : gsh o = .inl ci) (hf : gFL F.1.cls index ci k) (h0 : gfk ci k = 0) (d : decode F.2.1 pc = .ok (.getfield index, 3)) (e : pc + 3 = t) (kk : Wp E F 62 t L (.int (I o k) :: st) (gM I h) K) : Wp E F 62 pc L (.ref o :: st) (gM I h) K := g_getI ho h9 hsh hf h0 d e kk
theorem gm_getL {ci k o index t : Nat} (ho : o < 62) (h9 : o < 1000) (hsh : gsh o = .inl ci) (hf : gFL F.1.cls index ci k) (h0 : gfk ci k = 2) (d : decode F.2.1 pc = .ok (.getfield index, 3)) (e : pc + 3 = t) (kk : Wp E F 62 t L (.long h :: st) (gM I h) K) : Wp E F 62 pc L (.ref o :: st) (gM I h) K := g_getL ho h9 hsh hf h0 d e kk
theorem gm_getR {ci k o r index t : Nat} (ho : o < 62) (h9 : o < 1000) (hsh : gsh o = .inl ci) (hf : gFL F.1.cls index ci k) (h0 : gfk ci k = 1) (hr : gR0 o k = some r) (hr9 : r < 1000) (d : decode F.2.1 pc = .ok (.getfield index, 3)) (e : pc + 3 = t) (kk : Wp E F 62 t L (.ref r :: st) (gM I h) K) : Wp E F 62 pc L (.ref o :: st) (gM I h) K := g_getR ho h9 hsh hf h0 hr hr9 d e kk
theorem gm_putI {ci k o index t : Nat} {ty : FieldType} {v : Int32} (ho : o < 62) (h9 : o < 1000) (hsh : gsh o = .inl ci) (hf : gFP F.1.cls index ci k ty false) (h0 : gfk ci k = 0) (hn : narrow ty (.int v) = .int v) (hfit : fits ty (.int v) = true) (d : decode F.2.1 pc = .ok (.putfield index, 3)) (e : pc + 3 = t) (kk : Wp E F 62 t L st (gM (gup I o k v) h) K) : Wp E F 62 pc L (.int v :: .ref o :: st) (gM I h) K := g_putI ho h9 hsh hf h0 hn hfit d e kk
theorem gm_putL {ci k index t : Nat} {v : Int64} (hsh : gsh gLong = .inl ci) (hf : gFP F.1.cls index ci k .long false) (h0 : gfk ci k = 2) (hone : ∀ j, j ≠ k → gfk ci j ≠ 2) (d : decode F.2.1 pc = .ok (.putfield index, 3)) (e : pc + 3 = t) (kk : Wp E F 62 t L st (gM I v) K) : Wp E F 62 pc L (.long v :: .ref 41 :: st) (gM I h) K := g_putL l6_41 hsh hf h0 hone (g_fk3 _) d e kk
theorem gm_iald {a n t : Nat} {i : Int32} (ha : a < 62) (h9 : a < 1000) (hsh : gsh a = .inr (0, n)) (d : decode F.2.1 pc = .ok (.iaload, 1)) (hin : vp_in i n) (e : pc + 1 = t) (kk : Wp E F 62 t L (.int (I a i.toNatClampNeg) :: st) (gM I h) K) : Wp E F 62 pc L (.int i :: .ref a :: st) (gM I h) K := g_iald ha h9 hsh hin d e kk
theorem gm_iald_n {a n t i : Nat} (ha : a < 62) (h9 : a < 1000) (hsh : gsh a = .inr (0, n)) (d : decode F.2.1 pc = .ok (.iaload, 1)) (hin : i < n) (hn : n < 2 ^ 31) (e : pc + 1 = t) (kk : Wp E F 62 t L (.int (I a i) :: st) (gM I h) K) : Wp E F 62 pc L (.int (nI i) :: .ref a :: st) (gM I h) K := g_iald ha h9 hsh (vp_in_nI hin hn) d e (by rw [nI_clamp (Nat.lt_trans hin hn)]; exact kk)
theorem gm_bald {a n t : Nat} {i : Int32} (ha : a < 62) (h9 : a < 1000) (hsh : gsh a = .inr (1, n)) (d : decode F.2.1 pc = .ok (.baload, 1)) (hin : vp_in i n) (e : pc + 1 = t) (kk : Wp E F 62 t L (.int (I a i.toNatClampNeg) :: st) (gM I h) K) : Wp E F 62 pc L (.int i :: .ref a :: st) (gM I h) K := g_bald ha h9 hsh hin d e kk
theorem gm_bald_n {a n t i : Nat} (ha : a < 62) (h9 : a < 1000) (hsh : gsh a = .inr (1, n)) (d : decode F.2.1 pc = .ok (.baload, 1)) (hin : i < n) (hn : n < 2 ^ 31) (e : pc + 1 = t) (kk : Wp E F 62 t L (.int (I a i) :: st) (gM I h) K) : Wp E F 62 pc L (.int (nI i) :: .ref a :: st) (gM I h) K := g_bald ha h9 hsh (vp_in_nI hin hn) d e (by rw [nI_clamp (Nat.lt_trans hin hn)]; exact kk)
theorem gm_zald {a n t : Nat} {i : Int32} (ha : a < 62) (h9 : a < 1000) (hsh : gsh a = .inr (2, n)) (d : decode F.2.1 pc = .ok (.baload, 1)) (hin : vp_in i n) (e : pc + 1 = t) (kk : Wp E F 62 t L (.int (I a i.toNatClampNeg) :: st) (gM I h) K) : Wp E F 62 pc L (.int i :: .ref a :: st) (gM I h) K := g_zald ha h9 hsh hin d e kk
theorem gm_zald_n {a n t i : Nat} (ha : a < 62) (h9 : a < 1000) (hsh : gsh a = .inr (2, n)) (d : decode F.2.1 pc = .ok (.baload, 1)) (hin : i < n) (hn : n < 2 ^ 31) (e : pc + 1 = t) (kk : Wp E F 62 t L (.int (I a i) :: st) (gM I h) K) : Wp E F 62 pc L (.int (nI i) :: .ref a :: st) (gM I h) K := g_zald ha h9 hsh (vp_in_nI hin hn) d e (by rw [nI_clamp (Nat.lt_trans hin hn)]; exact kk)
theorem gm_iast {a n t : Nat} {i x : Int32} (ha : a < 62) (h9 : a < 1000) (hsh : gsh a = .inr (0, n)) (d : decode F.2.1 pc = .ok (.iastore, 1)) (hin : vp_in i n) (e : pc + 1 = t) (kk : Wp E F 62 t L st (gM (gup I a i.toNatClampNeg x) h) K) : Wp E F 62 pc L (.int x :: .int i :: .ref a :: st) (gM I h) K := g_iast ha h9 hsh hin d e kk
theorem gm_iast_n {a n t i : Nat} {x : Int32} (ha : a < 62) (h9 : a < 1000) (hsh : gsh a = .inr (0, n)) (d : decode F.2.1 pc = .ok (.iastore, 1)) (hin : i < n) (hn : n < 2 ^ 31) (e : pc + 1 = t) (kk : Wp E F 62 t L st (gM (gup I a i x) h) K) : Wp E F 62 pc L (.int x :: .int (nI i) :: .ref a :: st) (gM I h) K := g_iast ha h9 hsh (vp_in_nI hin hn) d e (by rw [nI_clamp (Nat.lt_trans hin hn)]; exact kk)
theorem gm_bast {a n t : Nat} {i x : Int32} (ha : a < 62) (h9 : a < 1000) (hsh : gsh a = .inr (1, n)) (hx : narrow .byte (.int x) = .int x) (d : decode F.2.1 pc = .ok (.bastore, 1)) (hin : vp_in i n) (e : pc + 1 = t) (kk : Wp E F 62 t L st (gM (gup I a i.toNatClampNeg x) h) K) : Wp E F 62 pc L (.int x :: .int i :: .ref a :: st) (gM I h) K := g_bast ha h9 hsh hin hx d e kk
theorem gm_bast_n {a n t i : Nat} {x : Int32} (ha : a < 62) (h9 : a < 1000) (hsh : gsh a = .inr (1, n)) (hx : narrow .byte (.int x) = .int x) (d : decode F.2.1 pc = .ok (.bastore, 1)) (hin : i < n) (hn : n < 2 ^ 31) (e : pc + 1 = t) (kk : Wp E F 62 t L st (gM (gup I a i x) h) K) : Wp E F 62 pc L (.int x :: .int (nI i) :: .ref a :: st) (gM I h) K := g_bast ha h9 hsh (vp_in_nI hin hn) hx d e (by rw [nI_clamp (Nat.lt_trans hin hn)]; exact kk)
theorem gm_zast {a n t : Nat} {i x : Int32} (ha : a < 62) (h9 : a < 1000) (hsh : gsh a = .inr (2, n)) (hx : narrow .boolean (.int x) = .int x) (d : decode F.2.1 pc = .ok (.bastore, 1)) (hin : vp_in i n) (e : pc + 1 = t) (kk : Wp E F 62 t L st (gM (gup I a i.toNatClampNeg x) h) K) : Wp E F 62 pc L (.int x :: .int i :: .ref a :: st) (gM I h) K := g_zast ha h9 hsh hin hx d e kk
theorem gm_zast_n {a n t i : Nat} {x : Int32} (ha : a < 62) (h9 : a < 1000) (hsh : gsh a = .inr (2, n)) (hx : narrow .boolean (.int x) = .int x) (d : decode F.2.1 pc = .ok (.bastore, 1)) (hin : i < n) (hn : n < 2 ^ 31) (e : pc + 1 = t) (kk : Wp E F 62 t L st (gM (gup I a i x) h) K) : Wp E F 62 pc L (.int x :: .int (nI i) :: .ref a :: st) (gM I h) K := g_zast ha h9 hsh (vp_in_nI hin hn) hx d e (by rw [nI_clamp (Nat.lt_trans hin hn)]; exact kk)
def gcpy (I : Nat → Nat → Int32) (b : Nat) (f : Nat → Int32) (sp dp n : Nat) : Nat → Nat → Int32 := fun o => if o = b then va_cpy f (I b) sp dp n else I o
theorem gm_copy {index a b n0 n1 t sp dp n : Nat} (hw1 : Cond.methodLink F.1.cls index arraycopyName ∈ gB) (ha : a < 62) (ha9 : a < 1000) (hsa : gsh a = .inr (0, n0)) (hb : b < 62) (h9 : b < 1000) (hsh : gsh b = .inr (0, n1)) (h4 : sp + n ≤ n0) (h5 : dp + n ≤ n1) (hn0 : n0 < 2 ^ 31) (hn1 : n1 < 2 ^ 31) (hfr : 1 ≤ F.2.2.2.2.1) (hlo : 26 ≤ F.2.2.2.2.2) (hst : (st.map fun v => v.category).sum ≤ 8) (d : decode F.2.1 pc = .ok (.invokestatic index, 3)) (e : pc + 3 = t)
    (kk : Wp E F 62 t L st (gM (gcpy I b (I a) sp dp n) h) K) : Wp E F 62 pc L (.int (nI n) :: .int (nI dp) :: .ref b :: .int (nI sp) :: .ref a :: st) (gM I h) K := by
  have k1 := nI_clamp (n := n) (by omega)
  have k2 := nI_clamp (n := dp) (by omega)
  have k3 := nI_clamp (n := sp) (by omega)
  exact g_copy hw1 k_ac1 k_ac2 k_ac3 ha ha9 hsa hb h9 hsh (nI_pos (by omega)) (nI_pos (by omega)) (nI_pos (by omega)) (by rw [k1, k3]; exact h4) (by rw [k1, k2]; exact h5) hfr hlo hst d e (by rw [k1, k2, k3]; exact kk)
theorem gm_copyT {index j r b n1 t sp dp n : Nat} {q : String × List Int32} (hw1 : Cond.methodLink F.1.cls index arraycopyName ∈ gB) (hj : gst[j]? = some q) (hr : r = 1001 + j) (hb : b < 62) (h9 : b < 1000) (hsh : gsh b = .inr (0, n1)) (h4 : sp + n ≤ q.2.length) (h5 : dp + n ≤ n1) (hn0 : q.2.length < 2 ^ 31) (hn1 : n1 < 2 ^ 31) (hfr : 1 ≤ F.2.2.2.2.1) (hlo : 26 ≤ F.2.2.2.2.2) (hst : (st.map fun v => v.category).sum ≤ 8) (d : decode F.2.1 pc = .ok (.invokestatic index, 3)) (e : pc + 3 = t)
    (kk : Wp E F 62 t L st (gM (gcpy I b (fun k => q.2.getD k 0) sp dp n) h) K) : Wp E F 62 pc L (.int (nI n) :: .int (nI dp) :: .ref b :: .int (nI sp) :: .ref r :: st) (gM I h) K := by
  have k1 := nI_clamp (n := n) (by omega)
  have k2 := nI_clamp (n := dp) (by omega)
  have k3 := nI_clamp (n := sp) (by omega)
  exact g_copyT hw1 k_ac1 k_ac2 k_ac3 hj hr hb h9 hsh (nI_pos (by omega)) (nI_pos (by omega)) (nI_pos (by omega)) (by rw [k1, k3]; exact h4) (by rw [k1, k2]; exact h5) hfr hlo hst d e (by rw [k1, k2, k3]; exact kk)
theorem gm_tld_n {t j r i : Nat} {q : String × List Int32} (hj : gst[j]? = some q) (hr : r = 1001 + j) (d : decode F.2.1 pc = .ok (.iaload, 1)) (hin : i < q.2.length) (hn : q.2.length < 2 ^ 31) (e : pc + 1 = t) (kk : Wp E F 62 t L (.int (q.2.getD i 0) :: st) (gM I h) K) : Wp E F 62 pc L (.int (nI i) :: .ref r :: st) (gM I h) K := g_tld hj hr (vp_in_nI hin hn) d e (by rw [nI_clamp (Nat.lt_trans hin hn)]; exact kk)
theorem gfk_one {j : Nat} (hj : j ≠ gfkLong) : gfk 7 j ≠ 2 := by
  by_cases q : j < 27
  · have key : ∀ j, j < 27 → j ≠ gfkLong → gfk 7 j ≠ 2 := by decide +kernel
    exact key j q hj
  · have : gfk 7 j = 0 := by
      show ((gfkL.getD 7 []).getD j 0) = 0
      rw [List.getD_eq_getElem?_getD (i := j), List.getElem?_eq_none (by show 27 ≤ j; omega)]
      rfl
    rw [this]
    decide
theorem gi_1 (a : Nat) : nI a + Int32.ofInt 1 = nI (a + 1) := nI_1 a
theorem gi_m1 (a : Nat) : nI (a + 1) + Int32.ofInt (-1) = nI a := by
  rw [show Int32.ofInt (-1) = -1 by decide +kernel]
  exact pk_m1 a
theorem g_maxE (x y : Int32) : (if x < y then y else x) = (if y ≤ x then x else y) := by
  by_cases q : x < y
  · rw [if_pos q, if_neg (Int32.not_le.mpr q)]
  · rw [if_neg q, if_pos (Int32.not_lt.mp q)]
end GMROWS

