/-- the references, once all is made -/
def gR0L : List (List (Option Nat)) := [[some 1, some 4, some 7, some 11, some 18, some 27, some 32], [some 2, some 3], [], [], [none, some 5, some 6], [], [], [none, none, some 8, some 9, some 10], [], [], [], [none, some 12, some 13, some 14, some 15, some 16, some 17, some 4], [], [], [], [], [], [], [none, some 19, some 20, some 21, some 22, some 23, some 24, some 25, some 26, some 4, some 11], [], [], [], [], [], [], [], [], [none, some 28, some 29, some 30, some 31, some 4, some 11, some 18], [], [], [], [], [none, some 33, some 34, some 35, some 36, some 37, some 38, some 39, some 40, some 4, some 11], [], [], [], [], [], [], [], [], [], [], []]
def gR0 (o k : Nat) : Option Nat := (gR0L.getD o []).getD k none
abbrev gn (h : gX) : Nat := 44 + h.2.length + h.1
abbrev gM (I : Nat → Nat → Int32) (h : gX) : gS := (gn h, I, gR0, h)
theorem r_0_0 : gR0 0 0 = some 1 := rfl
theorem r_0_1 : gR0 0 1 = some 4 := rfl
theorem r_0_2 : gR0 0 2 = some 7 := rfl
theorem r_0_3 : gR0 0 3 = some 11 := rfl
theorem r_0_4 : gR0 0 4 = some 18 := rfl
theorem r_0_5 : gR0 0 5 = some 27 := rfl
theorem r_0_6 : gR0 0 6 = some 32 := rfl
theorem r_1_0 : gR0 1 0 = some 2 := rfl
theorem r_1_1 : gR0 1 1 = some 3 := rfl
theorem r_4_1 : gR0 4 1 = some 5 := rfl
theorem r_4_2 : gR0 4 2 = some 6 := rfl
theorem r_7_2 : gR0 7 2 = some 8 := rfl
theorem r_7_3 : gR0 7 3 = some 9 := rfl
theorem r_7_4 : gR0 7 4 = some 10 := rfl
theorem r_11_1 : gR0 11 1 = some 12 := rfl
theorem r_11_2 : gR0 11 2 = some 13 := rfl
theorem r_11_3 : gR0 11 3 = some 14 := rfl
theorem r_11_4 : gR0 11 4 = some 15 := rfl
theorem r_11_5 : gR0 11 5 = some 16 := rfl
theorem r_11_6 : gR0 11 6 = some 17 := rfl
theorem r_11_7 : gR0 11 7 = some 4 := rfl
theorem r_18_1 : gR0 18 1 = some 19 := rfl
theorem r_18_2 : gR0 18 2 = some 20 := rfl
theorem r_18_3 : gR0 18 3 = some 21 := rfl
theorem r_18_4 : gR0 18 4 = some 22 := rfl
theorem r_18_5 : gR0 18 5 = some 23 := rfl
theorem r_18_6 : gR0 18 6 = some 24 := rfl
theorem r_18_7 : gR0 18 7 = some 25 := rfl
theorem r_18_8 : gR0 18 8 = some 26 := rfl
theorem r_18_9 : gR0 18 9 = some 4 := rfl
theorem r_18_10 : gR0 18 10 = some 11 := rfl
theorem r_27_1 : gR0 27 1 = some 28 := rfl
theorem r_27_2 : gR0 27 2 = some 29 := rfl
theorem r_27_3 : gR0 27 3 = some 30 := rfl
theorem r_27_4 : gR0 27 4 = some 31 := rfl
theorem r_27_5 : gR0 27 5 = some 4 := rfl
theorem r_27_6 : gR0 27 6 = some 11 := rfl
theorem r_27_7 : gR0 27 7 = some 18 := rfl
theorem r_32_1 : gR0 32 1 = some 33 := rfl
theorem r_32_2 : gR0 32 2 = some 34 := rfl
theorem r_32_3 : gR0 32 3 = some 35 := rfl
theorem r_32_4 : gR0 32 4 = some 36 := rfl
theorem r_32_5 : gR0 32 5 = some 37 := rfl
theorem r_32_6 : gR0 32 6 = some 38 := rfl
theorem r_32_7 : gR0 32 7 = some 39 := rfl
theorem r_32_8 : gR0 32 8 = some 40 := rfl
theorem r_32_9 : gR0 32 9 = some 4 := rfl
theorem r_32_10 : gR0 32 10 = some 11 := rfl
theorem s_0 {h : gX} : gsh h 0 = .inl 6 := rfl
theorem l6_0 {h : gX} : 0 + h.1 < gn h := by unfold gn; omega
theorem l9_0 : 0 < 1000 := by decide
theorem s_1 {h : gX} : gsh h 1 = .inl 5 := rfl
theorem l6_1 {h : gX} : 1 + h.1 < gn h := by unfold gn; omega
theorem l9_1 : 1 < 1000 := by decide
theorem s_2 {h : gX} : gsh h 2 = .inr (1, 80) := rfl
theorem l6_2 {h : gX} : 2 + h.1 < gn h := by unfold gn; omega
theorem l9_2 : 2 < 1000 := by decide
theorem s_3 {h : gX} : gsh h 3 = .inr (0, 10) := rfl
theorem l6_3 {h : gX} : 3 + h.1 < gn h := by unfold gn; omega
theorem l9_3 : 3 < 1000 := by decide
theorem s_4 {h : gX} : gsh h 4 = .inl 4 := rfl
theorem l6_4 {h : gX} : 4 + h.1 < gn h := by unfold gn; omega
theorem l9_4 : 4 < 1000 := by decide
theorem s_5 {h : gX} : gsh h 5 = .inr (0, 7) := rfl
theorem l6_5 {h : gX} : 5 + h.1 < gn h := by unfold gn; omega
theorem l9_5 : 5 < 1000 := by decide
theorem s_6 {h : gX} : gsh h 6 = .inr (0, 176) := rfl
theorem l6_6 {h : gX} : 6 + h.1 < gn h := by unfold gn; omega
theorem l9_6 : 6 < 1000 := by decide
theorem s_7 {h : gX} : gsh h 7 = .inl 0 := rfl
theorem l6_7 {h : gX} : 7 + h.1 < gn h := by unfold gn; omega
theorem l9_7 : 7 < 1000 := by decide
theorem s_8 {h : gX} : gsh h 8 = .inr (0, 8) := rfl
theorem l6_8 {h : gX} : 8 + h.1 < gn h := by unfold gn; omega
theorem l9_8 : 8 < 1000 := by decide
theorem s_9 {h : gX} : gsh h 9 = .inr (0, 56) := rfl
theorem l6_9 {h : gX} : 9 + h.1 < gn h := by unfold gn; omega
theorem l9_9 : 9 < 1000 := by decide
theorem s_10 {h : gX} : gsh h 10 = .inr (0, 1408) := rfl
theorem l6_10 {h : gX} : 10 + h.1 < gn h := by unfold gn; omega
theorem l9_10 : 10 < 1000 := by decide
theorem s_11 {h : gX} : gsh h 11 = .inl 2 := rfl
theorem l6_11 {h : gX} : 11 + h.1 < gn h := by unfold gn; omega
theorem l9_11 : 11 < 1000 := by decide
theorem s_12 {h : gX} : gsh h 12 = .inr (0, 16) := rfl
theorem l6_12 {h : gX} : 12 + h.1 < gn h := by unfold gn; omega
theorem l9_12 : 12 < 1000 := by decide
theorem s_13 {h : gX} : gsh h 13 = .inr (0, 16) := rfl
theorem l6_13 {h : gX} : 13 + h.1 < gn h := by unfold gn; omega
theorem l9_13 : 13 < 1000 := by decide
theorem s_14 {h : gX} : gsh h 14 = .inr (0, 16) := rfl
theorem l6_14 {h : gX} : 14 + h.1 < gn h := by unfold gn; omega
theorem l9_14 : 14 < 1000 := by decide
theorem s_15 {h : gX} : gsh h 15 = .inr (0, 16) := rfl
theorem l6_15 {h : gX} : 15 + h.1 < gn h := by unfold gn; omega
theorem l9_15 : 15 < 1000 := by decide
theorem s_16 {h : gX} : gsh h 16 = .inr (0, 16) := rfl
theorem l6_16 {h : gX} : 16 + h.1 < gn h := by unfold gn; omega
theorem l9_16 : 16 < 1000 := by decide
theorem s_17 {h : gX} : gsh h 17 = .inr (0, 16) := rfl
theorem l6_17 {h : gX} : 17 + h.1 < gn h := by unfold gn; omega
theorem l9_17 : 17 < 1000 := by decide
theorem s_18 {h : gX} : gsh h 18 = .inl 1 := rfl
theorem l6_18 {h : gX} : 18 + h.1 < gn h := by unfold gn; omega
theorem l9_18 : 18 < 1000 := by decide
theorem s_19 {h : gX} : gsh h 19 = .inr (0, 16) := rfl
theorem l6_19 {h : gX} : 19 + h.1 < gn h := by unfold gn; omega
theorem l9_19 : 19 < 1000 := by decide
theorem s_20 {h : gX} : gsh h 20 = .inr (0, 16) := rfl
theorem l6_20 {h : gX} : 20 + h.1 < gn h := by unfold gn; omega
theorem l9_20 : 20 < 1000 := by decide
theorem s_21 {h : gX} : gsh h 21 = .inr (0, 16) := rfl
theorem l6_21 {h : gX} : 21 + h.1 < gn h := by unfold gn; omega
theorem l9_21 : 21 < 1000 := by decide
theorem s_22 {h : gX} : gsh h 22 = .inr (0, 16) := rfl
theorem l6_22 {h : gX} : 22 + h.1 < gn h := by unfold gn; omega
theorem l9_22 : 22 < 1000 := by decide
theorem s_23 {h : gX} : gsh h 23 = .inr (2, 16) := rfl
theorem l6_23 {h : gX} : 23 + h.1 < gn h := by unfold gn; omega
theorem l9_23 : 23 < 1000 := by decide
theorem s_24 {h : gX} : gsh h 24 = .inr (0, 16) := rfl
theorem l6_24 {h : gX} : 24 + h.1 < gn h := by unfold gn; omega
theorem l9_24 : 24 < 1000 := by decide
theorem s_25 {h : gX} : gsh h 25 = .inr (0, 16) := rfl
theorem l6_25 {h : gX} : 25 + h.1 < gn h := by unfold gn; omega
theorem l9_25 : 25 < 1000 := by decide
theorem s_26 {h : gX} : gsh h 26 = .inr (0, 16) := rfl
theorem l6_26 {h : gX} : 26 + h.1 < gn h := by unfold gn; omega
theorem l9_26 : 26 < 1000 := by decide
theorem s_27 {h : gX} : gsh h 27 = .inl 3 := rfl
theorem l6_27 {h : gX} : 27 + h.1 < gn h := by unfold gn; omega
theorem l9_27 : 27 < 1000 := by decide
theorem s_28 {h : gX} : gsh h 28 = .inr (0, 16) := rfl
theorem l6_28 {h : gX} : 28 + h.1 < gn h := by unfold gn; omega
theorem l9_28 : 28 < 1000 := by decide
theorem s_29 {h : gX} : gsh h 29 = .inr (0, 16) := rfl
theorem l6_29 {h : gX} : 29 + h.1 < gn h := by unfold gn; omega
theorem l9_29 : 29 < 1000 := by decide
theorem s_30 {h : gX} : gsh h 30 = .inr (0, 16) := rfl
theorem l6_30 {h : gX} : 30 + h.1 < gn h := by unfold gn; omega
theorem l9_30 : 30 < 1000 := by decide
theorem s_31 {h : gX} : gsh h 31 = .inr (0, 16) := rfl
theorem l6_31 {h : gX} : 31 + h.1 < gn h := by unfold gn; omega
theorem l9_31 : 31 < 1000 := by decide
theorem s_32 {h : gX} : gsh h 32 = .inl 1 := rfl
theorem l6_32 {h : gX} : 32 + h.1 < gn h := by unfold gn; omega
theorem l9_32 : 32 < 1000 := by decide
theorem s_33 {h : gX} : gsh h 33 = .inr (0, 16) := rfl
theorem l6_33 {h : gX} : 33 + h.1 < gn h := by unfold gn; omega
theorem l9_33 : 33 < 1000 := by decide
theorem s_34 {h : gX} : gsh h 34 = .inr (0, 16) := rfl
theorem l6_34 {h : gX} : 34 + h.1 < gn h := by unfold gn; omega
theorem l9_34 : 34 < 1000 := by decide
theorem s_35 {h : gX} : gsh h 35 = .inr (0, 16) := rfl
theorem l6_35 {h : gX} : 35 + h.1 < gn h := by unfold gn; omega
theorem l9_35 : 35 < 1000 := by decide
theorem s_36 {h : gX} : gsh h 36 = .inr (0, 16) := rfl
theorem l6_36 {h : gX} : 36 + h.1 < gn h := by unfold gn; omega
theorem l9_36 : 36 < 1000 := by decide
theorem s_37 {h : gX} : gsh h 37 = .inr (2, 16) := rfl
theorem l6_37 {h : gX} : 37 + h.1 < gn h := by unfold gn; omega
theorem l9_37 : 37 < 1000 := by decide
theorem s_38 {h : gX} : gsh h 38 = .inr (0, 16) := rfl
theorem l6_38 {h : gX} : 38 + h.1 < gn h := by unfold gn; omega
theorem l9_38 : 38 < 1000 := by decide
theorem s_39 {h : gX} : gsh h 39 = .inr (0, 16) := rfl
theorem l6_39 {h : gX} : 39 + h.1 < gn h := by unfold gn; omega
theorem l9_39 : 39 < 1000 := by decide
theorem s_40 {h : gX} : gsh h 40 = .inr (0, 16) := rfl
theorem l6_40 {h : gX} : 40 + h.1 < gn h := by unfold gn; omega
theorem l9_40 : 40 < 1000 := by decide
theorem s_41 {h : gX} : gsh h 41 = .inr (0, 64) := rfl
theorem l6_41 {h : gX} : 41 + h.1 < gn h := by unfold gn; omega
theorem l9_41 : 41 < 1000 := by decide
theorem s_42 {h : gX} : gsh h 42 = .inr (0, 8) := rfl
theorem l6_42 {h : gX} : 42 + h.1 < gn h := by unfold gn; omega
theorem l9_42 : 42 < 1000 := by decide
theorem s_43 {h : gX} : gsh h 43 = .inr (0, 24) := rfl
theorem l6_43 {h : gX} : 43 + h.1 < gn h := by unfold gn; omega
theorem l9_43 : 43 < 1000 := by decide
theorem c_bipush_m49 : (Int8.ofInt (-49)).toInt32 = (-49) := by decide +kernel
theorem c_bipush_m9 : (Int8.ofInt (-9)).toInt32 = (-9) := by decide +kernel
theorem c_bipush_6 : (Int8.ofInt (6)).toInt32 = nI 6 := by decide +kernel
theorem c_bipush_7 : (Int8.ofInt (7)).toInt32 = nI 7 := by decide +kernel
theorem c_bipush_8 : (Int8.ofInt (8)).toInt32 = nI 8 := by decide +kernel
theorem c_bipush_9 : (Int8.ofInt (9)).toInt32 = nI 9 := by decide +kernel
theorem c_bipush_10 : (Int8.ofInt (10)).toInt32 = nI 10 := by decide +kernel
theorem c_bipush_11 : (Int8.ofInt (11)).toInt32 = nI 11 := by decide +kernel
theorem c_bipush_12 : (Int8.ofInt (12)).toInt32 = nI 12 := by decide +kernel
theorem c_bipush_13 : (Int8.ofInt (13)).toInt32 = nI 13 := by decide +kernel
theorem c_bipush_14 : (Int8.ofInt (14)).toInt32 = nI 14 := by decide +kernel
theorem c_bipush_16 : (Int8.ofInt (16)).toInt32 = nI 16 := by decide +kernel
theorem c_bipush_17 : (Int8.ofInt (17)).toInt32 = nI 17 := by decide +kernel
theorem c_bipush_19 : (Int8.ofInt (19)).toInt32 = nI 19 := by decide +kernel
theorem c_bipush_20 : (Int8.ofInt (20)).toInt32 = nI 20 := by decide +kernel
theorem c_bipush_23 : (Int8.ofInt (23)).toInt32 = nI 23 := by decide +kernel
theorem c_bipush_24 : (Int8.ofInt (24)).toInt32 = nI 24 := by decide +kernel
theorem c_bipush_27 : (Int8.ofInt (27)).toInt32 = nI 27 := by decide +kernel
theorem c_bipush_32 : (Int8.ofInt (32)).toInt32 = nI 32 := by decide +kernel
theorem c_bipush_40 : (Int8.ofInt (40)).toInt32 = nI 40 := by decide +kernel
theorem c_bipush_45 : (Int8.ofInt (45)).toInt32 = nI 45 := by decide +kernel
theorem c_bipush_48 : (Int8.ofInt (48)).toInt32 = nI 48 := by decide +kernel
theorem c_bipush_50 : (Int8.ofInt (50)).toInt32 = nI 50 := by decide +kernel
theorem c_bipush_56 : (Int8.ofInt (56)).toInt32 = nI 56 := by decide +kernel
theorem c_bipush_57 : (Int8.ofInt (57)).toInt32 = nI 57 := by decide +kernel
theorem c_bipush_60 : (Int8.ofInt (60)).toInt32 = nI 60 := by decide +kernel
theorem c_bipush_64 : (Int8.ofInt (64)).toInt32 = nI 64 := by decide +kernel
theorem c_bipush_80 : (Int8.ofInt (80)).toInt32 = nI 80 := by decide +kernel
theorem c_bipush_90 : (Int8.ofInt (90)).toInt32 = nI 90 := by decide +kernel
theorem c_bipush_97 : (Int8.ofInt (97)).toInt32 = nI 97 := by decide +kernel
theorem c_bipush_100 : (Int8.ofInt (100)).toInt32 = nI 100 := by decide +kernel
theorem c_bipush_120 : (Int8.ofInt (120)).toInt32 = nI 120 := by decide +kernel
theorem c_bipush_122 : (Int8.ofInt (122)).toInt32 = nI 122 := by decide +kernel
theorem c_bipush_127 : (Int8.ofInt (127)).toInt32 = nI 127 := by decide +kernel
theorem c_iconst_m1 : Int32.ofInt (-1) = (-1) := by decide +kernel
theorem c_iconst_0 : Int32.ofInt (0) = nI 0 := by decide +kernel
theorem c_iconst_1 : Int32.ofInt (1) = nI 1 := by decide +kernel
theorem c_iconst_2 : Int32.ofInt (2) = nI 2 := by decide +kernel
theorem c_iconst_3 : Int32.ofInt (3) = nI 3 := by decide +kernel
theorem c_iconst_4 : Int32.ofInt (4) = nI 4 := by decide +kernel
theorem c_iconst_5 : Int32.ofInt (5) = nI 5 := by decide +kernel
theorem c_sipush_m2000 : (Int16.ofInt (-2000)).toInt32 = (-2000) := by decide +kernel
theorem c_sipush_m1004 : (Int16.ofInt (-1004)).toInt32 = (-1004) := by decide +kernel
theorem c_sipush_m1003 : (Int16.ofInt (-1003)).toInt32 = (-1003) := by decide +kernel
theorem c_sipush_m1002 : (Int16.ofInt (-1002)).toInt32 = (-1002) := by decide +kernel
theorem c_sipush_m1001 : (Int16.ofInt (-1001)).toInt32 = (-1001) := by decide +kernel
theorem c_sipush_176 : (Int16.ofInt (176)).toInt32 = nI 176 := by decide +kernel
theorem c_sipush_200 : (Int16.ofInt (200)).toInt32 = nI 200 := by decide +kernel
theorem c_sipush_255 : (Int16.ofInt (255)).toInt32 = nI 255 := by decide +kernel
theorem c_sipush_300 : (Int16.ofInt (300)).toInt32 = nI 300 := by decide +kernel
theorem c_sipush_400 : (Int16.ofInt (400)).toInt32 = nI 400 := by decide +kernel
theorem c_sipush_401 : (Int16.ofInt (401)).toInt32 = nI 401 := by decide +kernel
theorem c_sipush_980 : (Int16.ofInt (980)).toInt32 = nI 980 := by decide +kernel
theorem c_sipush_999 : (Int16.ofInt (999)).toInt32 = nI 999 := by decide +kernel
theorem c_sipush_1408 : (Int16.ofInt (1408)).toInt32 = nI 1408 := by decide +kernel
theorem g0 : (0 : Int32) = nI 0 := nI_0.symm
/-- contracts: a number, nothing changed -/
abbrev gPI (E : gE) (F : gF) (as : List Value) (I : Nat → Nat → Int32) (h : gX) (v : Int32) : Prop := gEv E F (gn h) as (gM I h) (fun r σ' => r = some (.int v) ∧ σ' = gM I h)
/-- a number, and what then is held -/
abbrev gQI (E : gE) (F : gF) (as : List Value) (I : Nat → Nat → Int32) (h : gX) (P : Int32 → (Nat → Nat → Int32) → Prop) : Prop := gEv E F (gn h) as (gM I h) (fun r σ' => ∃ (v : Int32) (I' : Nat → Nat → Int32), r = some (.int v) ∧ σ' = gM I' h ∧ P v I')
/-- nothing, and what then is held -/
abbrev gQV (E : gE) (F : gF) (as : List Value) (I : Nat → Nat → Int32) (h : gX) (P : (Nat → Nat → Int32) → Prop) : Prop := gEv E F (gn h) as (gM I h) (fun r σ' => ∃ I' : Nat → Nat → Int32, r = none ∧ σ' = gM I' h ∧ P I')
theorem gPI.post {E : gE} {F : gF} {as : List Value} {I : Nat → Nat → Int32} {h : gX} {v : Int32} {P : Int32 → (Nat → Nat → Int32) → Prop} (he : gPI E F as I h v) (hp : P v I) : gQI E F as I h P := gEv.mono he fun r σ' q => ⟨v, I, q.1, q.2, hp⟩
theorem gQI.mono {E : gE} {F : gF} {as : List Value} {I : Nat → Nat → Int32} {h : gX} {P P2 : Int32 → (Nat → Nat → Int32) → Prop} (he : gQI E F as I h P) (hp : ∀ v I', P v I' → P2 v I') : gQI E F as I h P2 := gEv.mono he fun r σ' ⟨v, I', a, b, c⟩ => ⟨v, I', a, b, hp v I' c⟩
theorem gQV.mono {E : gE} {F : gF} {as : List Value} {I : Nat → Nat → Int32} {h : gX} {P P2 : (Nat → Nat → Int32) → Prop} (he : gQV E F as I h P) (hp : ∀ I', P I' → P2 I') : gQV E F as I h P2 := gEv.mono he fun r σ' ⟨I', a, b, c⟩ => ⟨I', a, b, hp I' c⟩
section GSTD
variable {E : gE} {F : gF} {nE pc : Nat} {L st : List Value} {I : Nat → Nat → Int32} {h : gX} {K : gK}
theorem g_cVp {Fc : gF} {n index t o ci : Nat} {T : u_T} {N : Nat} {as S : List Value} {v : Int32} (hm : gMi Fc n) (hw1 : Cond.methodLink F.1.cls index Fc.1 ∈ gB) (hw2 : Cond.instanceMethod Fc.1 ∈ gB) (hw3 : Cond.selects Fc.1.cls Fc.1 Fc.1 ∈ gB) (ho : o + h.1 < gn h) (h9 : o < 1000) (hsh : gsh h o = .inl ci) (hcl : vwCl[ci]? = some (Fc.1.cls, T, N)) (d : decode F.2.1 pc = .ok (.invokevirtual index, 3)) (he : gPI E Fc (.ref o :: as) I h v) (hn : as.length = n) (hS : S = as.reverse ++ .ref o :: st) (hfr : Fc.2.2.2.2.1 + 1 ≤ F.2.2.2.2.1) (hlo : 8 + (Fc.2.2.1 + 11) + Fc.2.2.2.2.2 ≤ F.2.2.2.2.2) (hst : (st.map fun v => v.category).sum ≤ 8) (e : pc + 3 = t) (hE : gn h ≤ nE) (kk : Wp E F nE t L (.int v :: st) (gM I h) K) : Wp E F nE pc L S (gM I h) K :=
  g_callV hm hw1 hw2 hw3 ho h9 hsh hcl he hn hS hE hfr hlo hst d e fun r σ' q _ => by obtain ⟨rfl, rfl⟩ := q; exact kk
theorem g_cVi {Fc : gF} {n index t o ci : Nat} {T : u_T} {N : Nat} {as S : List Value} {P : Int32 → (Nat → Nat → Int32) → Prop} (hm : gMi Fc n) (hw1 : Cond.methodLink F.1.cls index Fc.1 ∈ gB) (hw2 : Cond.instanceMethod Fc.1 ∈ gB) (hw3 : Cond.selects Fc.1.cls Fc.1 Fc.1 ∈ gB) (ho : o + h.1 < gn h) (h9 : o < 1000) (hsh : gsh h o = .inl ci) (hcl : vwCl[ci]? = some (Fc.1.cls, T, N)) (d : decode F.2.1 pc = .ok (.invokevirtual index, 3)) (he : gQI E Fc (.ref o :: as) I h P) (hn : as.length = n) (hS : S = as.reverse ++ .ref o :: st) (hfr : Fc.2.2.2.2.1 + 1 ≤ F.2.2.2.2.1) (hlo : 8 + (Fc.2.2.1 + 11) + Fc.2.2.2.2.2 ≤ F.2.2.2.2.2) (hst : (st.map fun v => v.category).sum ≤ 8) (e : pc + 3 = t) (hE : gn h ≤ nE) (kk : ∀ (v : Int32) (I' : Nat → Nat → Int32), P v I' → Wp E F nE t L (.int v :: st) (gM I' h) K) : Wp E F nE pc L S (gM I h) K :=
  g_callV hm hw1 hw2 hw3 ho h9 hsh hcl he hn hS hE hfr hlo hst d e fun r σ' q _ => by obtain ⟨v, I', rfl, rfl, q⟩ := q; exact kk v I' q
theorem g_cVv {Fc : gF} {n index t o ci : Nat} {T : u_T} {N : Nat} {as S : List Value} {P : (Nat → Nat → Int32) → Prop} (hm : gMi Fc n) (hw1 : Cond.methodLink F.1.cls index Fc.1 ∈ gB) (hw2 : Cond.instanceMethod Fc.1 ∈ gB) (hw3 : Cond.selects Fc.1.cls Fc.1 Fc.1 ∈ gB) (ho : o + h.1 < gn h) (h9 : o < 1000) (hsh : gsh h o = .inl ci) (hcl : vwCl[ci]? = some (Fc.1.cls, T, N)) (d : decode F.2.1 pc = .ok (.invokevirtual index, 3)) (he : gQV E Fc (.ref o :: as) I h P) (hn : as.length = n) (hS : S = as.reverse ++ .ref o :: st) (hfr : Fc.2.2.2.2.1 + 1 ≤ F.2.2.2.2.1) (hlo : 8 + (Fc.2.2.1 + 11) + Fc.2.2.2.2.2 ≤ F.2.2.2.2.2) (hst : (st.map fun v => v.category).sum ≤ 8) (e : pc + 3 = t) (hE : gn h ≤ nE) (kk : ∀ I' : Nat → Nat → Int32, P I' → Wp E F nE t L st (gM I' h) K) : Wp E F nE pc L S (gM I h) K :=
  g_callV hm hw1 hw2 hw3 ho h9 hsh hcl he hn hS hE hfr hlo hst d e fun r σ' q _ => by obtain ⟨I', rfl, rfl, q⟩ := q; exact kk I' q
theorem g_cSp {Fc : gF} {n index t : Nat} {as S : List Value} {v : Int32} (hm : gMi Fc n) (hw1 : Cond.methodLink F.1.cls index Fc.1 ∈ gB) (hw2 : Cond.static Fc.1 ∈ gB) (d : decode F.2.1 pc = .ok (.invokestatic index, 3)) (he : gPI E Fc as I h v) (hn : as.length = n) (hS : S = as.reverse ++ st) (hfr : Fc.2.2.2.2.1 + 1 ≤ F.2.2.2.2.1) (hlo : 8 + (Fc.2.2.1 + 11) + Fc.2.2.2.2.2 ≤ F.2.2.2.2.2) (hst : (st.map fun v => v.category).sum ≤ 8) (e : pc + 3 = t) (hE : gn h ≤ nE) (kk : Wp E F nE t L (.int v :: st) (gM I h) K) : Wp E F nE pc L S (gM I h) K :=
  g_callS hm hw1 hw2 he hn hS hE hfr hlo hst d e fun r σ' q _ => by obtain ⟨rfl, rfl⟩ := q; exact kk
theorem g_cTp {Fc : gF} {n index t r i : Nat} {q : Nat × String × List Int32} {as S : List Value} {v : Int32} (hm : gMi Fc n) (hw1 : Cond.methodLink F.1.cls index Fc.1 ∈ gB) (hw2 : Cond.instanceMethod Fc.1 ∈ gB) (hw3 : Cond.selects Fc.1.cls Fc.1 Fc.1 ∈ gB) (hi : gtx[i]? = some q) (hr : r = 1010 + i) (hcl : Fc.1.cls = "java/lang/String") (d : decode F.2.1 pc = .ok (.invokevirtual index, 3)) (he : gPI E Fc (.ref r :: as) I h v) (hn : as.length = n) (hS : S = as.reverse ++ .ref r :: st) (hfr : Fc.2.2.2.2.1 + 1 ≤ F.2.2.2.2.1) (hlo : 8 + (Fc.2.2.1 + 11) + Fc.2.2.2.2.2 ≤ F.2.2.2.2.2) (hst : (st.map fun v => v.category).sum ≤ 8) (e : pc + 3 = t) (hE : gn h ≤ nE) (kk : Wp E F nE t L (.int v :: st) (gM I h) K) : Wp E F nE pc L S (gM I h) K :=
  g_callVS hm hw1 hw2 hw3 hi hr hcl he hn hS hE hfr hlo hst d e fun r σ' q _ => by obtain ⟨rfl, rfl⟩ := q; exact kk
theorem g_cSi {Fc : gF} {n index t : Nat} {as S : List Value} {P : Int32 → (Nat → Nat → Int32) → Prop} (hm : gMi Fc n) (hw1 : Cond.methodLink F.1.cls index Fc.1 ∈ gB) (hw2 : Cond.static Fc.1 ∈ gB) (d : decode F.2.1 pc = .ok (.invokestatic index, 3)) (he : gQI E Fc as I h P) (hn : as.length = n) (hS : S = as.reverse ++ st) (hfr : Fc.2.2.2.2.1 + 1 ≤ F.2.2.2.2.1) (hlo : 8 + (Fc.2.2.1 + 11) + Fc.2.2.2.2.2 ≤ F.2.2.2.2.2) (hst : (st.map fun v => v.category).sum ≤ 8) (e : pc + 3 = t) (hE : gn h ≤ nE) (kk : ∀ (v : Int32) (I' : Nat → Nat → Int32), P v I' → Wp E F nE t L (.int v :: st) (gM I' h) K) : Wp E F nE pc L S (gM I h) K :=
  g_callS hm hw1 hw2 he hn hS hE hfr hlo hst d e fun r σ' q _ => by obtain ⟨v, I', rfl, rfl, q⟩ := q; exact kk v I' q
theorem g_retP {v v0 : Int32} {ty : FieldType} (d : decode F.2.1 pc = .ok (.ireturn, 1)) (hr : F.2.2.2.1 = some ty) (hn : narrow ty (.int v) = .int v) (hq : v = v0) : Wp E F (gn h) pc L [.int v] (gM I h) (gRet F (gn h) (fun r σ' => r = some (.int v0) ∧ σ' = gM I h)) :=
  Wp.here ⟨rfl, Or.inl ⟨d, v, ty, rfl, hr, hn, by rw [hq], rfl⟩⟩
theorem g_retI {v : Int32} {ty : FieldType} {h0 : gX} {P : Int32 → (Nat → Nat → Int32) → Prop} (d : decode F.2.1 pc = .ok (.ireturn, 1)) (hr : F.2.2.2.1 = some ty) (hn : narrow ty (.int v) = .int v) (hq : P v I) : Wp E F (gn h0) pc L [.int v] (gM I h0) (gRet F (gn h0) (fun r σ' => ∃ (v : Int32) (I' : Nat → Nat → Int32), r = some (.int v) ∧ σ' = gM I' h0 ∧ P v I')) :=
  Wp.here ⟨rfl, Or.inl ⟨d, v, ty, rfl, hr, hn, v, I, rfl, rfl, hq⟩⟩
theorem g_retV {P : (Nat → Nat → Int32) → Prop} (d : decode F.2.1 pc = .ok (.return_, 1)) (hr : F.2.2.2.1 = none) (hq : P I) : Wp E F (gn h) pc L [] (gM I h) (gRet F (gn h) (fun r σ' => ∃ I' : Nat → Nat → Int32, r = none ∧ σ' = gM I' h ∧ P I')) :=
  Wp.here ⟨rfl, Or.inr (Or.inl ⟨d, rfl, hr, I, rfl, rfl, hq⟩)⟩
/-- the top of the stack, otherwise said -/
theorem g_top {σ : gS} {x y : Int32} (hxy : x = y) (k : Wp E F nE pc L (.int y :: st) σ K) : Wp E F nE pc L (.int x :: st) σ K := hxy ▸ k
theorem g_if {σ : gS} {c : Prop} [Decidable c] {x y : Int32} (k : Wp E F nE pc L (.int (if c then x else y) :: st) σ K) (hc : c) : Wp E F nE pc L (.int x :: st) σ K := by rw [if_pos hc] at k; exact k
/-- two numbers compared -/
theorem g_icmp_ge_n {t1 t2 a b : Nat} {σ : gS} {off : Int} (d : decode F.2.1 pc = .ok (.if_icmp .ge off, 3)) (ht : (pc : Int) + off = (t1 : Int)) (e : pc + 3 = t2) (ha : a < 2 ^ 31) (hb : b < 2 ^ 31) (kt : b ≤ a → Wp E F nE t1 L st σ K) (kf : a < b → Wp E F nE t2 L st σ K) : Wp E F nE pc L (.int (nI b) :: .int (nI a) :: st) σ K :=
  g_icmp_ge d ht e (fun q => kt ((nI_leI hb ha).mp q)) (fun q => kf (Nat.lt_of_not_le fun z => q ((nI_leI hb ha).mpr z)))
theorem g_icmp_gt_n {t1 t2 a b : Nat} {σ : gS} {off : Int} (d : decode F.2.1 pc = .ok (.if_icmp .gt off, 3)) (ht : (pc : Int) + off = (t1 : Int)) (e : pc + 3 = t2) (ha : a < 2 ^ 31) (hb : b < 2 ^ 31) (kt : b < a → Wp E F nE t1 L st σ K) (kf : a ≤ b → Wp E F nE t2 L st σ K) : Wp E F nE pc L (.int (nI b) :: .int (nI a) :: st) σ K :=
  g_icmp_gt d ht e (fun q => kt ((nI_ltI hb ha).mp q)) (fun q => kf (Nat.le_of_not_lt fun z => q ((nI_ltI hb ha).mpr z)))
theorem g_icmp_le_n {t1 t2 a b : Nat} {σ : gS} {off : Int} (d : decode F.2.1 pc = .ok (.if_icmp .le off, 3)) (ht : (pc : Int) + off = (t1 : Int)) (e : pc + 3 = t2) (ha : a < 2 ^ 31) (hb : b < 2 ^ 31) (kt : a ≤ b → Wp E F nE t1 L st σ K) (kf : b < a → Wp E F nE t2 L st σ K) : Wp E F nE pc L (.int (nI b) :: .int (nI a) :: st) σ K :=
  g_icmp_le d ht e (fun q => kt ((nI_leI ha hb).mp q)) (fun q => kf (Nat.lt_of_not_le fun z => q ((nI_leI ha hb).mpr z)))
theorem g_icmp_lt_n {t1 t2 a b : Nat} {σ : gS} {off : Int} (d : decode F.2.1 pc = .ok (.if_icmp .lt off, 3)) (ht : (pc : Int) + off = (t1 : Int)) (e : pc + 3 = t2) (ha : a < 2 ^ 31) (hb : b < 2 ^ 31) (kt : a < b → Wp E F nE t1 L st σ K) (kf : b ≤ a → Wp E F nE t2 L st σ K) : Wp E F nE pc L (.int (nI b) :: .int (nI a) :: st) σ K :=
  g_icmp_lt d ht e (fun q => kt ((nI_ltI ha hb).mp q)) (fun q => kf (Nat.le_of_not_lt fun z => q ((nI_ltI ha hb).mpr z)))
theorem g_icmp_eq_n {t1 t2 a b : Nat} {σ : gS} {off : Int} (d : decode F.2.1 pc = .ok (.if_icmp .eq off, 3)) (ht : (pc : Int) + off = (t1 : Int)) (e : pc + 3 = t2) (ha : a < 2 ^ 31) (hb : b < 2 ^ 31) (kt : a = b → Wp E F nE t1 L st σ K) (kf : a ≠ b → Wp E F nE t2 L st σ K) : Wp E F nE pc L (.int (nI b) :: .int (nI a) :: st) σ K :=
  g_icmp_eq d ht e (fun q => kt ((nI_eq ha hb).mp q)) (fun q => kf fun z => q ((nI_eq ha hb).mpr z))
theorem g_icmp_ne_n {t1 t2 a b : Nat} {σ : gS} {off : Int} (d : decode F.2.1 pc = .ok (.if_icmp .ne off, 3)) (ht : (pc : Int) + off = (t1 : Int)) (e : pc + 3 = t2) (ha : a < 2 ^ 31) (hb : b < 2 ^ 31) (kt : a ≠ b → Wp E F nE t1 L st σ K) (kf : a = b → Wp E F nE t2 L st σ K) : Wp E F nE pc L (.int (nI b) :: .int (nI a) :: st) σ K :=
  g_icmp_ne d ht e (fun q => kt fun z => q ((nI_eq ha hb).mpr z)) (fun q => kf ((nI_eq ha hb).mp q))
end GSTD
/-- cells that stay -/
def gSame (cs : List Nat) (I I' : Nat → Nat → Int32) : Prop := ∀ c, c ∉ cs → I' c = I c
theorem gSame.rf {cs : List Nat} {I : Nat → Nat → Int32} : gSame cs I I := fun _ _ => rfl
theorem gSame.trans {cs : List Nat} {I I1 I2 : Nat → Nat → Int32} (h1 : gSame cs I I1) (h2 : gSame cs I1 I2) : gSame cs I I2 := fun c hc => (h2 c hc).trans (h1 c hc)
theorem gSame.wk {cs cs2 : List Nat} {I I' : Nat → Nat → Int32} (h : gSame cs I I') (hs : cs.all (fun c => cs2.contains c) = true) : gSame cs2 I I' := fun c hc => h c fun q => hc (by have := List.all_eq_true.mp hs c q; simpa using this)
theorem gSame.up {cs : List Nat} {I I' : Nat → Nat → Int32} {o k : Nat} {v : Int32} (h : gSame cs I I') (ho : cs.contains o = true) : gSame cs I (gup I' o k v) := fun c hc => by
  have : c ≠ o := fun q => hc (by subst q; simpa using ho)
  rw [gup_rowo _ _ _ this]
  exact h c hc
theorem gSame.at {cs : List Nat} {I I' : Nat → Nat → Int32} (h : gSame cs I I') (c : Nat) (hc : cs.contains c = false) : I' c = I c := h c (by simpa using hc)

section GMROWS
variable {E : gE} {F : gF} {nE pc : Nat} {L st : List Value} {I : Nat → Nat → Int32} {h : gX} {K : gK}
theorem gm_getI {ci k o index t : Nat} (ho : o + h.1 < gn h) (h9 : o < 1000) (hsh : gsh h o = .inl ci) (hf : gFL F.1.cls index ci k) (h0 : gfk ci k = 0) (d : decode F.2.1 pc = .ok (.getfield index, 3)) (e : pc + 3 = t) (kk : Wp E F nE t L (.int (I o k) :: st) (gM I h) K) : Wp E F nE pc L (.ref o :: st) (gM I h) K := g_getI ho h9 hsh hf h0 d e kk
theorem gm_getR {ci k o r index t : Nat} (ho : o + h.1 < gn h) (h9 : o < 1000) (hsh : gsh h o = .inl ci) (hf : gFL F.1.cls index ci k) (h0 : gfk ci k = 1) (hr : gR0 o k = some r) (hr9 : r < 1000) (d : decode F.2.1 pc = .ok (.getfield index, 3)) (e : pc + 3 = t) (kk : Wp E F nE t L (.ref r :: st) (gM I h) K) : Wp E F nE pc L (.ref o :: st) (gM I h) K := g_getR ho h9 hsh hf h0 hr hr9 d e kk
theorem gm_putI {ci k o index t : Nat} {ty : FieldType} {v : Int32} (ho : o + h.1 < gn h) (h9 : o < 1000) (hsh : gsh h o = .inl ci) (hf : gFP F.1.cls index ci k ty false) (h0 : gfk ci k = 0) (hn : narrow ty (.int v) = .int v) (hfit : fits ty (.int v) = true) (d : decode F.2.1 pc = .ok (.putfield index, 3)) (e : pc + 3 = t) (kk : Wp E F nE t L st (gM (gup I o k v) h) K) : Wp E F nE pc L (.int v :: .ref o :: st) (gM I h) K := g_putI ho h9 hsh hf h0 hn hfit d e kk
theorem gm_iald {a n t : Nat} {i : Int32} (ha : a + h.1 < gn h) (h9 : a < 1000) (hsh : gsh h a = .inr (0, n)) (d : decode F.2.1 pc = .ok (.iaload, 1)) (hin : vp_in i n) (e : pc + 1 = t) (kk : Wp E F nE t L (.int (I a i.toNatClampNeg) :: st) (gM I h) K) : Wp E F nE pc L (.int i :: .ref a :: st) (gM I h) K := g_iald ha h9 hsh hin d e kk
theorem gm_iald_n {a n t i : Nat} (ha : a + h.1 < gn h) (h9 : a < 1000) (hsh : gsh h a = .inr (0, n)) (d : decode F.2.1 pc = .ok (.iaload, 1)) (hin : i < n) (hn : n < 2 ^ 31) (e : pc + 1 = t) (kk : Wp E F nE t L (.int (I a i) :: st) (gM I h) K) : Wp E F nE pc L (.int (nI i) :: .ref a :: st) (gM I h) K := g_iald ha h9 hsh (vp_in_nI hin hn) d e (by rw [nI_clamp (Nat.lt_trans hin hn)]; exact kk)
theorem gm_bald {a n t : Nat} {i : Int32} (ha : a + h.1 < gn h) (h9 : a < 1000) (hsh : gsh h a = .inr (1, n)) (d : decode F.2.1 pc = .ok (.baload, 1)) (hin : vp_in i n) (e : pc + 1 = t) (kk : Wp E F nE t L (.int (I a i.toNatClampNeg) :: st) (gM I h) K) : Wp E F nE pc L (.int i :: .ref a :: st) (gM I h) K := g_bald ha h9 hsh hin d e kk
theorem gm_bald_n {a n t i : Nat} (ha : a + h.1 < gn h) (h9 : a < 1000) (hsh : gsh h a = .inr (1, n)) (d : decode F.2.1 pc = .ok (.baload, 1)) (hin : i < n) (hn : n < 2 ^ 31) (e : pc + 1 = t) (kk : Wp E F nE t L (.int (I a i) :: st) (gM I h) K) : Wp E F nE pc L (.int (nI i) :: .ref a :: st) (gM I h) K := g_bald ha h9 hsh (vp_in_nI hin hn) d e (by rw [nI_clamp (Nat.lt_trans hin hn)]; exact kk)
theorem gm_zald {a n t : Nat} {i : Int32} (ha : a + h.1 < gn h) (h9 : a < 1000) (hsh : gsh h a = .inr (2, n)) (d : decode F.2.1 pc = .ok (.baload, 1)) (hin : vp_in i n) (e : pc + 1 = t) (kk : Wp E F nE t L (.int (I a i.toNatClampNeg) :: st) (gM I h) K) : Wp E F nE pc L (.int i :: .ref a :: st) (gM I h) K := g_zald ha h9 hsh hin d e kk
theorem gm_zald_n {a n t i : Nat} (ha : a + h.1 < gn h) (h9 : a < 1000) (hsh : gsh h a = .inr (2, n)) (d : decode F.2.1 pc = .ok (.baload, 1)) (hin : i < n) (hn : n < 2 ^ 31) (e : pc + 1 = t) (kk : Wp E F nE t L (.int (I a i) :: st) (gM I h) K) : Wp E F nE pc L (.int (nI i) :: .ref a :: st) (gM I h) K := g_zald ha h9 hsh (vp_in_nI hin hn) d e (by rw [nI_clamp (Nat.lt_trans hin hn)]; exact kk)
theorem gm_iast {a n t : Nat} {i x : Int32} (ha : a + h.1 < gn h) (h9 : a < 1000) (hsh : gsh h a = .inr (0, n)) (d : decode F.2.1 pc = .ok (.iastore, 1)) (hin : vp_in i n) (e : pc + 1 = t) (kk : Wp E F nE t L st (gM (gup I a i.toNatClampNeg x) h) K) : Wp E F nE pc L (.int x :: .int i :: .ref a :: st) (gM I h) K := g_iast ha h9 hsh hin d e kk
theorem gm_iast_n {a n t i : Nat} {x : Int32} (ha : a + h.1 < gn h) (h9 : a < 1000) (hsh : gsh h a = .inr (0, n)) (d : decode F.2.1 pc = .ok (.iastore, 1)) (hin : i < n) (hn : n < 2 ^ 31) (e : pc + 1 = t) (kk : Wp E F nE t L st (gM (gup I a i x) h) K) : Wp E F nE pc L (.int x :: .int (nI i) :: .ref a :: st) (gM I h) K := g_iast ha h9 hsh (vp_in_nI hin hn) d e (by rw [nI_clamp (Nat.lt_trans hin hn)]; exact kk)
theorem gm_bast {a n t : Nat} {i x : Int32} (ha : a + h.1 < gn h) (h9 : a < 1000) (hsh : gsh h a = .inr (1, n)) (hx : narrow .byte (.int x) = .int x) (d : decode F.2.1 pc = .ok (.bastore, 1)) (hin : vp_in i n) (e : pc + 1 = t) (kk : Wp E F nE t L st (gM (gup I a i.toNatClampNeg x) h) K) : Wp E F nE pc L (.int x :: .int i :: .ref a :: st) (gM I h) K := g_bast ha h9 hsh hin hx d e kk
theorem gm_bast_n {a n t i : Nat} {x : Int32} (ha : a + h.1 < gn h) (h9 : a < 1000) (hsh : gsh h a = .inr (1, n)) (hx : narrow .byte (.int x) = .int x) (d : decode F.2.1 pc = .ok (.bastore, 1)) (hin : i < n) (hn : n < 2 ^ 31) (e : pc + 1 = t) (kk : Wp E F nE t L st (gM (gup I a i x) h) K) : Wp E F nE pc L (.int x :: .int (nI i) :: .ref a :: st) (gM I h) K := g_bast ha h9 hsh (vp_in_nI hin hn) hx d e (by rw [nI_clamp (Nat.lt_trans hin hn)]; exact kk)
theorem gm_zast {a n t : Nat} {i x : Int32} (ha : a + h.1 < gn h) (h9 : a < 1000) (hsh : gsh h a = .inr (2, n)) (hx : narrow .boolean (.int x) = .int x) (d : decode F.2.1 pc = .ok (.bastore, 1)) (hin : vp_in i n) (e : pc + 1 = t) (kk : Wp E F nE t L st (gM (gup I a i.toNatClampNeg x) h) K) : Wp E F nE pc L (.int x :: .int i :: .ref a :: st) (gM I h) K := g_zast ha h9 hsh hin hx d e kk
theorem gm_zast_n {a n t i : Nat} {x : Int32} (ha : a + h.1 < gn h) (h9 : a < 1000) (hsh : gsh h a = .inr (2, n)) (hx : narrow .boolean (.int x) = .int x) (d : decode F.2.1 pc = .ok (.bastore, 1)) (hin : i < n) (hn : n < 2 ^ 31) (e : pc + 1 = t) (kk : Wp E F nE t L st (gM (gup I a i x) h) K) : Wp E F nE pc L (.int x :: .int (nI i) :: .ref a :: st) (gM I h) K := g_zast ha h9 hsh (vp_in_nI hin hn) hx d e (by rw [nI_clamp (Nat.lt_trans hin hn)]; exact kk)
def gcpy (I : Nat → Nat → Int32) (b : Nat) (f : Nat → Int32) (sp dp n : Nat) : Nat → Nat → Int32 := fun o => if o = b then va_cpy f (I b) sp dp n else I o
theorem gm_copy {index a b n0 n1 t sp dp n : Nat} (hw1 : Cond.methodLink F.1.cls index arraycopyName ∈ gB) (ha : a + h.1 < gn h) (ha9 : a < 1000) (hsa : gsh h a = .inr (0, n0)) (hb : b + h.1 < gn h) (h9 : b < 1000) (hsh : gsh h b = .inr (0, n1)) (h4 : sp + n ≤ n0) (h5 : dp + n ≤ n1) (hn0 : n0 < 2 ^ 31) (hn1 : n1 < 2 ^ 31) (hfr : 1 ≤ F.2.2.2.2.1) (hlo : 26 ≤ F.2.2.2.2.2) (hst : (st.map fun v => v.category).sum ≤ 8) (d : decode F.2.1 pc = .ok (.invokestatic index, 3)) (e : pc + 3 = t)
    (kk : Wp E F nE t L st (gM (gcpy I b (I a) sp dp n) h) K) : Wp E F nE pc L (.int (nI n) :: .int (nI dp) :: .ref b :: .int (nI sp) :: .ref a :: st) (gM I h) K := by
  have k1 := nI_clamp (n := n) (by omega)
  have k2 := nI_clamp (n := dp) (by omega)
  have k3 := nI_clamp (n := sp) (by omega)
  exact g_copy hw1 k_ac1 k_ac2 k_ac3 ha ha9 hsa hb h9 hsh (nI_pos (by omega)) (nI_pos (by omega)) (nI_pos (by omega)) (by rw [k1, k3]; exact h4) (by rw [k1, k2]; exact h5) hfr hlo hst d e (by rw [k1, k2, k3]; exact kk)
theorem gm_copyT {index j r b n1 t sp dp n : Nat} {q : String × List Int32} (hw1 : Cond.methodLink F.1.cls index arraycopyName ∈ gB) (hj : gst[j]? = some q) (hr : r = 1001 + j) (hb : b + h.1 < gn h) (h9 : b < 1000) (hsh : gsh h b = .inr (0, n1)) (h4 : sp + n ≤ q.2.length) (h5 : dp + n ≤ n1) (hn0 : q.2.length < 2 ^ 31) (hn1 : n1 < 2 ^ 31) (hfr : 1 ≤ F.2.2.2.2.1) (hlo : 26 ≤ F.2.2.2.2.2) (hst : (st.map fun v => v.category).sum ≤ 8) (d : decode F.2.1 pc = .ok (.invokestatic index, 3)) (e : pc + 3 = t)
    (kk : Wp E F nE t L st (gM (gcpy I b (fun k => q.2.getD k 0) sp dp n) h) K) : Wp E F nE pc L (.int (nI n) :: .int (nI dp) :: .ref b :: .int (nI sp) :: .ref r :: st) (gM I h) K := by
  have k1 := nI_clamp (n := n) (by omega)
  have k2 := nI_clamp (n := dp) (by omega)
  have k3 := nI_clamp (n := sp) (by omega)
  exact g_copyT hw1 k_ac1 k_ac2 k_ac3 hj hr hb h9 hsh (nI_pos (by omega)) (nI_pos (by omega)) (nI_pos (by omega)) (by rw [k1, k3]; exact h4) (by rw [k1, k2]; exact h5) hfr hlo hst d e (by rw [k1, k2, k3]; exact kk)
theorem gm_tld_n {t j r i : Nat} {q : String × List Int32} (hj : gst[j]? = some q) (hr : r = 1001 + j) (d : decode F.2.1 pc = .ok (.iaload, 1)) (hin : i < q.2.length) (hn : q.2.length < 2 ^ 31) (e : pc + 1 = t) (kk : Wp E F nE t L (.int (q.2.getD i 0) :: st) (gM I h) K) : Wp E F nE pc L (.int (nI i) :: .ref r :: st) (gM I h) K := g_tld hj hr (vp_in_nI hin hn) d e (by rw [nI_clamp (Nat.lt_trans hin hn)]; exact kk)
theorem gi_1 (a : Nat) : nI a + Int32.ofInt 1 = nI (a + 1) := nI_1 a
theorem gi_m1 (a : Nat) : nI (a + 1) + Int32.ofInt (-1) = nI a := by
  rw [show Int32.ofInt (-1) = -1 by decide +kernel]
  exact pk_m1 a
theorem g_maxE (x y : Int32) : (if x < y then y else x) = (if y ≤ x then x else y) := by
  by_cases q : x < y
  · rw [if_pos q, if_neg (Int32.not_le.mpr q)]
  · rw [if_neg q, if_pos (Int32.not_lt.mp q)]
end GMROWS

