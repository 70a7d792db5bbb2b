/-! the constructors, over the heap as it grows -/
def gRL (L : List (Nat × Nat × Nat)) : Nat → Nat → Option Nat := L.foldr (fun q f => gupR f q.1 q.2.1 q.2.2) (fun _ _ => none)
theorem gRL_none {L : List (Nat × Nat × Nat)} {n : Nat} (h : L.all (fun q => decide (q.1 < n)) = true) (k : Nat) : gRL L n k = none := by
  induction L with
  | nil => rfl
  | cons q t ih =>
    rw [List.all_cons, Bool.and_eq_true] at h
    have h1 := of_decide_eq_true h.1
    show gupR (gRL t) q.1 q.2.1 q.2.2 n k = none
    unfold gupR
    rw [if_neg (fun z => by omega)]
    exact ih h.2
def cI0 : Nat → Nat → Int32 := fun _ _ => 0
def cI1 : Nat → Nat → Int32 := gcpy cI0 5 (fun k => (gst.getD 5 ("", [])).2.getD k 0) 0 0 7
def cI2 : Nat → Nat → Int32 := gup cI1 0 7 (nI 0)
def cI3 : Nat → Nat → Int32 := gup cI2 42 177 (nI 300)
def cI4 : Nat → Nat → Int32 := gup cI3 42 180 (nI 1)
section CTOR
variable {E : gE}
theorem ct2_X5_init : gEv E fX5_init 4 [.ref 1] (2, cI0, gRL [], 0) (fun r σ' => r = none ∧ σ' = (4, cI0, gRL [(1, 1, 3), (1, 0, 2)], 0)) := by
  refine gEv.of rfl (by decide) (Nat.le_of_ble_eq_true rfl) (L := [.ref 1]) rfl ?_
  refine g_aload_n (i := 0) (r := 1) (t := 1) dX5_init_0 rfl rfl (Or.inl l9_1) rfl ?_
  refine g_objInit (o := 1) (t := 4) l9_1 k_X5_3 k_oi1 k_oi2 (by decide) (by decide) (by decide) dX5_init_1 rfl ?_
  refine g_aload_n (i := 0) (r := 1) (t := 5) dX5_init_4 rfl rfl (Or.inl l9_1) rfl ?_
  refine g_bipush (t := 7) dX5_init_5 c_bipush_80 rfl ?_
  refine g_newa (at_ := .byte) (kd := 1) (n := 80) (o := 2) (t := 9) rfl (by decide) ka_byte s_2 rfl l9_2 (nI_pos (by decide)) (nI_clamp (by decide)) (by decide) (by decide) (fun _ => rfl) dX5_init_7 rfl ?_
  refine g_putR (ci := 5) (k := 0) (o := 1) (r := 2) (t := 12) (by decide) l9_1 s_1 gp_X5_9 rfl l9_2 rfl (by first | exact ⟨_, Or.inl rfl⟩ | exact ⟨"", Or.inr ⟨_, rfl⟩⟩) dX5_init_9 rfl ?_
  refine Wp.eq (σ1 := (3, cI0, gRL [(1, 0, 2)], 0)) rfl rfl rfl rfl ?_
  refine g_aload_n (i := 0) (r := 1) (t := 13) dX5_init_12 rfl rfl (Or.inl l9_1) rfl ?_
  refine g_bipush (t := 15) dX5_init_13 c_bipush_10 rfl ?_
  refine g_newa (at_ := .int) (kd := 0) (n := 10) (o := 3) (t := 17) rfl (by decide) ka_int s_3 rfl l9_3 (nI_pos (by decide)) (nI_clamp (by decide)) (by decide) (by decide) (fun _ => rfl) dX5_init_15 rfl ?_
  refine g_putR (ci := 5) (k := 1) (o := 1) (r := 3) (t := 20) (by decide) l9_1 s_1 gp_X5_15 rfl l9_3 rfl (by first | exact ⟨_, Or.inl rfl⟩ | exact ⟨"", Or.inr ⟨_, rfl⟩⟩) dX5_init_17 rfl ?_
  refine Wp.eq (σ1 := (4, cI0, gRL [(1, 1, 3), (1, 0, 2)], 0)) rfl rfl rfl rfl ?_
  exact Wp.here ⟨rfl, Or.inr (Or.inl ⟨dX5_init_20, rfl, rfl, rfl, rfl⟩)⟩
theorem ct3_X4_init : gEv E fX4_init 7 [.ref 4] (5, cI0, gRL [(0, 0, 1), (1, 1, 3), (1, 0, 2)], 0) (fun r σ' => r = none ∧ σ' = (7, cI1, gRL [(4, 2, 6), (4, 1, 5), (0, 0, 1), (1, 1, 3), (1, 0, 2)], 0)) := by
  refine gEv.of rfl (by decide) (Nat.le_of_ble_eq_true rfl) (L := [.ref 4]) rfl ?_
  refine g_aload_n (i := 0) (r := 4) (t := 1) dX4_init_0 rfl rfl (Or.inl l9_4) rfl ?_
  refine g_objInit (o := 4) (t := 4) l9_4 k_X4_3 k_oi1 k_oi2 (by decide) (by decide) (by decide) dX4_init_1 rfl ?_
  refine g_aload_n (i := 0) (r := 4) (t := 5) dX4_init_4 rfl rfl (Or.inl l9_4) rfl ?_
  refine g_bipush (t := 7) dX4_init_5 c_bipush_7 rfl ?_
  refine g_newa (at_ := .int) (kd := 0) (n := 7) (o := 5) (t := 9) rfl (by decide) ka_int s_5 rfl l9_5 (nI_pos (by decide)) (nI_clamp (by decide)) (by decide) (by decide) (fun _ => rfl) dX4_init_7 rfl ?_
  refine g_putR (ci := 4) (k := 1) (o := 4) (r := 5) (t := 12) (by decide) l9_4 s_4 gp_X4_9 rfl l9_5 rfl (by first | exact ⟨_, Or.inl rfl⟩ | exact ⟨"", Or.inr ⟨_, rfl⟩⟩) dX4_init_9 rfl ?_
  refine Wp.eq (σ1 := (6, cI0, gRL [(4, 1, 5), (0, 0, 1), (1, 1, 3), (1, 0, 2)], 0)) rfl rfl rfl rfl ?_
  refine g_aload_n (i := 0) (r := 4) (t := 13) dX4_init_12 rfl rfl (Or.inl l9_4) rfl ?_
  refine g_sipush (t := 16) dX4_init_13 c_sipush_176 rfl ?_
  refine g_newa (at_ := .int) (kd := 0) (n := 176) (o := 6) (t := 18) rfl (by decide) ka_int s_6 rfl l9_6 (nI_pos (by decide)) (nI_clamp (by decide)) (by decide) (by decide) (fun _ => rfl) dX4_init_16 rfl ?_
  refine g_putR (ci := 4) (k := 2) (o := 4) (r := 6) (t := 21) (by decide) l9_4 s_4 gp_X4_15 rfl l9_6 rfl (by first | exact ⟨_, Or.inl rfl⟩ | exact ⟨"", Or.inr ⟨_, rfl⟩⟩) dX4_init_18 rfl ?_
  refine Wp.eq (σ1 := (7, cI0, gRL [(4, 2, 6), (4, 1, 5), (0, 0, 1), (1, 1, 3), (1, 0, 2)], 0)) rfl rfl rfl rfl ?_
  refine g_getsN (j := 5) (r := 1006) (t := 24) rfl rfl (List.mem_of_getElem? (i := 1) rfl) dX4_init_21 rfl ?_
  refine g_iconst (t := 25) dX4_init_24 c_iconst_0 rfl ?_
  refine g_aload_n (i := 0) (r := 4) (t := 26) dX4_init_25 rfl rfl (Or.inl l9_4) rfl ?_
  refine g_getR (ci := 4) (k := 1) (o := 4) (r := 5) (t := 29) (by decide) l9_4 s_4 gf_X4_9 rfl (by decide) l9_5 dX4_init_26 rfl ?_
  refine g_iconst (t := 30) dX4_init_29 c_iconst_0 rfl ?_
  refine g_bipush (t := 32) dX4_init_30 c_bipush_7 rfl ?_
  refine g_copyT (j := 5) (r := 1006) (b := 5) (n1 := 7) (t := 35) k_X4_21 k_ac1 k_ac2 k_ac3 rfl rfl (by decide) l9_5 s_5 (nI_pos (by decide)) (nI_pos (by decide)) (nI_pos (by decide)) (by decide +kernel) (by decide +kernel) (by decide) (by decide) (by decide) dX4_init_32 rfl ?_
  refine Wp.eq (σ1 := (7, cI1, gRL [(4, 2, 6), (4, 1, 5), (0, 0, 1), (1, 1, 3), (1, 0, 2)], 0)) rfl rfl rfl (by rw [nI_clamp (n := 0) (by decide), nI_clamp (n := 7) (by decide)]; rfl) ?_
  exact Wp.here ⟨rfl, Or.inr (Or.inl ⟨dX4_init_35, rfl, rfl, rfl, rfl⟩)⟩
theorem ct4_X0_init : gEv E fX0_init 11 [.ref 7] (8, cI1, gRL [(0, 1, 4), (4, 2, 6), (4, 1, 5), (0, 0, 1), (1, 1, 3), (1, 0, 2)], 0) (fun r σ' => r = none ∧ σ' = (11, cI1, gRL [(7, 4, 10), (7, 3, 9), (7, 2, 8), (0, 1, 4), (4, 2, 6), (4, 1, 5), (0, 0, 1), (1, 1, 3), (1, 0, 2)], 0)) := by
  refine gEv.of rfl (by decide) (Nat.le_of_ble_eq_true rfl) (L := [.ref 7]) rfl ?_
  refine g_aload_n (i := 0) (r := 7) (t := 1) dX0_init_0 rfl rfl (Or.inl l9_7) rfl ?_
  refine g_objInit (o := 7) (t := 4) l9_7 k_X0_3 k_oi1 k_oi2 (by decide) (by decide) (by decide) dX0_init_1 rfl ?_
  refine g_aload_n (i := 0) (r := 7) (t := 5) dX0_init_4 rfl rfl (Or.inl l9_7) rfl ?_
  refine g_bipush (t := 7) dX0_init_5 c_bipush_8 rfl ?_
  refine g_newa (at_ := .int) (kd := 0) (n := 8) (o := 8) (t := 9) rfl (by decide) ka_int s_8 rfl l9_8 (nI_pos (by decide)) (nI_clamp (by decide)) (by decide) (by decide) (fun _ => rfl) dX0_init_7 rfl ?_
  refine g_putR (ci := 0) (k := 2) (o := 7) (r := 8) (t := 12) (by decide) l9_7 s_7 gp_X0_9 rfl l9_8 rfl (by first | exact ⟨_, Or.inl rfl⟩ | exact ⟨"", Or.inr ⟨_, rfl⟩⟩) dX0_init_9 rfl ?_
  refine Wp.eq (σ1 := (9, cI1, gRL [(7, 2, 8), (0, 1, 4), (4, 2, 6), (4, 1, 5), (0, 0, 1), (1, 1, 3), (1, 0, 2)], 0)) rfl rfl rfl rfl ?_
  refine g_aload_n (i := 0) (r := 7) (t := 13) dX0_init_12 rfl rfl (Or.inl l9_7) rfl ?_
  refine g_bipush (t := 15) dX0_init_13 c_bipush_56 rfl ?_
  refine g_newa (at_ := .int) (kd := 0) (n := 56) (o := 9) (t := 17) rfl (by decide) ka_int s_9 rfl l9_9 (nI_pos (by decide)) (nI_clamp (by decide)) (by decide) (by decide) (fun _ => rfl) dX0_init_15 rfl ?_
  refine g_putR (ci := 0) (k := 3) (o := 7) (r := 9) (t := 20) (by decide) l9_7 s_7 gp_X0_15 rfl l9_9 rfl (by first | exact ⟨_, Or.inl rfl⟩ | exact ⟨"", Or.inr ⟨_, rfl⟩⟩) dX0_init_17 rfl ?_
  refine Wp.eq (σ1 := (10, cI1, gRL [(7, 3, 9), (7, 2, 8), (0, 1, 4), (4, 2, 6), (4, 1, 5), (0, 0, 1), (1, 1, 3), (1, 0, 2)], 0)) rfl rfl rfl rfl ?_
  refine g_aload_n (i := 0) (r := 7) (t := 21) dX0_init_20 rfl rfl (Or.inl l9_7) rfl ?_
  refine g_sipush (t := 24) dX0_init_21 c_sipush_1408 rfl ?_
  refine g_newa (at_ := .int) (kd := 0) (n := 1408) (o := 10) (t := 26) rfl (by decide) ka_int s_10 rfl l9_10 (nI_pos (by decide)) (nI_clamp (by decide)) (by decide) (by decide) (fun _ => rfl) dX0_init_24 rfl ?_
  refine g_putR (ci := 0) (k := 4) (o := 7) (r := 10) (t := 29) (by decide) l9_7 s_7 gp_X0_18 rfl l9_10 rfl (by first | exact ⟨_, Or.inl rfl⟩ | exact ⟨"", Or.inr ⟨_, rfl⟩⟩) dX0_init_26 rfl ?_
  refine Wp.eq (σ1 := (11, cI1, gRL [(7, 4, 10), (7, 3, 9), (7, 2, 8), (0, 1, 4), (4, 2, 6), (4, 1, 5), (0, 0, 1), (1, 1, 3), (1, 0, 2)], 0)) rfl rfl rfl rfl ?_
  exact Wp.here ⟨rfl, Or.inr (Or.inl ⟨dX0_init_29, rfl, rfl, rfl, rfl⟩)⟩
theorem ct5_X2_init : gEv E fX2_init 18 [.ref 11, .ref 4] (12, cI1, gRL [(0, 2, 7), (7, 4, 10), (7, 3, 9), (7, 2, 8), (0, 1, 4), (4, 2, 6), (4, 1, 5), (0, 0, 1), (1, 1, 3), (1, 0, 2)], 0) (fun r σ' => r = none ∧ σ' = (18, cI1, gRL [(11, 7, 4), (11, 6, 17), (11, 5, 16), (11, 4, 15), (11, 3, 14), (11, 2, 13), (11, 1, 12), (0, 2, 7), (7, 4, 10), (7, 3, 9), (7, 2, 8), (0, 1, 4), (4, 2, 6), (4, 1, 5), (0, 0, 1), (1, 1, 3), (1, 0, 2)], 0)) := by
  refine gEv.of rfl (by decide) (Nat.le_of_ble_eq_true rfl) (L := [.ref 11, .ref 4]) rfl ?_
  refine g_aload_n (i := 0) (r := 11) (t := 1) dX2_init_0 rfl rfl (Or.inl l9_11) rfl ?_
  refine g_objInit (o := 11) (t := 4) l9_11 k_X2_3 k_oi1 k_oi2 (by decide) (by decide) (by decide) dX2_init_1 rfl ?_
  refine g_aload_n (i := 0) (r := 11) (t := 5) dX2_init_4 rfl rfl (Or.inl l9_11) rfl ?_
  refine g_bipush (t := 7) dX2_init_5 c_bipush_16 rfl ?_
  refine g_newa (at_ := .int) (kd := 0) (n := 16) (o := 12) (t := 9) rfl (by decide) ka_int s_12 rfl l9_12 (nI_pos (by decide)) (nI_clamp (by decide)) (by decide) (by decide) (fun _ => rfl) dX2_init_7 rfl ?_
  refine g_putR (ci := 2) (k := 1) (o := 11) (r := 12) (t := 12) (by decide) l9_11 s_11 gp_X2_9 rfl l9_12 rfl (by first | exact ⟨_, Or.inl rfl⟩ | exact ⟨"", Or.inr ⟨_, rfl⟩⟩) dX2_init_9 rfl ?_
  refine Wp.eq (σ1 := (13, cI1, gRL [(11, 1, 12), (0, 2, 7), (7, 4, 10), (7, 3, 9), (7, 2, 8), (0, 1, 4), (4, 2, 6), (4, 1, 5), (0, 0, 1), (1, 1, 3), (1, 0, 2)], 0)) rfl rfl rfl rfl ?_
  refine g_aload_n (i := 0) (r := 11) (t := 13) dX2_init_12 rfl rfl (Or.inl l9_11) rfl ?_
  refine g_bipush (t := 15) dX2_init_13 c_bipush_16 rfl ?_
  refine g_newa (at_ := .int) (kd := 0) (n := 16) (o := 13) (t := 17) rfl (by decide) ka_int s_13 rfl l9_13 (nI_pos (by decide)) (nI_clamp (by decide)) (by decide) (by decide) (fun _ => rfl) dX2_init_15 rfl ?_
  refine g_putR (ci := 2) (k := 2) (o := 11) (r := 13) (t := 20) (by decide) l9_11 s_11 gp_X2_15 rfl l9_13 rfl (by first | exact ⟨_, Or.inl rfl⟩ | exact ⟨"", Or.inr ⟨_, rfl⟩⟩) dX2_init_17 rfl ?_
  refine Wp.eq (σ1 := (14, cI1, gRL [(11, 2, 13), (11, 1, 12), (0, 2, 7), (7, 4, 10), (7, 3, 9), (7, 2, 8), (0, 1, 4), (4, 2, 6), (4, 1, 5), (0, 0, 1), (1, 1, 3), (1, 0, 2)], 0)) rfl rfl rfl rfl ?_
  refine g_aload_n (i := 0) (r := 11) (t := 21) dX2_init_20 rfl rfl (Or.inl l9_11) rfl ?_
  refine g_bipush (t := 23) dX2_init_21 c_bipush_16 rfl ?_
  refine g_newa (at_ := .int) (kd := 0) (n := 16) (o := 14) (t := 25) rfl (by decide) ka_int s_14 rfl l9_14 (nI_pos (by decide)) (nI_clamp (by decide)) (by decide) (by decide) (fun _ => rfl) dX2_init_23 rfl ?_
  refine g_putR (ci := 2) (k := 3) (o := 11) (r := 14) (t := 28) (by decide) l9_11 s_11 gp_X2_18 rfl l9_14 rfl (by first | exact ⟨_, Or.inl rfl⟩ | exact ⟨"", Or.inr ⟨_, rfl⟩⟩) dX2_init_25 rfl ?_
  refine Wp.eq (σ1 := (15, cI1, gRL [(11, 3, 14), (11, 2, 13), (11, 1, 12), (0, 2, 7), (7, 4, 10), (7, 3, 9), (7, 2, 8), (0, 1, 4), (4, 2, 6), (4, 1, 5), (0, 0, 1), (1, 1, 3), (1, 0, 2)], 0)) rfl rfl rfl rfl ?_
  refine g_aload_n (i := 0) (r := 11) (t := 29) dX2_init_28 rfl rfl (Or.inl l9_11) rfl ?_
  refine g_bipush (t := 31) dX2_init_29 c_bipush_16 rfl ?_
  refine g_newa (at_ := .int) (kd := 0) (n := 16) (o := 15) (t := 33) rfl (by decide) ka_int s_15 rfl l9_15 (nI_pos (by decide)) (nI_clamp (by decide)) (by decide) (by decide) (fun _ => rfl) dX2_init_31 rfl ?_
  refine g_putR (ci := 2) (k := 4) (o := 11) (r := 15) (t := 36) (by decide) l9_11 s_11 gp_X2_21 rfl l9_15 rfl (by first | exact ⟨_, Or.inl rfl⟩ | exact ⟨"", Or.inr ⟨_, rfl⟩⟩) dX2_init_33 rfl ?_
  refine Wp.eq (σ1 := (16, cI1, gRL [(11, 4, 15), (11, 3, 14), (11, 2, 13), (11, 1, 12), (0, 2, 7), (7, 4, 10), (7, 3, 9), (7, 2, 8), (0, 1, 4), (4, 2, 6), (4, 1, 5), (0, 0, 1), (1, 1, 3), (1, 0, 2)], 0)) rfl rfl rfl rfl ?_
  refine g_aload_n (i := 0) (r := 11) (t := 37) dX2_init_36 rfl rfl (Or.inl l9_11) rfl ?_
  refine g_bipush (t := 39) dX2_init_37 c_bipush_16 rfl ?_
  refine g_newa (at_ := .int) (kd := 0) (n := 16) (o := 16) (t := 41) rfl (by decide) ka_int s_16 rfl l9_16 (nI_pos (by decide)) (nI_clamp (by decide)) (by decide) (by decide) (fun _ => rfl) dX2_init_39 rfl ?_
  refine g_putR (ci := 2) (k := 5) (o := 11) (r := 16) (t := 44) (by decide) l9_11 s_11 gp_X2_24 rfl l9_16 rfl (by first | exact ⟨_, Or.inl rfl⟩ | exact ⟨"", Or.inr ⟨_, rfl⟩⟩) dX2_init_41 rfl ?_
  refine Wp.eq (σ1 := (17, cI1, gRL [(11, 5, 16), (11, 4, 15), (11, 3, 14), (11, 2, 13), (11, 1, 12), (0, 2, 7), (7, 4, 10), (7, 3, 9), (7, 2, 8), (0, 1, 4), (4, 2, 6), (4, 1, 5), (0, 0, 1), (1, 1, 3), (1, 0, 2)], 0)) rfl rfl rfl rfl ?_
  refine g_aload_n (i := 0) (r := 11) (t := 45) dX2_init_44 rfl rfl (Or.inl l9_11) rfl ?_
  refine g_bipush (t := 47) dX2_init_45 c_bipush_16 rfl ?_
  refine g_newa (at_ := .int) (kd := 0) (n := 16) (o := 17) (t := 49) rfl (by decide) ka_int s_17 rfl l9_17 (nI_pos (by decide)) (nI_clamp (by decide)) (by decide) (by decide) (fun _ => rfl) dX2_init_47 rfl ?_
  refine g_putR (ci := 2) (k := 6) (o := 11) (r := 17) (t := 52) (by decide) l9_11 s_11 gp_X2_27 rfl l9_17 rfl (by first | exact ⟨_, Or.inl rfl⟩ | exact ⟨"", Or.inr ⟨_, rfl⟩⟩) dX2_init_49 rfl ?_
  refine Wp.eq (σ1 := (18, cI1, gRL [(11, 6, 17), (11, 5, 16), (11, 4, 15), (11, 3, 14), (11, 2, 13), (11, 1, 12), (0, 2, 7), (7, 4, 10), (7, 3, 9), (7, 2, 8), (0, 1, 4), (4, 2, 6), (4, 1, 5), (0, 0, 1), (1, 1, 3), (1, 0, 2)], 0)) rfl rfl rfl rfl ?_
  refine g_aload_n (i := 0) (r := 11) (t := 53) dX2_init_52 rfl rfl (Or.inl l9_11) rfl ?_
  refine g_aload_n (i := 1) (r := 4) (t := 54) dX2_init_53 rfl rfl (Or.inl l9_4) rfl ?_
  refine g_putR (ci := 2) (k := 7) (o := 11) (r := 4) (t := 57) (by decide) l9_11 s_11 gp_X2_30 rfl l9_4 rfl (by first | exact ⟨_, Or.inl rfl⟩ | exact ⟨"", Or.inr ⟨_, rfl⟩⟩) dX2_init_54 rfl ?_
  refine Wp.eq (σ1 := (18, cI1, gRL [(11, 7, 4), (11, 6, 17), (11, 5, 16), (11, 4, 15), (11, 3, 14), (11, 2, 13), (11, 1, 12), (0, 2, 7), (7, 4, 10), (7, 3, 9), (7, 2, 8), (0, 1, 4), (4, 2, 6), (4, 1, 5), (0, 0, 1), (1, 1, 3), (1, 0, 2)], 0)) rfl rfl rfl rfl ?_
  exact Wp.here ⟨rfl, Or.inr (Or.inl ⟨dX2_init_57, rfl, rfl, rfl, rfl⟩)⟩
theorem ct6_X1_init : gEv E fX1_init 27 [.ref 18, .ref 4, .ref 11] (19, cI1, gRL [(0, 3, 11), (11, 7, 4), (11, 6, 17), (11, 5, 16), (11, 4, 15), (11, 3, 14), (11, 2, 13), (11, 1, 12), (0, 2, 7), (7, 4, 10), (7, 3, 9), (7, 2, 8), (0, 1, 4), (4, 2, 6), (4, 1, 5), (0, 0, 1), (1, 1, 3), (1, 0, 2)], 0) (fun r σ' => r = none ∧ σ' = (27, cI1, gRL [(18, 10, 11), (18, 9, 4), (18, 8, 26), (18, 7, 25), (18, 6, 24), (18, 5, 23), (18, 4, 22), (18, 3, 21), (18, 2, 20), (18, 1, 19), (0, 3, 11), (11, 7, 4), (11, 6, 17), (11, 5, 16), (11, 4, 15), (11, 3, 14), (11, 2, 13), (11, 1, 12), (0, 2, 7), (7, 4, 10), (7, 3, 9), (7, 2, 8), (0, 1, 4), (4, 2, 6), (4, 1, 5), (0, 0, 1), (1, 1, 3), (1, 0, 2)], 0)) := by
  refine gEv.of rfl (by decide) (Nat.le_of_ble_eq_true rfl) (L := [.ref 18, .ref 4, .ref 11]) rfl ?_
  refine g_aload_n (i := 0) (r := 18) (t := 1) dX1_init_0 rfl rfl (Or.inl l9_18) rfl ?_
  refine g_objInit (o := 18) (t := 4) l9_18 k_X1_3 k_oi1 k_oi2 (by decide) (by decide) (by decide) dX1_init_1 rfl ?_
  refine g_aload_n (i := 0) (r := 18) (t := 5) dX1_init_4 rfl rfl (Or.inl l9_18) rfl ?_
  refine g_bipush (t := 7) dX1_init_5 c_bipush_16 rfl ?_
  refine g_newa (at_ := .int) (kd := 0) (n := 16) (o := 19) (t := 9) rfl (by decide) ka_int s_19 rfl l9_19 (nI_pos (by decide)) (nI_clamp (by decide)) (by decide) (by decide) (fun _ => rfl) dX1_init_7 rfl ?_
  refine g_putR (ci := 1) (k := 1) (o := 18) (r := 19) (t := 12) (by decide) l9_18 s_18 gp_X1_9 rfl l9_19 rfl (by first | exact ⟨_, Or.inl rfl⟩ | exact ⟨"", Or.inr ⟨_, rfl⟩⟩) dX1_init_9 rfl ?_
  refine Wp.eq (σ1 := (20, cI1, gRL [(18, 1, 19), (0, 3, 11), (11, 7, 4), (11, 6, 17), (11, 5, 16), (11, 4, 15), (11, 3, 14), (11, 2, 13), (11, 1, 12), (0, 2, 7), (7, 4, 10), (7, 3, 9), (7, 2, 8), (0, 1, 4), (4, 2, 6), (4, 1, 5), (0, 0, 1), (1, 1, 3), (1, 0, 2)], 0)) rfl rfl rfl rfl ?_
  refine g_aload_n (i := 0) (r := 18) (t := 13) dX1_init_12 rfl rfl (Or.inl l9_18) rfl ?_
  refine g_bipush (t := 15) dX1_init_13 c_bipush_16 rfl ?_
  refine g_newa (at_ := .int) (kd := 0) (n := 16) (o := 20) (t := 17) rfl (by decide) ka_int s_20 rfl l9_20 (nI_pos (by decide)) (nI_clamp (by decide)) (by decide) (by decide) (fun _ => rfl) dX1_init_15 rfl ?_
  refine g_putR (ci := 1) (k := 2) (o := 18) (r := 20) (t := 20) (by decide) l9_18 s_18 gp_X1_15 rfl l9_20 rfl (by first | exact ⟨_, Or.inl rfl⟩ | exact ⟨"", Or.inr ⟨_, rfl⟩⟩) dX1_init_17 rfl ?_
  refine Wp.eq (σ1 := (21, cI1, gRL [(18, 2, 20), (18, 1, 19), (0, 3, 11), (11, 7, 4), (11, 6, 17), (11, 5, 16), (11, 4, 15), (11, 3, 14), (11, 2, 13), (11, 1, 12), (0, 2, 7), (7, 4, 10), (7, 3, 9), (7, 2, 8), (0, 1, 4), (4, 2, 6), (4, 1, 5), (0, 0, 1), (1, 1, 3), (1, 0, 2)], 0)) rfl rfl rfl rfl ?_
  refine g_aload_n (i := 0) (r := 18) (t := 21) dX1_init_20 rfl rfl (Or.inl l9_18) rfl ?_
  refine g_bipush (t := 23) dX1_init_21 c_bipush_16 rfl ?_
  refine g_newa (at_ := .int) (kd := 0) (n := 16) (o := 21) (t := 25) rfl (by decide) ka_int s_21 rfl l9_21 (nI_pos (by decide)) (nI_clamp (by decide)) (by decide) (by decide) (fun _ => rfl) dX1_init_23 rfl ?_
  refine g_putR (ci := 1) (k := 3) (o := 18) (r := 21) (t := 28) (by decide) l9_18 s_18 gp_X1_18 rfl l9_21 rfl (by first | exact ⟨_, Or.inl rfl⟩ | exact ⟨"", Or.inr ⟨_, rfl⟩⟩) dX1_init_25 rfl ?_
  refine Wp.eq (σ1 := (22, cI1, gRL [(18, 3, 21), (18, 2, 20), (18, 1, 19), (0, 3, 11), (11, 7, 4), (11, 6, 17), (11, 5, 16), (11, 4, 15), (11, 3, 14), (11, 2, 13), (11, 1, 12), (0, 2, 7), (7, 4, 10), (7, 3, 9), (7, 2, 8), (0, 1, 4), (4, 2, 6), (4, 1, 5), (0, 0, 1), (1, 1, 3), (1, 0, 2)], 0)) rfl rfl rfl rfl ?_
  refine g_aload_n (i := 0) (r := 18) (t := 29) dX1_init_28 rfl rfl (Or.inl l9_18) rfl ?_
  refine g_bipush (t := 31) dX1_init_29 c_bipush_16 rfl ?_
  refine g_newa (at_ := .int) (kd := 0) (n := 16) (o := 22) (t := 33) rfl (by decide) ka_int s_22 rfl l9_22 (nI_pos (by decide)) (nI_clamp (by decide)) (by decide) (by decide) (fun _ => rfl) dX1_init_31 rfl ?_
  refine g_putR (ci := 1) (k := 4) (o := 18) (r := 22) (t := 36) (by decide) l9_18 s_18 gp_X1_21 rfl l9_22 rfl (by first | exact ⟨_, Or.inl rfl⟩ | exact ⟨"", Or.inr ⟨_, rfl⟩⟩) dX1_init_33 rfl ?_
  refine Wp.eq (σ1 := (23, cI1, gRL [(18, 4, 22), (18, 3, 21), (18, 2, 20), (18, 1, 19), (0, 3, 11), (11, 7, 4), (11, 6, 17), (11, 5, 16), (11, 4, 15), (11, 3, 14), (11, 2, 13), (11, 1, 12), (0, 2, 7), (7, 4, 10), (7, 3, 9), (7, 2, 8), (0, 1, 4), (4, 2, 6), (4, 1, 5), (0, 0, 1), (1, 1, 3), (1, 0, 2)], 0)) rfl rfl rfl rfl ?_
  refine g_aload_n (i := 0) (r := 18) (t := 37) dX1_init_36 rfl rfl (Or.inl l9_18) rfl ?_
  refine g_bipush (t := 39) dX1_init_37 c_bipush_16 rfl ?_
  refine g_newa (at_ := .boolean) (kd := 2) (n := 16) (o := 23) (t := 41) rfl (by decide) ka_boolean s_23 rfl l9_23 (nI_pos (by decide)) (nI_clamp (by decide)) (by decide) (by decide) (fun _ => rfl) dX1_init_39 rfl ?_
  refine g_putR (ci := 1) (k := 5) (o := 18) (r := 23) (t := 44) (by decide) l9_18 s_18 gp_X1_24 rfl l9_23 rfl (by first | exact ⟨_, Or.inl rfl⟩ | exact ⟨"", Or.inr ⟨_, rfl⟩⟩) dX1_init_41 rfl ?_
  refine Wp.eq (σ1 := (24, cI1, gRL [(18, 5, 23), (18, 4, 22), (18, 3, 21), (18, 2, 20), (18, 1, 19), (0, 3, 11), (11, 7, 4), (11, 6, 17), (11, 5, 16), (11, 4, 15), (11, 3, 14), (11, 2, 13), (11, 1, 12), (0, 2, 7), (7, 4, 10), (7, 3, 9), (7, 2, 8), (0, 1, 4), (4, 2, 6), (4, 1, 5), (0, 0, 1), (1, 1, 3), (1, 0, 2)], 0)) rfl rfl rfl rfl ?_
  refine g_aload_n (i := 0) (r := 18) (t := 45) dX1_init_44 rfl rfl (Or.inl l9_18) rfl ?_
  refine g_bipush (t := 47) dX1_init_45 c_bipush_16 rfl ?_
  refine g_newa (at_ := .int) (kd := 0) (n := 16) (o := 24) (t := 49) rfl (by decide) ka_int s_24 rfl l9_24 (nI_pos (by decide)) (nI_clamp (by decide)) (by decide) (by decide) (fun _ => rfl) dX1_init_47 rfl ?_
  refine g_putR (ci := 1) (k := 6) (o := 18) (r := 24) (t := 52) (by decide) l9_18 s_18 gp_X1_28 rfl l9_24 rfl (by first | exact ⟨_, Or.inl rfl⟩ | exact ⟨"", Or.inr ⟨_, rfl⟩⟩) dX1_init_49 rfl ?_
  refine Wp.eq (σ1 := (25, cI1, gRL [(18, 6, 24), (18, 5, 23), (18, 4, 22), (18, 3, 21), (18, 2, 20), (18, 1, 19), (0, 3, 11), (11, 7, 4), (11, 6, 17), (11, 5, 16), (11, 4, 15), (11, 3, 14), (11, 2, 13), (11, 1, 12), (0, 2, 7), (7, 4, 10), (7, 3, 9), (7, 2, 8), (0, 1, 4), (4, 2, 6), (4, 1, 5), (0, 0, 1), (1, 1, 3), (1, 0, 2)], 0)) rfl rfl rfl rfl ?_
  refine g_aload_n (i := 0) (r := 18) (t := 53) dX1_init_52 rfl rfl (Or.inl l9_18) rfl ?_
  refine g_bipush (t := 55) dX1_init_53 c_bipush_16 rfl ?_
  refine g_newa (at_ := .int) (kd := 0) (n := 16) (o := 25) (t := 57) rfl (by decide) ka_int s_25 rfl l9_25 (nI_pos (by decide)) (nI_clamp (by decide)) (by decide) (by decide) (fun _ => rfl) dX1_init_55 rfl ?_
  refine g_putR (ci := 1) (k := 7) (o := 18) (r := 25) (t := 60) (by decide) l9_18 s_18 gp_X1_31 rfl l9_25 rfl (by first | exact ⟨_, Or.inl rfl⟩ | exact ⟨"", Or.inr ⟨_, rfl⟩⟩) dX1_init_57 rfl ?_
  refine Wp.eq (σ1 := (26, cI1, gRL [(18, 7, 25), (18, 6, 24), (18, 5, 23), (18, 4, 22), (18, 3, 21), (18, 2, 20), (18, 1, 19), (0, 3, 11), (11, 7, 4), (11, 6, 17), (11, 5, 16), (11, 4, 15), (11, 3, 14), (11, 2, 13), (11, 1, 12), (0, 2, 7), (7, 4, 10), (7, 3, 9), (7, 2, 8), (0, 1, 4), (4, 2, 6), (4, 1, 5), (0, 0, 1), (1, 1, 3), (1, 0, 2)], 0)) rfl rfl rfl rfl ?_
  refine g_aload_n (i := 0) (r := 18) (t := 61) dX1_init_60 rfl rfl (Or.inl l9_18) rfl ?_
  refine g_bipush (t := 63) dX1_init_61 c_bipush_16 rfl ?_
  refine g_newa (at_ := .int) (kd := 0) (n := 16) (o := 26) (t := 65) rfl (by decide) ka_int s_26 rfl l9_26 (nI_pos (by decide)) (nI_clamp (by decide)) (by decide) (by decide) (fun _ => rfl) dX1_init_63 rfl ?_
  refine g_putR (ci := 1) (k := 8) (o := 18) (r := 26) (t := 68) (by decide) l9_18 s_18 gp_X1_34 rfl l9_26 rfl (by first | exact ⟨_, Or.inl rfl⟩ | exact ⟨"", Or.inr ⟨_, rfl⟩⟩) dX1_init_65 rfl ?_
  refine Wp.eq (σ1 := (27, cI1, gRL [(18, 8, 26), (18, 7, 25), (18, 6, 24), (18, 5, 23), (18, 4, 22), (18, 3, 21), (18, 2, 20), (18, 1, 19), (0, 3, 11), (11, 7, 4), (11, 6, 17), (11, 5, 16), (11, 4, 15), (11, 3, 14), (11, 2, 13), (11, 1, 12), (0, 2, 7), (7, 4, 10), (7, 3, 9), (7, 2, 8), (0, 1, 4), (4, 2, 6), (4, 1, 5), (0, 0, 1), (1, 1, 3), (1, 0, 2)], 0)) rfl rfl rfl rfl ?_
  refine g_aload_n (i := 0) (r := 18) (t := 69) dX1_init_68 rfl rfl (Or.inl l9_18) rfl ?_
  refine g_aload_n (i := 1) (r := 4) (t := 70) dX1_init_69 rfl rfl (Or.inl l9_4) rfl ?_
  refine g_putR (ci := 1) (k := 9) (o := 18) (r := 4) (t := 73) (by decide) l9_18 s_18 gp_X1_37 rfl l9_4 rfl (by first | exact ⟨_, Or.inl rfl⟩ | exact ⟨"", Or.inr ⟨_, rfl⟩⟩) dX1_init_70 rfl ?_
  refine Wp.eq (σ1 := (27, cI1, gRL [(18, 9, 4), (18, 8, 26), (18, 7, 25), (18, 6, 24), (18, 5, 23), (18, 4, 22), (18, 3, 21), (18, 2, 20), (18, 1, 19), (0, 3, 11), (11, 7, 4), (11, 6, 17), (11, 5, 16), (11, 4, 15), (11, 3, 14), (11, 2, 13), (11, 1, 12), (0, 2, 7), (7, 4, 10), (7, 3, 9), (7, 2, 8), (0, 1, 4), (4, 2, 6), (4, 1, 5), (0, 0, 1), (1, 1, 3), (1, 0, 2)], 0)) rfl rfl rfl rfl ?_
  refine g_aload_n (i := 0) (r := 18) (t := 74) dX1_init_73 rfl rfl (Or.inl l9_18) rfl ?_
  refine g_aload_n (i := 2) (r := 11) (t := 75) dX1_init_74 rfl rfl (Or.inl l9_11) rfl ?_
  refine g_putR (ci := 1) (k := 10) (o := 18) (r := 11) (t := 78) (by decide) l9_18 s_18 gp_X1_41 rfl l9_11 rfl (by first | exact ⟨_, Or.inl rfl⟩ | exact ⟨"", Or.inr ⟨_, rfl⟩⟩) dX1_init_75 rfl ?_
  refine Wp.eq (σ1 := (27, cI1, gRL [(18, 10, 11), (18, 9, 4), (18, 8, 26), (18, 7, 25), (18, 6, 24), (18, 5, 23), (18, 4, 22), (18, 3, 21), (18, 2, 20), (18, 1, 19), (0, 3, 11), (11, 7, 4), (11, 6, 17), (11, 5, 16), (11, 4, 15), (11, 3, 14), (11, 2, 13), (11, 1, 12), (0, 2, 7), (7, 4, 10), (7, 3, 9), (7, 2, 8), (0, 1, 4), (4, 2, 6), (4, 1, 5), (0, 0, 1), (1, 1, 3), (1, 0, 2)], 0)) rfl rfl rfl rfl ?_
  exact Wp.here ⟨rfl, Or.inr (Or.inl ⟨dX1_init_78, rfl, rfl, rfl, rfl⟩)⟩
theorem ct7_X3_init : gEv E fX3_init 32 [.ref 27, .ref 4, .ref 11, .ref 18] (28, cI1, gRL [(0, 4, 18), (18, 10, 11), (18, 9, 4), (18, 8, 26), (18, 7, 25), (18, 6, 24), (18, 5, 23), (18, 4, 22), (18, 3, 21), (18, 2, 20), (18, 1, 19), (0, 3, 11), (11, 7, 4), (11, 6, 17), (11, 5, 16), (11, 4, 15), (11, 3, 14), (11, 2, 13), (11, 1, 12), (0, 2, 7), (7, 4, 10), (7, 3, 9), (7, 2, 8), (0, 1, 4), (4, 2, 6), (4, 1, 5), (0, 0, 1), (1, 1, 3), (1, 0, 2)], 0) (fun r σ' => r = none ∧ σ' = (32, cI1, gRL [(27, 7, 18), (27, 6, 11), (27, 5, 4), (27, 4, 31), (27, 3, 30), (27, 2, 29), (27, 1, 28), (0, 4, 18), (18, 10, 11), (18, 9, 4), (18, 8, 26), (18, 7, 25), (18, 6, 24), (18, 5, 23), (18, 4, 22), (18, 3, 21), (18, 2, 20), (18, 1, 19), (0, 3, 11), (11, 7, 4), (11, 6, 17), (11, 5, 16), (11, 4, 15), (11, 3, 14), (11, 2, 13), (11, 1, 12), (0, 2, 7), (7, 4, 10), (7, 3, 9), (7, 2, 8), (0, 1, 4), (4, 2, 6), (4, 1, 5), (0, 0, 1), (1, 1, 3), (1, 0, 2)], 0)) := by
  refine gEv.of rfl (by decide) (Nat.le_of_ble_eq_true rfl) (L := [.ref 27, .ref 4, .ref 11, .ref 18]) rfl ?_
  refine g_aload_n (i := 0) (r := 27) (t := 1) dX3_init_0 rfl rfl (Or.inl l9_27) rfl ?_
  refine g_objInit (o := 27) (t := 4) l9_27 k_X3_3 k_oi1 k_oi2 (by decide) (by decide) (by decide) dX3_init_1 rfl ?_
  refine g_aload_n (i := 0) (r := 27) (t := 5) dX3_init_4 rfl rfl (Or.inl l9_27) rfl ?_
  refine g_bipush (t := 7) dX3_init_5 c_bipush_16 rfl ?_
  refine g_newa (at_ := .int) (kd := 0) (n := 16) (o := 28) (t := 9) rfl (by decide) ka_int s_28 rfl l9_28 (nI_pos (by decide)) (nI_clamp (by decide)) (by decide) (by decide) (fun _ => rfl) dX3_init_7 rfl ?_
  refine g_putR (ci := 3) (k := 1) (o := 27) (r := 28) (t := 12) (by decide) l9_27 s_27 gp_X3_9 rfl l9_28 rfl (by first | exact ⟨_, Or.inl rfl⟩ | exact ⟨"", Or.inr ⟨_, rfl⟩⟩) dX3_init_9 rfl ?_
  refine Wp.eq (σ1 := (29, cI1, gRL [(27, 1, 28), (0, 4, 18), (18, 10, 11), (18, 9, 4), (18, 8, 26), (18, 7, 25), (18, 6, 24), (18, 5, 23), (18, 4, 22), (18, 3, 21), (18, 2, 20), (18, 1, 19), (0, 3, 11), (11, 7, 4), (11, 6, 17), (11, 5, 16), (11, 4, 15), (11, 3, 14), (11, 2, 13), (11, 1, 12), (0, 2, 7), (7, 4, 10), (7, 3, 9), (7, 2, 8), (0, 1, 4), (4, 2, 6), (4, 1, 5), (0, 0, 1), (1, 1, 3), (1, 0, 2)], 0)) rfl rfl rfl rfl ?_
  refine g_aload_n (i := 0) (r := 27) (t := 13) dX3_init_12 rfl rfl (Or.inl l9_27) rfl ?_
  refine g_bipush (t := 15) dX3_init_13 c_bipush_16 rfl ?_
  refine g_newa (at_ := .int) (kd := 0) (n := 16) (o := 29) (t := 17) rfl (by decide) ka_int s_29 rfl l9_29 (nI_pos (by decide)) (nI_clamp (by decide)) (by decide) (by decide) (fun _ => rfl) dX3_init_15 rfl ?_
  refine g_putR (ci := 3) (k := 2) (o := 27) (r := 29) (t := 20) (by decide) l9_27 s_27 gp_X3_15 rfl l9_29 rfl (by first | exact ⟨_, Or.inl rfl⟩ | exact ⟨"", Or.inr ⟨_, rfl⟩⟩) dX3_init_17 rfl ?_
  refine Wp.eq (σ1 := (30, cI1, gRL [(27, 2, 29), (27, 1, 28), (0, 4, 18), (18, 10, 11), (18, 9, 4), (18, 8, 26), (18, 7, 25), (18, 6, 24), (18, 5, 23), (18, 4, 22), (18, 3, 21), (18, 2, 20), (18, 1, 19), (0, 3, 11), (11, 7, 4), (11, 6, 17), (11, 5, 16), (11, 4, 15), (11, 3, 14), (11, 2, 13), (11, 1, 12), (0, 2, 7), (7, 4, 10), (7, 3, 9), (7, 2, 8), (0, 1, 4), (4, 2, 6), (4, 1, 5), (0, 0, 1), (1, 1, 3), (1, 0, 2)], 0)) rfl rfl rfl rfl ?_
  refine g_aload_n (i := 0) (r := 27) (t := 21) dX3_init_20 rfl rfl (Or.inl l9_27) rfl ?_
  refine g_bipush (t := 23) dX3_init_21 c_bipush_16 rfl ?_
  refine g_newa (at_ := .int) (kd := 0) (n := 16) (o := 30) (t := 25) rfl (by decide) ka_int s_30 rfl l9_30 (nI_pos (by decide)) (nI_clamp (by decide)) (by decide) (by decide) (fun _ => rfl) dX3_init_23 rfl ?_
  refine g_putR (ci := 3) (k := 3) (o := 27) (r := 30) (t := 28) (by decide) l9_27 s_27 gp_X3_18 rfl l9_30 rfl (by first | exact ⟨_, Or.inl rfl⟩ | exact ⟨"", Or.inr ⟨_, rfl⟩⟩) dX3_init_25 rfl ?_
  refine Wp.eq (σ1 := (31, cI1, gRL [(27, 3, 30), (27, 2, 29), (27, 1, 28), (0, 4, 18), (18, 10, 11), (18, 9, 4), (18, 8, 26), (18, 7, 25), (18, 6, 24), (18, 5, 23), (18, 4, 22), (18, 3, 21), (18, 2, 20), (18, 1, 19), (0, 3, 11), (11, 7, 4), (11, 6, 17), (11, 5, 16), (11, 4, 15), (11, 3, 14), (11, 2, 13), (11, 1, 12), (0, 2, 7), (7, 4, 10), (7, 3, 9), (7, 2, 8), (0, 1, 4), (4, 2, 6), (4, 1, 5), (0, 0, 1), (1, 1, 3), (1, 0, 2)], 0)) rfl rfl rfl rfl ?_
  refine g_aload_n (i := 0) (r := 27) (t := 29) dX3_init_28 rfl rfl (Or.inl l9_27) rfl ?_
  refine g_bipush (t := 31) dX3_init_29 c_bipush_16 rfl ?_
  refine g_newa (at_ := .int) (kd := 0) (n := 16) (o := 31) (t := 33) rfl (by decide) ka_int s_31 rfl l9_31 (nI_pos (by decide)) (nI_clamp (by decide)) (by decide) (by decide) (fun _ => rfl) dX3_init_31 rfl ?_
  refine g_putR (ci := 3) (k := 4) (o := 27) (r := 31) (t := 36) (by decide) l9_27 s_27 gp_X3_21 rfl l9_31 rfl (by first | exact ⟨_, Or.inl rfl⟩ | exact ⟨"", Or.inr ⟨_, rfl⟩⟩) dX3_init_33 rfl ?_
  refine Wp.eq (σ1 := (32, cI1, gRL [(27, 4, 31), (27, 3, 30), (27, 2, 29), (27, 1, 28), (0, 4, 18), (18, 10, 11), (18, 9, 4), (18, 8, 26), (18, 7, 25), (18, 6, 24), (18, 5, 23), (18, 4, 22), (18, 3, 21), (18, 2, 20), (18, 1, 19), (0, 3, 11), (11, 7, 4), (11, 6, 17), (11, 5, 16), (11, 4, 15), (11, 3, 14), (11, 2, 13), (11, 1, 12), (0, 2, 7), (7, 4, 10), (7, 3, 9), (7, 2, 8), (0, 1, 4), (4, 2, 6), (4, 1, 5), (0, 0, 1), (1, 1, 3), (1, 0, 2)], 0)) rfl rfl rfl rfl ?_
  refine g_aload_n (i := 0) (r := 27) (t := 37) dX3_init_36 rfl rfl (Or.inl l9_27) rfl ?_
  refine g_aload_n (i := 1) (r := 4) (t := 38) dX3_init_37 rfl rfl (Or.inl l9_4) rfl ?_
  refine g_putR (ci := 3) (k := 5) (o := 27) (r := 4) (t := 41) (by decide) l9_27 s_27 gp_X3_24 rfl l9_4 rfl (by first | exact ⟨_, Or.inl rfl⟩ | exact ⟨"", Or.inr ⟨_, rfl⟩⟩) dX3_init_38 rfl ?_
  refine Wp.eq (σ1 := (32, cI1, gRL [(27, 5, 4), (27, 4, 31), (27, 3, 30), (27, 2, 29), (27, 1, 28), (0, 4, 18), (18, 10, 11), (18, 9, 4), (18, 8, 26), (18, 7, 25), (18, 6, 24), (18, 5, 23), (18, 4, 22), (18, 3, 21), (18, 2, 20), (18, 1, 19), (0, 3, 11), (11, 7, 4), (11, 6, 17), (11, 5, 16), (11, 4, 15), (11, 3, 14), (11, 2, 13), (11, 1, 12), (0, 2, 7), (7, 4, 10), (7, 3, 9), (7, 2, 8), (0, 1, 4), (4, 2, 6), (4, 1, 5), (0, 0, 1), (1, 1, 3), (1, 0, 2)], 0)) rfl rfl rfl rfl ?_
  refine g_aload_n (i := 0) (r := 27) (t := 42) dX3_init_41 rfl rfl (Or.inl l9_27) rfl ?_
  refine g_aload_n (i := 2) (r := 11) (t := 43) dX3_init_42 rfl rfl (Or.inl l9_11) rfl ?_
  refine g_putR (ci := 3) (k := 6) (o := 27) (r := 11) (t := 46) (by decide) l9_27 s_27 gp_X3_28 rfl l9_11 rfl (by first | exact ⟨_, Or.inl rfl⟩ | exact ⟨"", Or.inr ⟨_, rfl⟩⟩) dX3_init_43 rfl ?_
  refine Wp.eq (σ1 := (32, cI1, gRL [(27, 6, 11), (27, 5, 4), (27, 4, 31), (27, 3, 30), (27, 2, 29), (27, 1, 28), (0, 4, 18), (18, 10, 11), (18, 9, 4), (18, 8, 26), (18, 7, 25), (18, 6, 24), (18, 5, 23), (18, 4, 22), (18, 3, 21), (18, 2, 20), (18, 1, 19), (0, 3, 11), (11, 7, 4), (11, 6, 17), (11, 5, 16), (11, 4, 15), (11, 3, 14), (11, 2, 13), (11, 1, 12), (0, 2, 7), (7, 4, 10), (7, 3, 9), (7, 2, 8), (0, 1, 4), (4, 2, 6), (4, 1, 5), (0, 0, 1), (1, 1, 3), (1, 0, 2)], 0)) rfl rfl rfl rfl ?_
  refine g_aload_n (i := 0) (r := 27) (t := 47) dX3_init_46 rfl rfl (Or.inl l9_27) rfl ?_
  refine g_aload_n (i := 3) (r := 18) (t := 48) dX3_init_47 rfl rfl (Or.inl l9_18) rfl ?_
  refine g_putR (ci := 3) (k := 7) (o := 27) (r := 18) (t := 51) (by decide) l9_27 s_27 gp_X3_32 rfl l9_18 rfl (by first | exact ⟨_, Or.inl rfl⟩ | exact ⟨"", Or.inr ⟨_, rfl⟩⟩) dX3_init_48 rfl ?_
  refine Wp.eq (σ1 := (32, cI1, gRL [(27, 7, 18), (27, 6, 11), (27, 5, 4), (27, 4, 31), (27, 3, 30), (27, 2, 29), (27, 1, 28), (0, 4, 18), (18, 10, 11), (18, 9, 4), (18, 8, 26), (18, 7, 25), (18, 6, 24), (18, 5, 23), (18, 4, 22), (18, 3, 21), (18, 2, 20), (18, 1, 19), (0, 3, 11), (11, 7, 4), (11, 6, 17), (11, 5, 16), (11, 4, 15), (11, 3, 14), (11, 2, 13), (11, 1, 12), (0, 2, 7), (7, 4, 10), (7, 3, 9), (7, 2, 8), (0, 1, 4), (4, 2, 6), (4, 1, 5), (0, 0, 1), (1, 1, 3), (1, 0, 2)], 0)) rfl rfl rfl rfl ?_
  exact Wp.here ⟨rfl, Or.inr (Or.inl ⟨dX3_init_51, rfl, rfl, rfl, rfl⟩)⟩
theorem ct8_X1_init : gEv E fX1_init 41 [.ref 32, .ref 4, .ref 11] (33, cI1, gRL [(0, 5, 27), (27, 7, 18), (27, 6, 11), (27, 5, 4), (27, 4, 31), (27, 3, 30), (27, 2, 29), (27, 1, 28), (0, 4, 18), (18, 10, 11), (18, 9, 4), (18, 8, 26), (18, 7, 25), (18, 6, 24), (18, 5, 23), (18, 4, 22), (18, 3, 21), (18, 2, 20), (18, 1, 19), (0, 3, 11), (11, 7, 4), (11, 6, 17), (11, 5, 16), (11, 4, 15), (11, 3, 14), (11, 2, 13), (11, 1, 12), (0, 2, 7), (7, 4, 10), (7, 3, 9), (7, 2, 8), (0, 1, 4), (4, 2, 6), (4, 1, 5), (0, 0, 1), (1, 1, 3), (1, 0, 2)], 0) (fun r σ' => r = none ∧ σ' = (41, cI1, gRL [(32, 10, 11), (32, 9, 4), (32, 8, 40), (32, 7, 39), (32, 6, 38), (32, 5, 37), (32, 4, 36), (32, 3, 35), (32, 2, 34), (32, 1, 33), (0, 5, 27), (27, 7, 18), (27, 6, 11), (27, 5, 4), (27, 4, 31), (27, 3, 30), (27, 2, 29), (27, 1, 28), (0, 4, 18), (18, 10, 11), (18, 9, 4), (18, 8, 26), (18, 7, 25), (18, 6, 24), (18, 5, 23), (18, 4, 22), (18, 3, 21), (18, 2, 20), (18, 1, 19), (0, 3, 11), (11, 7, 4), (11, 6, 17), (11, 5, 16), (11, 4, 15), (11, 3, 14), (11, 2, 13), (11, 1, 12), (0, 2, 7), (7, 4, 10), (7, 3, 9), (7, 2, 8), (0, 1, 4), (4, 2, 6), (4, 1, 5), (0, 0, 1), (1, 1, 3), (1, 0, 2)], 0)) := by
  refine gEv.of rfl (by decide) (Nat.le_of_ble_eq_true rfl) (L := [.ref 32, .ref 4, .ref 11]) rfl ?_
  refine g_aload_n (i := 0) (r := 32) (t := 1) dX1_init_0 rfl rfl (Or.inl l9_32) rfl ?_
  refine g_objInit (o := 32) (t := 4) l9_32 k_X1_3 k_oi1 k_oi2 (by decide) (by decide) (by decide) dX1_init_1 rfl ?_
  refine g_aload_n (i := 0) (r := 32) (t := 5) dX1_init_4 rfl rfl (Or.inl l9_32) rfl ?_
  refine g_bipush (t := 7) dX1_init_5 c_bipush_16 rfl ?_
  refine g_newa (at_ := .int) (kd := 0) (n := 16) (o := 33) (t := 9) rfl (by decide) ka_int s_33 rfl l9_33 (nI_pos (by decide)) (nI_clamp (by decide)) (by decide) (by decide) (fun _ => rfl) dX1_init_7 rfl ?_
  refine g_putR (ci := 1) (k := 1) (o := 32) (r := 33) (t := 12) (by decide) l9_32 s_32 gp_X1_9 rfl l9_33 rfl (by first | exact ⟨_, Or.inl rfl⟩ | exact ⟨"", Or.inr ⟨_, rfl⟩⟩) dX1_init_9 rfl ?_
  refine Wp.eq (σ1 := (34, cI1, gRL [(32, 1, 33), (0, 5, 27), (27, 7, 18), (27, 6, 11), (27, 5, 4), (27, 4, 31), (27, 3, 30), (27, 2, 29), (27, 1, 28), (0, 4, 18), (18, 10, 11), (18, 9, 4), (18, 8, 26), (18, 7, 25), (18, 6, 24), (18, 5, 23), (18, 4, 22), (18, 3, 21), (18, 2, 20), (18, 1, 19), (0, 3, 11), (11, 7, 4), (11, 6, 17), (11, 5, 16), (11, 4, 15), (11, 3, 14), (11, 2, 13), (11, 1, 12), (0, 2, 7), (7, 4, 10), (7, 3, 9), (7, 2, 8), (0, 1, 4), (4, 2, 6), (4, 1, 5), (0, 0, 1), (1, 1, 3), (1, 0, 2)], 0)) rfl rfl rfl rfl ?_
  refine g_aload_n (i := 0) (r := 32) (t := 13) dX1_init_12 rfl rfl (Or.inl l9_32) rfl ?_
  refine g_bipush (t := 15) dX1_init_13 c_bipush_16 rfl ?_
  refine g_newa (at_ := .int) (kd := 0) (n := 16) (o := 34) (t := 17) rfl (by decide) ka_int s_34 rfl l9_34 (nI_pos (by decide)) (nI_clamp (by decide)) (by decide) (by decide) (fun _ => rfl) dX1_init_15 rfl ?_
  refine g_putR (ci := 1) (k := 2) (o := 32) (r := 34) (t := 20) (by decide) l9_32 s_32 gp_X1_15 rfl l9_34 rfl (by first | exact ⟨_, Or.inl rfl⟩ | exact ⟨"", Or.inr ⟨_, rfl⟩⟩) dX1_init_17 rfl ?_
  refine Wp.eq (σ1 := (35, cI1, gRL [(32, 2, 34), (32, 1, 33), (0, 5, 27), (27, 7, 18), (27, 6, 11), (27, 5, 4), (27, 4, 31), (27, 3, 30), (27, 2, 29), (27, 1, 28), (0, 4, 18), (18, 10, 11), (18, 9, 4), (18, 8, 26), (18, 7, 25), (18, 6, 24), (18, 5, 23), (18, 4, 22), (18, 3, 21), (18, 2, 20), (18, 1, 19), (0, 3, 11), (11, 7, 4), (11, 6, 17), (11, 5, 16), (11, 4, 15), (11, 3, 14), (11, 2, 13), (11, 1, 12), (0, 2, 7), (7, 4, 10), (7, 3, 9), (7, 2, 8), (0, 1, 4), (4, 2, 6), (4, 1, 5), (0, 0, 1), (1, 1, 3), (1, 0, 2)], 0)) rfl rfl rfl rfl ?_
  refine g_aload_n (i := 0) (r := 32) (t := 21) dX1_init_20 rfl rfl (Or.inl l9_32) rfl ?_
  refine g_bipush (t := 23) dX1_init_21 c_bipush_16 rfl ?_
  refine g_newa (at_ := .int) (kd := 0) (n := 16) (o := 35) (t := 25) rfl (by decide) ka_int s_35 rfl l9_35 (nI_pos (by decide)) (nI_clamp (by decide)) (by decide) (by decide) (fun _ => rfl) dX1_init_23 rfl ?_
  refine g_putR (ci := 1) (k := 3) (o := 32) (r := 35) (t := 28) (by decide) l9_32 s_32 gp_X1_18 rfl l9_35 rfl (by first | exact ⟨_, Or.inl rfl⟩ | exact ⟨"", Or.inr ⟨_, rfl⟩⟩) dX1_init_25 rfl ?_
  refine Wp.eq (σ1 := (36, cI1, gRL [(32, 3, 35), (32, 2, 34), (32, 1, 33), (0, 5, 27), (27, 7, 18), (27, 6, 11), (27, 5, 4), (27, 4, 31), (27, 3, 30), (27, 2, 29), (27, 1, 28), (0, 4, 18), (18, 10, 11), (18, 9, 4), (18, 8, 26), (18, 7, 25), (18, 6, 24), (18, 5, 23), (18, 4, 22), (18, 3, 21), (18, 2, 20), (18, 1, 19), (0, 3, 11), (11, 7, 4), (11, 6, 17), (11, 5, 16), (11, 4, 15), (11, 3, 14), (11, 2, 13), (11, 1, 12), (0, 2, 7), (7, 4, 10), (7, 3, 9), (7, 2, 8), (0, 1, 4), (4, 2, 6), (4, 1, 5), (0, 0, 1), (1, 1, 3), (1, 0, 2)], 0)) rfl rfl rfl rfl ?_
  refine g_aload_n (i := 0) (r := 32) (t := 29) dX1_init_28 rfl rfl (Or.inl l9_32) rfl ?_
  refine g_bipush (t := 31) dX1_init_29 c_bipush_16 rfl ?_
  refine g_newa (at_ := .int) (kd := 0) (n := 16) (o := 36) (t := 33) rfl (by decide) ka_int s_36 rfl l9_36 (nI_pos (by decide)) (nI_clamp (by decide)) (by decide) (by decide) (fun _ => rfl) dX1_init_31 rfl ?_
  refine g_putR (ci := 1) (k := 4) (o := 32) (r := 36) (t := 36) (by decide) l9_32 s_32 gp_X1_21 rfl l9_36 rfl (by first | exact ⟨_, Or.inl rfl⟩ | exact ⟨"", Or.inr ⟨_, rfl⟩⟩) dX1_init_33 rfl ?_
  refine Wp.eq (σ1 := (37, cI1, gRL [(32, 4, 36), (32, 3, 35), (32, 2, 34), (32, 1, 33), (0, 5, 27), (27, 7, 18), (27, 6, 11), (27, 5, 4), (27, 4, 31), (27, 3, 30), (27, 2, 29), (27, 1, 28), (0, 4, 18), (18, 10, 11), (18, 9, 4), (18, 8, 26), (18, 7, 25), (18, 6, 24), (18, 5, 23), (18, 4, 22), (18, 3, 21), (18, 2, 20), (18, 1, 19), (0, 3, 11), (11, 7, 4), (11, 6, 17), (11, 5, 16), (11, 4, 15), (11, 3, 14), (11, 2, 13), (11, 1, 12), (0, 2, 7), (7, 4, 10), (7, 3, 9), (7, 2, 8), (0, 1, 4), (4, 2, 6), (4, 1, 5), (0, 0, 1), (1, 1, 3), (1, 0, 2)], 0)) rfl rfl rfl rfl ?_
  refine g_aload_n (i := 0) (r := 32) (t := 37) dX1_init_36 rfl rfl (Or.inl l9_32) rfl ?_
  refine g_bipush (t := 39) dX1_init_37 c_bipush_16 rfl ?_
  refine g_newa (at_ := .boolean) (kd := 2) (n := 16) (o := 37) (t := 41) rfl (by decide) ka_boolean s_37 rfl l9_37 (nI_pos (by decide)) (nI_clamp (by decide)) (by decide) (by decide) (fun _ => rfl) dX1_init_39 rfl ?_
  refine g_putR (ci := 1) (k := 5) (o := 32) (r := 37) (t := 44) (by decide) l9_32 s_32 gp_X1_24 rfl l9_37 rfl (by first | exact ⟨_, Or.inl rfl⟩ | exact ⟨"", Or.inr ⟨_, rfl⟩⟩) dX1_init_41 rfl ?_
  refine Wp.eq (σ1 := (38, cI1, gRL [(32, 5, 37), (32, 4, 36), (32, 3, 35), (32, 2, 34), (32, 1, 33), (0, 5, 27), (27, 7, 18), (27, 6, 11), (27, 5, 4), (27, 4, 31), (27, 3, 30), (27, 2, 29), (27, 1, 28), (0, 4, 18), (18, 10, 11), (18, 9, 4), (18, 8, 26), (18, 7, 25), (18, 6, 24), (18, 5, 23), (18, 4, 22), (18, 3, 21), (18, 2, 20), (18, 1, 19), (0, 3, 11), (11, 7, 4), (11, 6, 17), (11, 5, 16), (11, 4, 15), (11, 3, 14), (11, 2, 13), (11, 1, 12), (0, 2, 7), (7, 4, 10), (7, 3, 9), (7, 2, 8), (0, 1, 4), (4, 2, 6), (4, 1, 5), (0, 0, 1), (1, 1, 3), (1, 0, 2)], 0)) rfl rfl rfl rfl ?_
  refine g_aload_n (i := 0) (r := 32) (t := 45) dX1_init_44 rfl rfl (Or.inl l9_32) rfl ?_
  refine g_bipush (t := 47) dX1_init_45 c_bipush_16 rfl ?_
  refine g_newa (at_ := .int) (kd := 0) (n := 16) (o := 38) (t := 49) rfl (by decide) ka_int s_38 rfl l9_38 (nI_pos (by decide)) (nI_clamp (by decide)) (by decide) (by decide) (fun _ => rfl) dX1_init_47 rfl ?_
  refine g_putR (ci := 1) (k := 6) (o := 32) (r := 38) (t := 52) (by decide) l9_32 s_32 gp_X1_28 rfl l9_38 rfl (by first | exact ⟨_, Or.inl rfl⟩ | exact ⟨"", Or.inr ⟨_, rfl⟩⟩) dX1_init_49 rfl ?_
  refine Wp.eq (σ1 := (39, cI1, gRL [(32, 6, 38), (32, 5, 37), (32, 4, 36), (32, 3, 35), (32, 2, 34), (32, 1, 33), (0, 5, 27), (27, 7, 18), (27, 6, 11), (27, 5, 4), (27, 4, 31), (27, 3, 30), (27, 2, 29), (27, 1, 28), (0, 4, 18), (18, 10, 11), (18, 9, 4), (18, 8, 26), (18, 7, 25), (18, 6, 24), (18, 5, 23), (18, 4, 22), (18, 3, 21), (18, 2, 20), (18, 1, 19), (0, 3, 11), (11, 7, 4), (11, 6, 17), (11, 5, 16), (11, 4, 15), (11, 3, 14), (11, 2, 13), (11, 1, 12), (0, 2, 7), (7, 4, 10), (7, 3, 9), (7, 2, 8), (0, 1, 4), (4, 2, 6), (4, 1, 5), (0, 0, 1), (1, 1, 3), (1, 0, 2)], 0)) rfl rfl rfl rfl ?_
  refine g_aload_n (i := 0) (r := 32) (t := 53) dX1_init_52 rfl rfl (Or.inl l9_32) rfl ?_
  refine g_bipush (t := 55) dX1_init_53 c_bipush_16 rfl ?_
  refine g_newa (at_ := .int) (kd := 0) (n := 16) (o := 39) (t := 57) rfl (by decide) ka_int s_39 rfl l9_39 (nI_pos (by decide)) (nI_clamp (by decide)) (by decide) (by decide) (fun _ => rfl) dX1_init_55 rfl ?_
  refine g_putR (ci := 1) (k := 7) (o := 32) (r := 39) (t := 60) (by decide) l9_32 s_32 gp_X1_31 rfl l9_39 rfl (by first | exact ⟨_, Or.inl rfl⟩ | exact ⟨"", Or.inr ⟨_, rfl⟩⟩) dX1_init_57 rfl ?_
  refine Wp.eq (σ1 := (40, cI1, gRL [(32, 7, 39), (32, 6, 38), (32, 5, 37), (32, 4, 36), (32, 3, 35), (32, 2, 34), (32, 1, 33), (0, 5, 27), (27, 7, 18), (27, 6, 11), (27, 5, 4), (27, 4, 31), (27, 3, 30), (27, 2, 29), (27, 1, 28), (0, 4, 18), (18, 10, 11), (18, 9, 4), (18, 8, 26), (18, 7, 25), (18, 6, 24), (18, 5, 23), (18, 4, 22), (18, 3, 21), (18, 2, 20), (18, 1, 19), (0, 3, 11), (11, 7, 4), (11, 6, 17), (11, 5, 16), (11, 4, 15), (11, 3, 14), (11, 2, 13), (11, 1, 12), (0, 2, 7), (7, 4, 10), (7, 3, 9), (7, 2, 8), (0, 1, 4), (4, 2, 6), (4, 1, 5), (0, 0, 1), (1, 1, 3), (1, 0, 2)], 0)) rfl rfl rfl rfl ?_
  refine g_aload_n (i := 0) (r := 32) (t := 61) dX1_init_60 rfl rfl (Or.inl l9_32) rfl ?_
  refine g_bipush (t := 63) dX1_init_61 c_bipush_16 rfl ?_
  refine g_newa (at_ := .int) (kd := 0) (n := 16) (o := 40) (t := 65) rfl (by decide) ka_int s_40 rfl l9_40 (nI_pos (by decide)) (nI_clamp (by decide)) (by decide) (by decide) (fun _ => rfl) dX1_init_63 rfl ?_
  refine g_putR (ci := 1) (k := 8) (o := 32) (r := 40) (t := 68) (by decide) l9_32 s_32 gp_X1_34 rfl l9_40 rfl (by first | exact ⟨_, Or.inl rfl⟩ | exact ⟨"", Or.inr ⟨_, rfl⟩⟩) dX1_init_65 rfl ?_
  refine Wp.eq (σ1 := (41, cI1, gRL [(32, 8, 40), (32, 7, 39), (32, 6, 38), (32, 5, 37), (32, 4, 36), (32, 3, 35), (32, 2, 34), (32, 1, 33), (0, 5, 27), (27, 7, 18), (27, 6, 11), (27, 5, 4), (27, 4, 31), (27, 3, 30), (27, 2, 29), (27, 1, 28), (0, 4, 18), (18, 10, 11), (18, 9, 4), (18, 8, 26), (18, 7, 25), (18, 6, 24), (18, 5, 23), (18, 4, 22), (18, 3, 21), (18, 2, 20), (18, 1, 19), (0, 3, 11), (11, 7, 4), (11, 6, 17), (11, 5, 16), (11, 4, 15), (11, 3, 14), (11, 2, 13), (11, 1, 12), (0, 2, 7), (7, 4, 10), (7, 3, 9), (7, 2, 8), (0, 1, 4), (4, 2, 6), (4, 1, 5), (0, 0, 1), (1, 1, 3), (1, 0, 2)], 0)) rfl rfl rfl rfl ?_
  refine g_aload_n (i := 0) (r := 32) (t := 69) dX1_init_68 rfl rfl (Or.inl l9_32) rfl ?_
  refine g_aload_n (i := 1) (r := 4) (t := 70) dX1_init_69 rfl rfl (Or.inl l9_4) rfl ?_
  refine g_putR (ci := 1) (k := 9) (o := 32) (r := 4) (t := 73) (by decide) l9_32 s_32 gp_X1_37 rfl l9_4 rfl (by first | exact ⟨_, Or.inl rfl⟩ | exact ⟨"", Or.inr ⟨_, rfl⟩⟩) dX1_init_70 rfl ?_
  refine Wp.eq (σ1 := (41, cI1, gRL [(32, 9, 4), (32, 8, 40), (32, 7, 39), (32, 6, 38), (32, 5, 37), (32, 4, 36), (32, 3, 35), (32, 2, 34), (32, 1, 33), (0, 5, 27), (27, 7, 18), (27, 6, 11), (27, 5, 4), (27, 4, 31), (27, 3, 30), (27, 2, 29), (27, 1, 28), (0, 4, 18), (18, 10, 11), (18, 9, 4), (18, 8, 26), (18, 7, 25), (18, 6, 24), (18, 5, 23), (18, 4, 22), (18, 3, 21), (18, 2, 20), (18, 1, 19), (0, 3, 11), (11, 7, 4), (11, 6, 17), (11, 5, 16), (11, 4, 15), (11, 3, 14), (11, 2, 13), (11, 1, 12), (0, 2, 7), (7, 4, 10), (7, 3, 9), (7, 2, 8), (0, 1, 4), (4, 2, 6), (4, 1, 5), (0, 0, 1), (1, 1, 3), (1, 0, 2)], 0)) rfl rfl rfl rfl ?_
  refine g_aload_n (i := 0) (r := 32) (t := 74) dX1_init_73 rfl rfl (Or.inl l9_32) rfl ?_
  refine g_aload_n (i := 2) (r := 11) (t := 75) dX1_init_74 rfl rfl (Or.inl l9_11) rfl ?_
  refine g_putR (ci := 1) (k := 10) (o := 32) (r := 11) (t := 78) (by decide) l9_32 s_32 gp_X1_41 rfl l9_11 rfl (by first | exact ⟨_, Or.inl rfl⟩ | exact ⟨"", Or.inr ⟨_, rfl⟩⟩) dX1_init_75 rfl ?_
  refine Wp.eq (σ1 := (41, cI1, gRL [(32, 10, 11), (32, 9, 4), (32, 8, 40), (32, 7, 39), (32, 6, 38), (32, 5, 37), (32, 4, 36), (32, 3, 35), (32, 2, 34), (32, 1, 33), (0, 5, 27), (27, 7, 18), (27, 6, 11), (27, 5, 4), (27, 4, 31), (27, 3, 30), (27, 2, 29), (27, 1, 28), (0, 4, 18), (18, 10, 11), (18, 9, 4), (18, 8, 26), (18, 7, 25), (18, 6, 24), (18, 5, 23), (18, 4, 22), (18, 3, 21), (18, 2, 20), (18, 1, 19), (0, 3, 11), (11, 7, 4), (11, 6, 17), (11, 5, 16), (11, 4, 15), (11, 3, 14), (11, 2, 13), (11, 1, 12), (0, 2, 7), (7, 4, 10), (7, 3, 9), (7, 2, 8), (0, 1, 4), (4, 2, 6), (4, 1, 5), (0, 0, 1), (1, 1, 3), (1, 0, 2)], 0)) rfl rfl rfl rfl ?_
  exact Wp.here ⟨rfl, Or.inr (Or.inl ⟨dX1_init_78, rfl, rfl, rfl, rfl⟩)⟩
theorem ct1_X6_init : gEv E fX6_init 41 [.ref 0] (1, cI0, gRL [], 0) (fun r σ' => r = none ∧ σ' = (41, cI2, gRL [(0, 6, 32), (32, 10, 11), (32, 9, 4), (32, 8, 40), (32, 7, 39), (32, 6, 38), (32, 5, 37), (32, 4, 36), (32, 3, 35), (32, 2, 34), (32, 1, 33), (0, 5, 27), (27, 7, 18), (27, 6, 11), (27, 5, 4), (27, 4, 31), (27, 3, 30), (27, 2, 29), (27, 1, 28), (0, 4, 18), (18, 10, 11), (18, 9, 4), (18, 8, 26), (18, 7, 25), (18, 6, 24), (18, 5, 23), (18, 4, 22), (18, 3, 21), (18, 2, 20), (18, 1, 19), (0, 3, 11), (11, 7, 4), (11, 6, 17), (11, 5, 16), (11, 4, 15), (11, 3, 14), (11, 2, 13), (11, 1, 12), (0, 2, 7), (7, 4, 10), (7, 3, 9), (7, 2, 8), (0, 1, 4), (4, 2, 6), (4, 1, 5), (0, 0, 1), (1, 1, 3), (1, 0, 2)], 0)) := by
  refine gEv.of rfl (by decide) (Nat.le_of_ble_eq_true rfl) (L := [.ref 0]) rfl ?_
  refine g_aload_n (i := 0) (r := 0) (t := 1) dX6_init_0 rfl rfl (Or.inl l9_0) rfl ?_
  refine g_objInit (o := 0) (t := 4) l9_0 k_X6_1 k_oi1 k_oi2 (by decide) (by decide) (by decide) dX6_init_1 rfl ?_
  refine g_aload_n (i := 0) (r := 0) (t := 5) dX6_init_4 rfl rfl (Or.inl l9_0) rfl ?_
  refine g_new (ci := 5) (o := 1) (t := 8) gcl5 s_1 rfl l9_1 kl_X6_7 ki_X5 kn_X5 (by decide) (fun _ => rfl) (gRL_none (by decide)) rfl dX6_init_5 rfl ?_
  refine g_dup (t := 9) dX6_init_8 rfl rfl ?_
  refine g_callIN (o := 1) (t := 12) mX5_init rfl (List.mem_of_getElem? (i := 0) rfl) imX5_init rfl l9_1 ct2_X5_init rfl rfl (by decide) (by decide) (by decide) (by decide) dX6_init_9 rfl (fun r σ' q _ => ?_)
  obtain ⟨rfl, rfl⟩ := q
  refine g_putR (ci := 6) (k := 0) (o := 0) (r := 1) (t := 15) (by decide) l9_0 s_0 gp_X6_10 rfl l9_1 rfl (by first | exact ⟨_, Or.inl rfl⟩ | exact ⟨"", Or.inr ⟨_, rfl⟩⟩) dX6_init_12 rfl ?_
  refine Wp.eq (σ1 := (4, cI0, gRL [(0, 0, 1), (1, 1, 3), (1, 0, 2)], 0)) rfl rfl rfl rfl ?_
  refine g_aload_n (i := 0) (r := 0) (t := 16) dX6_init_15 rfl rfl (Or.inl l9_0) rfl ?_
  refine g_new (ci := 4) (o := 4) (t := 19) gcl4 s_4 rfl l9_4 kl_X6_16 ki_X4 kn_X4 (by decide) (fun _ => rfl) (gRL_none (by decide)) rfl dX6_init_16 rfl ?_
  refine g_dup (t := 20) dX6_init_19 rfl rfl ?_
  refine g_callI (o := 4) (t := 23) mX4_init rfl k_X6_18 imX4_init rfl l9_4 ct3_X4_init rfl rfl (by decide) (by decide) (by decide) (by decide) dX6_init_20 rfl (fun r σ' q _ => ?_)
  obtain ⟨rfl, rfl⟩ := q
  refine g_putR (ci := 6) (k := 1) (o := 0) (r := 4) (t := 26) (by decide) l9_0 s_0 gp_X6_19 rfl l9_4 rfl (by first | exact ⟨_, Or.inl rfl⟩ | exact ⟨"", Or.inr ⟨_, rfl⟩⟩) dX6_init_23 rfl ?_
  refine Wp.eq (σ1 := (7, cI1, gRL [(0, 1, 4), (4, 2, 6), (4, 1, 5), (0, 0, 1), (1, 1, 3), (1, 0, 2)], 0)) rfl rfl rfl rfl ?_
  refine g_aload_n (i := 0) (r := 0) (t := 27) dX6_init_26 rfl rfl (Or.inl l9_0) rfl ?_
  refine g_new (ci := 0) (o := 7) (t := 30) gcl0 s_7 rfl l9_7 kl_X6_23 ki_X0 kn_X0 (by decide) (fun _ => rfl) (gRL_none (by decide)) rfl dX6_init_27 rfl ?_
  refine g_dup (t := 31) dX6_init_30 rfl rfl ?_
  refine g_callIN (o := 7) (t := 34) mX0_init rfl (List.mem_of_getElem? (i := 2) rfl) imX0_init rfl l9_7 ct4_X0_init rfl rfl (by decide) (by decide) (by decide) (by decide) dX6_init_31 rfl (fun r σ' q _ => ?_)
  obtain ⟨rfl, rfl⟩ := q
  refine g_putR (ci := 6) (k := 2) (o := 0) (r := 7) (t := 37) (by decide) l9_0 s_0 gp_X6_26 rfl l9_7 rfl (by first | exact ⟨_, Or.inl rfl⟩ | exact ⟨"", Or.inr ⟨_, rfl⟩⟩) dX6_init_34 rfl ?_
  refine Wp.eq (σ1 := (11, cI1, gRL [(0, 2, 7), (7, 4, 10), (7, 3, 9), (7, 2, 8), (0, 1, 4), (4, 2, 6), (4, 1, 5), (0, 0, 1), (1, 1, 3), (1, 0, 2)], 0)) rfl rfl rfl rfl ?_
  refine g_aload_n (i := 0) (r := 0) (t := 38) dX6_init_37 rfl rfl (Or.inl l9_0) rfl ?_
  refine g_new (ci := 2) (o := 11) (t := 41) gcl2 s_11 rfl l9_11 kl_X6_30 ki_X2 kn_X2 (by decide) (fun _ => rfl) (gRL_none (by decide)) rfl dX6_init_38 rfl ?_
  refine g_dup (t := 42) dX6_init_41 rfl rfl ?_
  refine g_aload_n (i := 0) (r := 0) (t := 43) dX6_init_42 rfl rfl (Or.inl l9_0) rfl ?_
  refine g_getR (ci := 6) (k := 1) (o := 0) (r := 4) (t := 46) (by decide) l9_0 s_0 gf_X6_19 rfl (by decide) l9_4 dX6_init_43 rfl ?_
  refine g_callI (o := 11) (t := 49) mX2_init rfl k_X6_32 imX2_init rfl l9_11 ct5_X2_init rfl rfl (by decide) (by decide) (by decide) (by decide) dX6_init_46 rfl (fun r σ' q _ => ?_)
  obtain ⟨rfl, rfl⟩ := q
  refine g_putR (ci := 6) (k := 3) (o := 0) (r := 11) (t := 52) (by decide) l9_0 s_0 gp_X6_35 rfl l9_11 rfl (by first | exact ⟨_, Or.inl rfl⟩ | exact ⟨"", Or.inr ⟨_, rfl⟩⟩) dX6_init_49 rfl ?_
  refine Wp.eq (σ1 := (18, cI1, gRL [(0, 3, 11), (11, 7, 4), (11, 6, 17), (11, 5, 16), (11, 4, 15), (11, 3, 14), (11, 2, 13), (11, 1, 12), (0, 2, 7), (7, 4, 10), (7, 3, 9), (7, 2, 8), (0, 1, 4), (4, 2, 6), (4, 1, 5), (0, 0, 1), (1, 1, 3), (1, 0, 2)], 0)) rfl rfl rfl rfl ?_
  refine g_aload_n (i := 0) (r := 0) (t := 53) dX6_init_52 rfl rfl (Or.inl l9_0) rfl ?_
  refine g_new (ci := 1) (o := 18) (t := 56) gcl1 s_18 rfl l9_18 kl_X6_39 ki_X1 kn_X1 (by decide) (fun _ => rfl) (gRL_none (by decide)) rfl dX6_init_53 rfl ?_
  refine g_dup (t := 57) dX6_init_56 rfl rfl ?_
  refine g_aload_n (i := 0) (r := 0) (t := 58) dX6_init_57 rfl rfl (Or.inl l9_0) rfl ?_
  refine g_getR (ci := 6) (k := 1) (o := 0) (r := 4) (t := 61) (by decide) l9_0 s_0 gf_X6_19 rfl (by decide) l9_4 dX6_init_58 rfl ?_
  refine g_aload_n (i := 0) (r := 0) (t := 62) dX6_init_61 rfl rfl (Or.inl l9_0) rfl ?_
  refine g_getR (ci := 6) (k := 3) (o := 0) (r := 11) (t := 65) (by decide) l9_0 s_0 gf_X6_35 rfl (by decide) l9_11 dX6_init_62 rfl ?_
  refine g_callI (o := 18) (t := 68) mX1_init rfl k_X6_41 imX1_init rfl l9_18 ct6_X1_init rfl rfl (by decide) (by decide) (by decide) (by decide) dX6_init_65 rfl (fun r σ' q _ => ?_)
  obtain ⟨rfl, rfl⟩ := q
  refine g_putR (ci := 6) (k := 4) (o := 0) (r := 18) (t := 71) (by decide) l9_0 s_0 gp_X6_44 rfl l9_18 rfl (by first | exact ⟨_, Or.inl rfl⟩ | exact ⟨"", Or.inr ⟨_, rfl⟩⟩) dX6_init_68 rfl ?_
  refine Wp.eq (σ1 := (27, cI1, gRL [(0, 4, 18), (18, 10, 11), (18, 9, 4), (18, 8, 26), (18, 7, 25), (18, 6, 24), (18, 5, 23), (18, 4, 22), (18, 3, 21), (18, 2, 20), (18, 1, 19), (0, 3, 11), (11, 7, 4), (11, 6, 17), (11, 5, 16), (11, 4, 15), (11, 3, 14), (11, 2, 13), (11, 1, 12), (0, 2, 7), (7, 4, 10), (7, 3, 9), (7, 2, 8), (0, 1, 4), (4, 2, 6), (4, 1, 5), (0, 0, 1), (1, 1, 3), (1, 0, 2)], 0)) rfl rfl rfl rfl ?_
  refine g_aload_n (i := 0) (r := 0) (t := 72) dX6_init_71 rfl rfl (Or.inl l9_0) rfl ?_
  refine g_new (ci := 3) (o := 27) (t := 75) gcl3 s_27 rfl l9_27 kl_X6_48 ki_X3 kn_X3 (by decide) (fun _ => rfl) (gRL_none (by decide)) rfl dX6_init_72 rfl ?_
  refine g_dup (t := 76) dX6_init_75 rfl rfl ?_
  refine g_aload_n (i := 0) (r := 0) (t := 77) dX6_init_76 rfl rfl (Or.inl l9_0) rfl ?_
  refine g_getR (ci := 6) (k := 1) (o := 0) (r := 4) (t := 80) (by decide) l9_0 s_0 gf_X6_19 rfl (by decide) l9_4 dX6_init_77 rfl ?_
  refine g_aload_n (i := 0) (r := 0) (t := 81) dX6_init_80 rfl rfl (Or.inl l9_0) rfl ?_
  refine g_getR (ci := 6) (k := 3) (o := 0) (r := 11) (t := 84) (by decide) l9_0 s_0 gf_X6_35 rfl (by decide) l9_11 dX6_init_81 rfl ?_
  refine g_aload_n (i := 0) (r := 0) (t := 85) dX6_init_84 rfl rfl (Or.inl l9_0) rfl ?_
  refine g_getR (ci := 6) (k := 4) (o := 0) (r := 18) (t := 88) (by decide) l9_0 s_0 gf_X6_44 rfl (by decide) l9_18 dX6_init_85 rfl ?_
  refine g_callI (o := 27) (t := 91) mX3_init rfl k_X6_50 imX3_init rfl l9_27 ct7_X3_init rfl rfl (by decide) (by decide) (by decide) (by decide) dX6_init_88 rfl (fun r σ' q _ => ?_)
  obtain ⟨rfl, rfl⟩ := q
  refine g_putR (ci := 6) (k := 5) (o := 0) (r := 27) (t := 94) (by decide) l9_0 s_0 gp_X6_53 rfl l9_27 rfl (by first | exact ⟨_, Or.inl rfl⟩ | exact ⟨"", Or.inr ⟨_, rfl⟩⟩) dX6_init_91 rfl ?_
  refine Wp.eq (σ1 := (32, cI1, gRL [(0, 5, 27), (27, 7, 18), (27, 6, 11), (27, 5, 4), (27, 4, 31), (27, 3, 30), (27, 2, 29), (27, 1, 28), (0, 4, 18), (18, 10, 11), (18, 9, 4), (18, 8, 26), (18, 7, 25), (18, 6, 24), (18, 5, 23), (18, 4, 22), (18, 3, 21), (18, 2, 20), (18, 1, 19), (0, 3, 11), (11, 7, 4), (11, 6, 17), (11, 5, 16), (11, 4, 15), (11, 3, 14), (11, 2, 13), (11, 1, 12), (0, 2, 7), (7, 4, 10), (7, 3, 9), (7, 2, 8), (0, 1, 4), (4, 2, 6), (4, 1, 5), (0, 0, 1), (1, 1, 3), (1, 0, 2)], 0)) rfl rfl rfl rfl ?_
  refine g_aload_n (i := 0) (r := 0) (t := 95) dX6_init_94 rfl rfl (Or.inl l9_0) rfl ?_
  refine g_new (ci := 1) (o := 32) (t := 98) gcl1 s_32 rfl l9_32 kl_X6_39 ki_X1 kn_X1 (by decide) (fun _ => rfl) (gRL_none (by decide)) rfl dX6_init_95 rfl ?_
  refine g_dup (t := 99) dX6_init_98 rfl rfl ?_
  refine g_aload_n (i := 0) (r := 0) (t := 100) dX6_init_99 rfl rfl (Or.inl l9_0) rfl ?_
  refine g_getR (ci := 6) (k := 1) (o := 0) (r := 4) (t := 103) (by decide) l9_0 s_0 gf_X6_19 rfl (by decide) l9_4 dX6_init_100 rfl ?_
  refine g_aload_n (i := 0) (r := 0) (t := 104) dX6_init_103 rfl rfl (Or.inl l9_0) rfl ?_
  refine g_getR (ci := 6) (k := 3) (o := 0) (r := 11) (t := 107) (by decide) l9_0 s_0 gf_X6_35 rfl (by decide) l9_11 dX6_init_104 rfl ?_
  refine g_callI (o := 32) (t := 110) mX1_init rfl k_X6_41 imX1_init rfl l9_32 ct8_X1_init rfl rfl (by decide) (by decide) (by decide) (by decide) dX6_init_107 rfl (fun r σ' q _ => ?_)
  obtain ⟨rfl, rfl⟩ := q
  refine g_putR (ci := 6) (k := 6) (o := 0) (r := 32) (t := 113) (by decide) l9_0 s_0 gp_X6_57 rfl l9_32 rfl (by first | exact ⟨_, Or.inl rfl⟩ | exact ⟨"", Or.inr ⟨_, rfl⟩⟩) dX6_init_110 rfl ?_
  refine Wp.eq (σ1 := (41, cI1, gRL [(0, 6, 32), (32, 10, 11), (32, 9, 4), (32, 8, 40), (32, 7, 39), (32, 6, 38), (32, 5, 37), (32, 4, 36), (32, 3, 35), (32, 2, 34), (32, 1, 33), (0, 5, 27), (27, 7, 18), (27, 6, 11), (27, 5, 4), (27, 4, 31), (27, 3, 30), (27, 2, 29), (27, 1, 28), (0, 4, 18), (18, 10, 11), (18, 9, 4), (18, 8, 26), (18, 7, 25), (18, 6, 24), (18, 5, 23), (18, 4, 22), (18, 3, 21), (18, 2, 20), (18, 1, 19), (0, 3, 11), (11, 7, 4), (11, 6, 17), (11, 5, 16), (11, 4, 15), (11, 3, 14), (11, 2, 13), (11, 1, 12), (0, 2, 7), (7, 4, 10), (7, 3, 9), (7, 2, 8), (0, 1, 4), (4, 2, 6), (4, 1, 5), (0, 0, 1), (1, 1, 3), (1, 0, 2)], 0)) rfl rfl rfl rfl ?_
  refine g_aload_n (i := 0) (r := 0) (t := 114) dX6_init_113 rfl rfl (Or.inl l9_0) rfl ?_
  refine g_iconst (t := 115) dX6_init_114 c_iconst_0 rfl ?_
  refine g_putI (ci := 6) (k := 7) (o := 0) (t := 118) (by decide) l9_0 s_0 gp_X6_60 rfl (by decide +kernel) (by decide +kernel) dX6_init_115 rfl ?_
  refine Wp.eq (σ1 := (41, cI2, gRL [(0, 6, 32), (32, 10, 11), (32, 9, 4), (32, 8, 40), (32, 7, 39), (32, 6, 38), (32, 5, 37), (32, 4, 36), (32, 3, 35), (32, 2, 34), (32, 1, 33), (0, 5, 27), (27, 7, 18), (27, 6, 11), (27, 5, 4), (27, 4, 31), (27, 3, 30), (27, 2, 29), (27, 1, 28), (0, 4, 18), (18, 10, 11), (18, 9, 4), (18, 8, 26), (18, 7, 25), (18, 6, 24), (18, 5, 23), (18, 4, 22), (18, 3, 21), (18, 2, 20), (18, 1, 19), (0, 3, 11), (11, 7, 4), (11, 6, 17), (11, 5, 16), (11, 4, 15), (11, 3, 14), (11, 2, 13), (11, 1, 12), (0, 2, 7), (7, 4, 10), (7, 3, 9), (7, 2, 8), (0, 1, 4), (4, 2, 6), (4, 1, 5), (0, 0, 1), (1, 1, 3), (1, 0, 2)], 0)) rfl rfl rfl rfl ?_
  exact Wp.here ⟨rfl, Or.inr (Or.inl ⟨dX6_init_118, rfl, rfl, rfl, rfl⟩)⟩
theorem ct9_X7_init : gEv E fX7_init 62 [.ref 41] (42, cI2, gRL [(0, 6, 32), (32, 10, 11), (32, 9, 4), (32, 8, 40), (32, 7, 39), (32, 6, 38), (32, 5, 37), (32, 4, 36), (32, 3, 35), (32, 2, 34), (32, 1, 33), (0, 5, 27), (27, 7, 18), (27, 6, 11), (27, 5, 4), (27, 4, 31), (27, 3, 30), (27, 2, 29), (27, 1, 28), (0, 4, 18), (18, 10, 11), (18, 9, 4), (18, 8, 26), (18, 7, 25), (18, 6, 24), (18, 5, 23), (18, 4, 22), (18, 3, 21), (18, 2, 20), (18, 1, 19), (0, 3, 11), (11, 7, 4), (11, 6, 17), (11, 5, 16), (11, 4, 15), (11, 3, 14), (11, 2, 13), (11, 1, 12), (0, 2, 7), (7, 4, 10), (7, 3, 9), (7, 2, 8), (0, 1, 4), (4, 2, 6), (4, 1, 5), (0, 0, 1), (1, 1, 3), (1, 0, 2)], 0) (fun r σ' => r = none ∧ σ' = (62, cI4, gRL [(41, 25, 61), (41, 24, 60), (41, 23, 59), (41, 22, 58), (41, 21, 57), (41, 20, 56), (41, 19, 55), (41, 18, 54), (41, 17, 53), (41, 16, 52), (41, 15, 51), (41, 14, 50), (41, 12, 49), (41, 11, 48), (41, 10, 47), (41, 8, 46), (41, 7, 45), (41, 3, 44), (41, 1, 43), (41, 0, 42), (0, 6, 32), (32, 10, 11), (32, 9, 4), (32, 8, 40), (32, 7, 39), (32, 6, 38), (32, 5, 37), (32, 4, 36), (32, 3, 35), (32, 2, 34), (32, 1, 33), (0, 5, 27), (27, 7, 18), (27, 6, 11), (27, 5, 4), (27, 4, 31), (27, 3, 30), (27, 2, 29), (27, 1, 28), (0, 4, 18), (18, 10, 11), (18, 9, 4), (18, 8, 26), (18, 7, 25), (18, 6, 24), (18, 5, 23), (18, 4, 22), (18, 3, 21), (18, 2, 20), (18, 1, 19), (0, 3, 11), (11, 7, 4), (11, 6, 17), (11, 5, 16), (11, 4, 15), (11, 3, 14), (11, 2, 13), (11, 1, 12), (0, 2, 7), (7, 4, 10), (7, 3, 9), (7, 2, 8), (0, 1, 4), (4, 2, 6), (4, 1, 5), (0, 0, 1), (1, 1, 3), (1, 0, 2)], 0)) := by
  refine gEv.of rfl (by decide) (Nat.le_of_ble_eq_true rfl) (L := [.ref 41]) rfl ?_
  refine g_aload_n (i := 0) (r := 41) (t := 1) dX7_init_0 rfl rfl (Or.inl l9_41) rfl ?_
  refine g_objInit (o := 41) (t := 4) l9_41 k_X7_1 k_oi1 k_oi2 (by decide) (by decide) (by decide) dX7_init_1 rfl ?_
  refine g_aload_n (i := 0) (r := 41) (t := 5) dX7_init_4 rfl rfl (Or.inl l9_41) rfl ?_
  refine g_sipush (t := 8) dX7_init_5 c_sipush_184 rfl ?_
  refine g_newa (at_ := .int) (kd := 0) (n := 184) (o := 42) (t := 10) rfl (by decide) ka_int s_42 rfl l9_42 (nI_pos (by decide)) (nI_clamp (by decide)) (by decide) (by decide) (fun _ => rfl) dX7_init_8 rfl ?_
  refine g_putR (ci := 7) (k := 0) (o := 41) (r := 42) (t := 13) (by decide) l9_41 s_41 gp_X7_7 rfl l9_42 rfl (by first | exact ⟨_, Or.inl rfl⟩ | exact ⟨"", Or.inr ⟨_, rfl⟩⟩) dX7_init_10 rfl ?_
  refine Wp.eq (σ1 := (43, cI2, gRL [(41, 0, 42), (0, 6, 32), (32, 10, 11), (32, 9, 4), (32, 8, 40), (32, 7, 39), (32, 6, 38), (32, 5, 37), (32, 4, 36), (32, 3, 35), (32, 2, 34), (32, 1, 33), (0, 5, 27), (27, 7, 18), (27, 6, 11), (27, 5, 4), (27, 4, 31), (27, 3, 30), (27, 2, 29), (27, 1, 28), (0, 4, 18), (18, 10, 11), (18, 9, 4), (18, 8, 26), (18, 7, 25), (18, 6, 24), (18, 5, 23), (18, 4, 22), (18, 3, 21), (18, 2, 20), (18, 1, 19), (0, 3, 11), (11, 7, 4), (11, 6, 17), (11, 5, 16), (11, 4, 15), (11, 3, 14), (11, 2, 13), (11, 1, 12), (0, 2, 7), (7, 4, 10), (7, 3, 9), (7, 2, 8), (0, 1, 4), (4, 2, 6), (4, 1, 5), (0, 0, 1), (1, 1, 3), (1, 0, 2)], 0)) rfl rfl rfl rfl ?_
  refine g_aload_n (i := 0) (r := 41) (t := 14) dX7_init_13 rfl rfl (Or.inl l9_41) rfl ?_
  refine g_sipush (t := 17) dX7_init_14 c_sipush_1472 rfl ?_
  refine g_newa (at_ := .int) (kd := 0) (n := 1472) (o := 43) (t := 19) rfl (by decide) ka_int s_43 rfl l9_43 (nI_pos (by decide)) (nI_clamp (by decide)) (by decide) (by decide) (fun _ => rfl) dX7_init_17 rfl ?_
  refine g_putR (ci := 7) (k := 1) (o := 41) (r := 43) (t := 22) (by decide) l9_41 s_41 gp_X7_13 rfl l9_43 rfl (by first | exact ⟨_, Or.inl rfl⟩ | exact ⟨"", Or.inr ⟨_, rfl⟩⟩) dX7_init_19 rfl ?_
  refine Wp.eq (σ1 := (44, cI2, gRL [(41, 1, 43), (41, 0, 42), (0, 6, 32), (32, 10, 11), (32, 9, 4), (32, 8, 40), (32, 7, 39), (32, 6, 38), (32, 5, 37), (32, 4, 36), (32, 3, 35), (32, 2, 34), (32, 1, 33), (0, 5, 27), (27, 7, 18), (27, 6, 11), (27, 5, 4), (27, 4, 31), (27, 3, 30), (27, 2, 29), (27, 1, 28), (0, 4, 18), (18, 10, 11), (18, 9, 4), (18, 8, 26), (18, 7, 25), (18, 6, 24), (18, 5, 23), (18, 4, 22), (18, 3, 21), (18, 2, 20), (18, 1, 19), (0, 3, 11), (11, 7, 4), (11, 6, 17), (11, 5, 16), (11, 4, 15), (11, 3, 14), (11, 2, 13), (11, 1, 12), (0, 2, 7), (7, 4, 10), (7, 3, 9), (7, 2, 8), (0, 1, 4), (4, 2, 6), (4, 1, 5), (0, 0, 1), (1, 1, 3), (1, 0, 2)], 0)) rfl rfl rfl rfl ?_
  refine g_aload_n (i := 0) (r := 41) (t := 23) dX7_init_22 rfl rfl (Or.inl l9_41) rfl ?_
  refine g_bipush (t := 25) dX7_init_23 c_bipush_80 rfl ?_
  refine g_newa (at_ := .int) (kd := 0) (n := 80) (o := 44) (t := 27) rfl (by decide) ka_int s_44 rfl l9_44 (nI_pos (by decide)) (nI_clamp (by decide)) (by decide) (by decide) (fun _ => rfl) dX7_init_25 rfl ?_
  refine g_putR (ci := 7) (k := 3) (o := 41) (r := 44) (t := 30) (by decide) l9_41 s_41 gp_X7_16 rfl l9_44 rfl (by first | exact ⟨_, Or.inl rfl⟩ | exact ⟨"", Or.inr ⟨_, rfl⟩⟩) dX7_init_27 rfl ?_
  refine Wp.eq (σ1 := (45, cI2, gRL [(41, 3, 44), (41, 1, 43), (41, 0, 42), (0, 6, 32), (32, 10, 11), (32, 9, 4), (32, 8, 40), (32, 7, 39), (32, 6, 38), (32, 5, 37), (32, 4, 36), (32, 3, 35), (32, 2, 34), (32, 1, 33), (0, 5, 27), (27, 7, 18), (27, 6, 11), (27, 5, 4), (27, 4, 31), (27, 3, 30), (27, 2, 29), (27, 1, 28), (0, 4, 18), (18, 10, 11), (18, 9, 4), (18, 8, 26), (18, 7, 25), (18, 6, 24), (18, 5, 23), (18, 4, 22), (18, 3, 21), (18, 2, 20), (18, 1, 19), (0, 3, 11), (11, 7, 4), (11, 6, 17), (11, 5, 16), (11, 4, 15), (11, 3, 14), (11, 2, 13), (11, 1, 12), (0, 2, 7), (7, 4, 10), (7, 3, 9), (7, 2, 8), (0, 1, 4), (4, 2, 6), (4, 1, 5), (0, 0, 1), (1, 1, 3), (1, 0, 2)], 0)) rfl rfl rfl rfl ?_
  refine g_aload_n (i := 0) (r := 41) (t := 31) dX7_init_30 rfl rfl (Or.inl l9_41) rfl ?_
  refine g_bipush (t := 33) dX7_init_31 c_bipush_11 rfl ?_
  refine g_newa (at_ := .int) (kd := 0) (n := 11) (o := 45) (t := 35) rfl (by decide) ka_int s_45 rfl l9_45 (nI_pos (by decide)) (nI_clamp (by decide)) (by decide) (by decide) (fun _ => rfl) dX7_init_33 rfl ?_
  refine g_putR (ci := 7) (k := 7) (o := 41) (r := 45) (t := 38) (by decide) l9_41 s_41 gp_X7_19 rfl l9_45 rfl (by first | exact ⟨_, Or.inl rfl⟩ | exact ⟨"", Or.inr ⟨_, rfl⟩⟩) dX7_init_35 rfl ?_
  refine Wp.eq (σ1 := (46, cI2, gRL [(41, 7, 45), (41, 3, 44), (41, 1, 43), (41, 0, 42), (0, 6, 32), (32, 10, 11), (32, 9, 4), (32, 8, 40), (32, 7, 39), (32, 6, 38), (32, 5, 37), (32, 4, 36), (32, 3, 35), (32, 2, 34), (32, 1, 33), (0, 5, 27), (27, 7, 18), (27, 6, 11), (27, 5, 4), (27, 4, 31), (27, 3, 30), (27, 2, 29), (27, 1, 28), (0, 4, 18), (18, 10, 11), (18, 9, 4), (18, 8, 26), (18, 7, 25), (18, 6, 24), (18, 5, 23), (18, 4, 22), (18, 3, 21), (18, 2, 20), (18, 1, 19), (0, 3, 11), (11, 7, 4), (11, 6, 17), (11, 5, 16), (11, 4, 15), (11, 3, 14), (11, 2, 13), (11, 1, 12), (0, 2, 7), (7, 4, 10), (7, 3, 9), (7, 2, 8), (0, 1, 4), (4, 2, 6), (4, 1, 5), (0, 0, 1), (1, 1, 3), (1, 0, 2)], 0)) rfl rfl rfl rfl ?_
  refine g_aload_n (i := 0) (r := 41) (t := 39) dX7_init_38 rfl rfl (Or.inl l9_41) rfl ?_
  refine g_bipush (t := 41) dX7_init_39 c_bipush_16 rfl ?_
  refine g_newa (at_ := .int) (kd := 0) (n := 16) (o := 46) (t := 43) rfl (by decide) ka_int s_46 rfl l9_46 (nI_pos (by decide)) (nI_clamp (by decide)) (by decide) (by decide) (fun _ => rfl) dX7_init_41 rfl ?_
  refine g_putR (ci := 7) (k := 8) (o := 41) (r := 46) (t := 46) (by decide) l9_41 s_41 gp_X7_22 rfl l9_46 rfl (by first | exact ⟨_, Or.inl rfl⟩ | exact ⟨"", Or.inr ⟨_, rfl⟩⟩) dX7_init_43 rfl ?_
  refine Wp.eq (σ1 := (47, cI2, gRL [(41, 8, 46), (41, 7, 45), (41, 3, 44), (41, 1, 43), (41, 0, 42), (0, 6, 32), (32, 10, 11), (32, 9, 4), (32, 8, 40), (32, 7, 39), (32, 6, 38), (32, 5, 37), (32, 4, 36), (32, 3, 35), (32, 2, 34), (32, 1, 33), (0, 5, 27), (27, 7, 18), (27, 6, 11), (27, 5, 4), (27, 4, 31), (27, 3, 30), (27, 2, 29), (27, 1, 28), (0, 4, 18), (18, 10, 11), (18, 9, 4), (18, 8, 26), (18, 7, 25), (18, 6, 24), (18, 5, 23), (18, 4, 22), (18, 3, 21), (18, 2, 20), (18, 1, 19), (0, 3, 11), (11, 7, 4), (11, 6, 17), (11, 5, 16), (11, 4, 15), (11, 3, 14), (11, 2, 13), (11, 1, 12), (0, 2, 7), (7, 4, 10), (7, 3, 9), (7, 2, 8), (0, 1, 4), (4, 2, 6), (4, 1, 5), (0, 0, 1), (1, 1, 3), (1, 0, 2)], 0)) rfl rfl rfl rfl ?_
  refine g_aload_n (i := 0) (r := 41) (t := 47) dX7_init_46 rfl rfl (Or.inl l9_41) rfl ?_
  refine g_bipush (t := 49) dX7_init_47 c_bipush_16 rfl ?_
  refine g_newa (at_ := .int) (kd := 0) (n := 16) (o := 47) (t := 51) rfl (by decide) ka_int s_47 rfl l9_47 (nI_pos (by decide)) (nI_clamp (by decide)) (by decide) (by decide) (fun _ => rfl) dX7_init_49 rfl ?_
  refine g_putR (ci := 7) (k := 10) (o := 41) (r := 47) (t := 54) (by decide) l9_41 s_41 gp_X7_25 rfl l9_47 rfl (by first | exact ⟨_, Or.inl rfl⟩ | exact ⟨"", Or.inr ⟨_, rfl⟩⟩) dX7_init_51 rfl ?_
  refine Wp.eq (σ1 := (48, cI2, gRL [(41, 10, 47), (41, 8, 46), (41, 7, 45), (41, 3, 44), (41, 1, 43), (41, 0, 42), (0, 6, 32), (32, 10, 11), (32, 9, 4), (32, 8, 40), (32, 7, 39), (32, 6, 38), (32, 5, 37), (32, 4, 36), (32, 3, 35), (32, 2, 34), (32, 1, 33), (0, 5, 27), (27, 7, 18), (27, 6, 11), (27, 5, 4), (27, 4, 31), (27, 3, 30), (27, 2, 29), (27, 1, 28), (0, 4, 18), (18, 10, 11), (18, 9, 4), (18, 8, 26), (18, 7, 25), (18, 6, 24), (18, 5, 23), (18, 4, 22), (18, 3, 21), (18, 2, 20), (18, 1, 19), (0, 3, 11), (11, 7, 4), (11, 6, 17), (11, 5, 16), (11, 4, 15), (11, 3, 14), (11, 2, 13), (11, 1, 12), (0, 2, 7), (7, 4, 10), (7, 3, 9), (7, 2, 8), (0, 1, 4), (4, 2, 6), (4, 1, 5), (0, 0, 1), (1, 1, 3), (1, 0, 2)], 0)) rfl rfl rfl rfl ?_
  refine g_aload_n (i := 0) (r := 41) (t := 55) dX7_init_54 rfl rfl (Or.inl l9_41) rfl ?_
  refine g_bipush (t := 57) dX7_init_55 c_bipush_16 rfl ?_
  refine g_newa (at_ := .int) (kd := 0) (n := 16) (o := 48) (t := 59) rfl (by decide) ka_int s_48 rfl l9_48 (nI_pos (by decide)) (nI_clamp (by decide)) (by decide) (by decide) (fun _ => rfl) dX7_init_57 rfl ?_
  refine g_putR (ci := 7) (k := 11) (o := 41) (r := 48) (t := 62) (by decide) l9_41 s_41 gp_X7_28 rfl l9_48 rfl (by first | exact ⟨_, Or.inl rfl⟩ | exact ⟨"", Or.inr ⟨_, rfl⟩⟩) dX7_init_59 rfl ?_
  refine Wp.eq (σ1 := (49, cI2, gRL [(41, 11, 48), (41, 10, 47), (41, 8, 46), (41, 7, 45), (41, 3, 44), (41, 1, 43), (41, 0, 42), (0, 6, 32), (32, 10, 11), (32, 9, 4), (32, 8, 40), (32, 7, 39), (32, 6, 38), (32, 5, 37), (32, 4, 36), (32, 3, 35), (32, 2, 34), (32, 1, 33), (0, 5, 27), (27, 7, 18), (27, 6, 11), (27, 5, 4), (27, 4, 31), (27, 3, 30), (27, 2, 29), (27, 1, 28), (0, 4, 18), (18, 10, 11), (18, 9, 4), (18, 8, 26), (18, 7, 25), (18, 6, 24), (18, 5, 23), (18, 4, 22), (18, 3, 21), (18, 2, 20), (18, 1, 19), (0, 3, 11), (11, 7, 4), (11, 6, 17), (11, 5, 16), (11, 4, 15), (11, 3, 14), (11, 2, 13), (11, 1, 12), (0, 2, 7), (7, 4, 10), (7, 3, 9), (7, 2, 8), (0, 1, 4), (4, 2, 6), (4, 1, 5), (0, 0, 1), (1, 1, 3), (1, 0, 2)], 0)) rfl rfl rfl rfl ?_
  refine g_aload_n (i := 0) (r := 41) (t := 63) dX7_init_62 rfl rfl (Or.inl l9_41) rfl ?_
  refine g_bipush (t := 65) dX7_init_63 c_bipush_16 rfl ?_
  refine g_newa (at_ := .int) (kd := 0) (n := 16) (o := 49) (t := 67) rfl (by decide) ka_int s_49 rfl l9_49 (nI_pos (by decide)) (nI_clamp (by decide)) (by decide) (by decide) (fun _ => rfl) dX7_init_65 rfl ?_
  refine g_putR (ci := 7) (k := 12) (o := 41) (r := 49) (t := 70) (by decide) l9_41 s_41 gp_X7_31 rfl l9_49 rfl (by first | exact ⟨_, Or.inl rfl⟩ | exact ⟨"", Or.inr ⟨_, rfl⟩⟩) dX7_init_67 rfl ?_
  refine Wp.eq (σ1 := (50, cI2, gRL [(41, 12, 49), (41, 11, 48), (41, 10, 47), (41, 8, 46), (41, 7, 45), (41, 3, 44), (41, 1, 43), (41, 0, 42), (0, 6, 32), (32, 10, 11), (32, 9, 4), (32, 8, 40), (32, 7, 39), (32, 6, 38), (32, 5, 37), (32, 4, 36), (32, 3, 35), (32, 2, 34), (32, 1, 33), (0, 5, 27), (27, 7, 18), (27, 6, 11), (27, 5, 4), (27, 4, 31), (27, 3, 30), (27, 2, 29), (27, 1, 28), (0, 4, 18), (18, 10, 11), (18, 9, 4), (18, 8, 26), (18, 7, 25), (18, 6, 24), (18, 5, 23), (18, 4, 22), (18, 3, 21), (18, 2, 20), (18, 1, 19), (0, 3, 11), (11, 7, 4), (11, 6, 17), (11, 5, 16), (11, 4, 15), (11, 3, 14), (11, 2, 13), (11, 1, 12), (0, 2, 7), (7, 4, 10), (7, 3, 9), (7, 2, 8), (0, 1, 4), (4, 2, 6), (4, 1, 5), (0, 0, 1), (1, 1, 3), (1, 0, 2)], 0)) rfl rfl rfl rfl ?_
  refine g_aload_n (i := 0) (r := 41) (t := 71) dX7_init_70 rfl rfl (Or.inl l9_41) rfl ?_
  refine g_bipush (t := 73) dX7_init_71 c_bipush_16 rfl ?_
  refine g_newa (at_ := .int) (kd := 0) (n := 16) (o := 50) (t := 75) rfl (by decide) ka_int s_50 rfl l9_50 (nI_pos (by decide)) (nI_clamp (by decide)) (by decide) (by decide) (fun _ => rfl) dX7_init_73 rfl ?_
  refine g_putR (ci := 7) (k := 14) (o := 41) (r := 50) (t := 78) (by decide) l9_41 s_41 gp_X7_34 rfl l9_50 rfl (by first | exact ⟨_, Or.inl rfl⟩ | exact ⟨"", Or.inr ⟨_, rfl⟩⟩) dX7_init_75 rfl ?_
  refine Wp.eq (σ1 := (51, cI2, gRL [(41, 14, 50), (41, 12, 49), (41, 11, 48), (41, 10, 47), (41, 8, 46), (41, 7, 45), (41, 3, 44), (41, 1, 43), (41, 0, 42), (0, 6, 32), (32, 10, 11), (32, 9, 4), (32, 8, 40), (32, 7, 39), (32, 6, 38), (32, 5, 37), (32, 4, 36), (32, 3, 35), (32, 2, 34), (32, 1, 33), (0, 5, 27), (27, 7, 18), (27, 6, 11), (27, 5, 4), (27, 4, 31), (27, 3, 30), (27, 2, 29), (27, 1, 28), (0, 4, 18), (18, 10, 11), (18, 9, 4), (18, 8, 26), (18, 7, 25), (18, 6, 24), (18, 5, 23), (18, 4, 22), (18, 3, 21), (18, 2, 20), (18, 1, 19), (0, 3, 11), (11, 7, 4), (11, 6, 17), (11, 5, 16), (11, 4, 15), (11, 3, 14), (11, 2, 13), (11, 1, 12), (0, 2, 7), (7, 4, 10), (7, 3, 9), (7, 2, 8), (0, 1, 4), (4, 2, 6), (4, 1, 5), (0, 0, 1), (1, 1, 3), (1, 0, 2)], 0)) rfl rfl rfl rfl ?_
  refine g_aload_n (i := 0) (r := 41) (t := 79) dX7_init_78 rfl rfl (Or.inl l9_41) rfl ?_
  refine g_bipush (t := 81) dX7_init_79 c_bipush_16 rfl ?_
  refine g_newa (at_ := .int) (kd := 0) (n := 16) (o := 51) (t := 83) rfl (by decide) ka_int s_51 rfl l9_51 (nI_pos (by decide)) (nI_clamp (by decide)) (by decide) (by decide) (fun _ => rfl) dX7_init_81 rfl ?_
  refine g_putR (ci := 7) (k := 15) (o := 41) (r := 51) (t := 86) (by decide) l9_41 s_41 gp_X7_37 rfl l9_51 rfl (by first | exact ⟨_, Or.inl rfl⟩ | exact ⟨"", Or.inr ⟨_, rfl⟩⟩) dX7_init_83 rfl ?_
  refine Wp.eq (σ1 := (52, cI2, gRL [(41, 15, 51), (41, 14, 50), (41, 12, 49), (41, 11, 48), (41, 10, 47), (41, 8, 46), (41, 7, 45), (41, 3, 44), (41, 1, 43), (41, 0, 42), (0, 6, 32), (32, 10, 11), (32, 9, 4), (32, 8, 40), (32, 7, 39), (32, 6, 38), (32, 5, 37), (32, 4, 36), (32, 3, 35), (32, 2, 34), (32, 1, 33), (0, 5, 27), (27, 7, 18), (27, 6, 11), (27, 5, 4), (27, 4, 31), (27, 3, 30), (27, 2, 29), (27, 1, 28), (0, 4, 18), (18, 10, 11), (18, 9, 4), (18, 8, 26), (18, 7, 25), (18, 6, 24), (18, 5, 23), (18, 4, 22), (18, 3, 21), (18, 2, 20), (18, 1, 19), (0, 3, 11), (11, 7, 4), (11, 6, 17), (11, 5, 16), (11, 4, 15), (11, 3, 14), (11, 2, 13), (11, 1, 12), (0, 2, 7), (7, 4, 10), (7, 3, 9), (7, 2, 8), (0, 1, 4), (4, 2, 6), (4, 1, 5), (0, 0, 1), (1, 1, 3), (1, 0, 2)], 0)) rfl rfl rfl rfl ?_
  refine g_aload_n (i := 0) (r := 41) (t := 87) dX7_init_86 rfl rfl (Or.inl l9_41) rfl ?_
  refine g_bipush (t := 89) dX7_init_87 c_bipush_16 rfl ?_
  refine g_newa (at_ := .int) (kd := 0) (n := 16) (o := 52) (t := 91) rfl (by decide) ka_int s_52 rfl l9_52 (nI_pos (by decide)) (nI_clamp (by decide)) (by decide) (by decide) (fun _ => rfl) dX7_init_89 rfl ?_
  refine g_putR (ci := 7) (k := 16) (o := 41) (r := 52) (t := 94) (by decide) l9_41 s_41 gp_X7_40 rfl l9_52 rfl (by first | exact ⟨_, Or.inl rfl⟩ | exact ⟨"", Or.inr ⟨_, rfl⟩⟩) dX7_init_91 rfl ?_
  refine Wp.eq (σ1 := (53, cI2, gRL [(41, 16, 52), (41, 15, 51), (41, 14, 50), (41, 12, 49), (41, 11, 48), (41, 10, 47), (41, 8, 46), (41, 7, 45), (41, 3, 44), (41, 1, 43), (41, 0, 42), (0, 6, 32), (32, 10, 11), (32, 9, 4), (32, 8, 40), (32, 7, 39), (32, 6, 38), (32, 5, 37), (32, 4, 36), (32, 3, 35), (32, 2, 34), (32, 1, 33), (0, 5, 27), (27, 7, 18), (27, 6, 11), (27, 5, 4), (27, 4, 31), (27, 3, 30), (27, 2, 29), (27, 1, 28), (0, 4, 18), (18, 10, 11), (18, 9, 4), (18, 8, 26), (18, 7, 25), (18, 6, 24), (18, 5, 23), (18, 4, 22), (18, 3, 21), (18, 2, 20), (18, 1, 19), (0, 3, 11), (11, 7, 4), (11, 6, 17), (11, 5, 16), (11, 4, 15), (11, 3, 14), (11, 2, 13), (11, 1, 12), (0, 2, 7), (7, 4, 10), (7, 3, 9), (7, 2, 8), (0, 1, 4), (4, 2, 6), (4, 1, 5), (0, 0, 1), (1, 1, 3), (1, 0, 2)], 0)) rfl rfl rfl rfl ?_
  refine g_aload_n (i := 0) (r := 41) (t := 95) dX7_init_94 rfl rfl (Or.inl l9_41) rfl ?_
  refine g_bipush (t := 97) dX7_init_95 c_bipush_16 rfl ?_
  refine g_newa (at_ := .boolean) (kd := 2) (n := 16) (o := 53) (t := 99) rfl (by decide) ka_boolean s_53 rfl l9_53 (nI_pos (by decide)) (nI_clamp (by decide)) (by decide) (by decide) (fun _ => rfl) dX7_init_97 rfl ?_
  refine g_putR (ci := 7) (k := 17) (o := 41) (r := 53) (t := 102) (by decide) l9_41 s_41 gp_X7_43 rfl l9_53 rfl (by first | exact ⟨_, Or.inl rfl⟩ | exact ⟨"", Or.inr ⟨_, rfl⟩⟩) dX7_init_99 rfl ?_
  refine Wp.eq (σ1 := (54, cI2, gRL [(41, 17, 53), (41, 16, 52), (41, 15, 51), (41, 14, 50), (41, 12, 49), (41, 11, 48), (41, 10, 47), (41, 8, 46), (41, 7, 45), (41, 3, 44), (41, 1, 43), (41, 0, 42), (0, 6, 32), (32, 10, 11), (32, 9, 4), (32, 8, 40), (32, 7, 39), (32, 6, 38), (32, 5, 37), (32, 4, 36), (32, 3, 35), (32, 2, 34), (32, 1, 33), (0, 5, 27), (27, 7, 18), (27, 6, 11), (27, 5, 4), (27, 4, 31), (27, 3, 30), (27, 2, 29), (27, 1, 28), (0, 4, 18), (18, 10, 11), (18, 9, 4), (18, 8, 26), (18, 7, 25), (18, 6, 24), (18, 5, 23), (18, 4, 22), (18, 3, 21), (18, 2, 20), (18, 1, 19), (0, 3, 11), (11, 7, 4), (11, 6, 17), (11, 5, 16), (11, 4, 15), (11, 3, 14), (11, 2, 13), (11, 1, 12), (0, 2, 7), (7, 4, 10), (7, 3, 9), (7, 2, 8), (0, 1, 4), (4, 2, 6), (4, 1, 5), (0, 0, 1), (1, 1, 3), (1, 0, 2)], 0)) rfl rfl rfl rfl ?_
  refine g_aload_n (i := 0) (r := 41) (t := 103) dX7_init_102 rfl rfl (Or.inl l9_41) rfl ?_
  refine g_bipush (t := 105) dX7_init_103 c_bipush_16 rfl ?_
  refine g_newa (at_ := .int) (kd := 0) (n := 16) (o := 54) (t := 107) rfl (by decide) ka_int s_54 rfl l9_54 (nI_pos (by decide)) (nI_clamp (by decide)) (by decide) (by decide) (fun _ => rfl) dX7_init_105 rfl ?_
  refine g_putR (ci := 7) (k := 18) (o := 41) (r := 54) (t := 110) (by decide) l9_41 s_41 gp_X7_47 rfl l9_54 rfl (by first | exact ⟨_, Or.inl rfl⟩ | exact ⟨"", Or.inr ⟨_, rfl⟩⟩) dX7_init_107 rfl ?_
  refine Wp.eq (σ1 := (55, cI2, gRL [(41, 18, 54), (41, 17, 53), (41, 16, 52), (41, 15, 51), (41, 14, 50), (41, 12, 49), (41, 11, 48), (41, 10, 47), (41, 8, 46), (41, 7, 45), (41, 3, 44), (41, 1, 43), (41, 0, 42), (0, 6, 32), (32, 10, 11), (32, 9, 4), (32, 8, 40), (32, 7, 39), (32, 6, 38), (32, 5, 37), (32, 4, 36), (32, 3, 35), (32, 2, 34), (32, 1, 33), (0, 5, 27), (27, 7, 18), (27, 6, 11), (27, 5, 4), (27, 4, 31), (27, 3, 30), (27, 2, 29), (27, 1, 28), (0, 4, 18), (18, 10, 11), (18, 9, 4), (18, 8, 26), (18, 7, 25), (18, 6, 24), (18, 5, 23), (18, 4, 22), (18, 3, 21), (18, 2, 20), (18, 1, 19), (0, 3, 11), (11, 7, 4), (11, 6, 17), (11, 5, 16), (11, 4, 15), (11, 3, 14), (11, 2, 13), (11, 1, 12), (0, 2, 7), (7, 4, 10), (7, 3, 9), (7, 2, 8), (0, 1, 4), (4, 2, 6), (4, 1, 5), (0, 0, 1), (1, 1, 3), (1, 0, 2)], 0)) rfl rfl rfl rfl ?_
  refine g_aload_n (i := 0) (r := 41) (t := 111) dX7_init_110 rfl rfl (Or.inl l9_41) rfl ?_
  refine g_bipush (t := 113) dX7_init_111 c_bipush_16 rfl ?_
  refine g_newa (at_ := .int) (kd := 0) (n := 16) (o := 55) (t := 115) rfl (by decide) ka_int s_55 rfl l9_55 (nI_pos (by decide)) (nI_clamp (by decide)) (by decide) (by decide) (fun _ => rfl) dX7_init_113 rfl ?_
  refine g_putR (ci := 7) (k := 19) (o := 41) (r := 55) (t := 118) (by decide) l9_41 s_41 gp_X7_50 rfl l9_55 rfl (by first | exact ⟨_, Or.inl rfl⟩ | exact ⟨"", Or.inr ⟨_, rfl⟩⟩) dX7_init_115 rfl ?_
  refine Wp.eq (σ1 := (56, cI2, gRL [(41, 19, 55), (41, 18, 54), (41, 17, 53), (41, 16, 52), (41, 15, 51), (41, 14, 50), (41, 12, 49), (41, 11, 48), (41, 10, 47), (41, 8, 46), (41, 7, 45), (41, 3, 44), (41, 1, 43), (41, 0, 42), (0, 6, 32), (32, 10, 11), (32, 9, 4), (32, 8, 40), (32, 7, 39), (32, 6, 38), (32, 5, 37), (32, 4, 36), (32, 3, 35), (32, 2, 34), (32, 1, 33), (0, 5, 27), (27, 7, 18), (27, 6, 11), (27, 5, 4), (27, 4, 31), (27, 3, 30), (27, 2, 29), (27, 1, 28), (0, 4, 18), (18, 10, 11), (18, 9, 4), (18, 8, 26), (18, 7, 25), (18, 6, 24), (18, 5, 23), (18, 4, 22), (18, 3, 21), (18, 2, 20), (18, 1, 19), (0, 3, 11), (11, 7, 4), (11, 6, 17), (11, 5, 16), (11, 4, 15), (11, 3, 14), (11, 2, 13), (11, 1, 12), (0, 2, 7), (7, 4, 10), (7, 3, 9), (7, 2, 8), (0, 1, 4), (4, 2, 6), (4, 1, 5), (0, 0, 1), (1, 1, 3), (1, 0, 2)], 0)) rfl rfl rfl rfl ?_
  refine g_aload_n (i := 0) (r := 41) (t := 119) dX7_init_118 rfl rfl (Or.inl l9_41) rfl ?_
  refine g_bipush (t := 121) dX7_init_119 c_bipush_16 rfl ?_
  refine g_newa (at_ := .int) (kd := 0) (n := 16) (o := 56) (t := 123) rfl (by decide) ka_int s_56 rfl l9_56 (nI_pos (by decide)) (nI_clamp (by decide)) (by decide) (by decide) (fun _ => rfl) dX7_init_121 rfl ?_
  refine g_putR (ci := 7) (k := 20) (o := 41) (r := 56) (t := 126) (by decide) l9_41 s_41 gp_X7_53 rfl l9_56 rfl (by first | exact ⟨_, Or.inl rfl⟩ | exact ⟨"", Or.inr ⟨_, rfl⟩⟩) dX7_init_123 rfl ?_
  refine Wp.eq (σ1 := (57, cI2, gRL [(41, 20, 56), (41, 19, 55), (41, 18, 54), (41, 17, 53), (41, 16, 52), (41, 15, 51), (41, 14, 50), (41, 12, 49), (41, 11, 48), (41, 10, 47), (41, 8, 46), (41, 7, 45), (41, 3, 44), (41, 1, 43), (41, 0, 42), (0, 6, 32), (32, 10, 11), (32, 9, 4), (32, 8, 40), (32, 7, 39), (32, 6, 38), (32, 5, 37), (32, 4, 36), (32, 3, 35), (32, 2, 34), (32, 1, 33), (0, 5, 27), (27, 7, 18), (27, 6, 11), (27, 5, 4), (27, 4, 31), (27, 3, 30), (27, 2, 29), (27, 1, 28), (0, 4, 18), (18, 10, 11), (18, 9, 4), (18, 8, 26), (18, 7, 25), (18, 6, 24), (18, 5, 23), (18, 4, 22), (18, 3, 21), (18, 2, 20), (18, 1, 19), (0, 3, 11), (11, 7, 4), (11, 6, 17), (11, 5, 16), (11, 4, 15), (11, 3, 14), (11, 2, 13), (11, 1, 12), (0, 2, 7), (7, 4, 10), (7, 3, 9), (7, 2, 8), (0, 1, 4), (4, 2, 6), (4, 1, 5), (0, 0, 1), (1, 1, 3), (1, 0, 2)], 0)) rfl rfl rfl rfl ?_
  refine g_aload_n (i := 0) (r := 41) (t := 127) dX7_init_126 rfl rfl (Or.inl l9_41) rfl ?_
  refine g_bipush (t := 129) dX7_init_127 c_bipush_16 rfl ?_
  refine g_newa (at_ := .boolean) (kd := 2) (n := 16) (o := 57) (t := 131) rfl (by decide) ka_boolean s_57 rfl l9_57 (nI_pos (by decide)) (nI_clamp (by decide)) (by decide) (by decide) (fun _ => rfl) dX7_init_129 rfl ?_
  refine g_putR (ci := 7) (k := 21) (o := 41) (r := 57) (t := 134) (by decide) l9_41 s_41 gp_X7_56 rfl l9_57 rfl (by first | exact ⟨_, Or.inl rfl⟩ | exact ⟨"", Or.inr ⟨_, rfl⟩⟩) dX7_init_131 rfl ?_
  refine Wp.eq (σ1 := (58, cI2, gRL [(41, 21, 57), (41, 20, 56), (41, 19, 55), (41, 18, 54), (41, 17, 53), (41, 16, 52), (41, 15, 51), (41, 14, 50), (41, 12, 49), (41, 11, 48), (41, 10, 47), (41, 8, 46), (41, 7, 45), (41, 3, 44), (41, 1, 43), (41, 0, 42), (0, 6, 32), (32, 10, 11), (32, 9, 4), (32, 8, 40), (32, 7, 39), (32, 6, 38), (32, 5, 37), (32, 4, 36), (32, 3, 35), (32, 2, 34), (32, 1, 33), (0, 5, 27), (27, 7, 18), (27, 6, 11), (27, 5, 4), (27, 4, 31), (27, 3, 30), (27, 2, 29), (27, 1, 28), (0, 4, 18), (18, 10, 11), (18, 9, 4), (18, 8, 26), (18, 7, 25), (18, 6, 24), (18, 5, 23), (18, 4, 22), (18, 3, 21), (18, 2, 20), (18, 1, 19), (0, 3, 11), (11, 7, 4), (11, 6, 17), (11, 5, 16), (11, 4, 15), (11, 3, 14), (11, 2, 13), (11, 1, 12), (0, 2, 7), (7, 4, 10), (7, 3, 9), (7, 2, 8), (0, 1, 4), (4, 2, 6), (4, 1, 5), (0, 0, 1), (1, 1, 3), (1, 0, 2)], 0)) rfl rfl rfl rfl ?_
  refine g_aload_n (i := 0) (r := 41) (t := 135) dX7_init_134 rfl rfl (Or.inl l9_41) rfl ?_
  refine g_bipush (t := 137) dX7_init_135 c_bipush_16 rfl ?_
  refine g_newa (at_ := .int) (kd := 0) (n := 16) (o := 58) (t := 139) rfl (by decide) ka_int s_58 rfl l9_58 (nI_pos (by decide)) (nI_clamp (by decide)) (by decide) (by decide) (fun _ => rfl) dX7_init_137 rfl ?_
  refine g_putR (ci := 7) (k := 22) (o := 41) (r := 58) (t := 142) (by decide) l9_41 s_41 gp_X7_59 rfl l9_58 rfl (by first | exact ⟨_, Or.inl rfl⟩ | exact ⟨"", Or.inr ⟨_, rfl⟩⟩) dX7_init_139 rfl ?_
  refine Wp.eq (σ1 := (59, cI2, gRL [(41, 22, 58), (41, 21, 57), (41, 20, 56), (41, 19, 55), (41, 18, 54), (41, 17, 53), (41, 16, 52), (41, 15, 51), (41, 14, 50), (41, 12, 49), (41, 11, 48), (41, 10, 47), (41, 8, 46), (41, 7, 45), (41, 3, 44), (41, 1, 43), (41, 0, 42), (0, 6, 32), (32, 10, 11), (32, 9, 4), (32, 8, 40), (32, 7, 39), (32, 6, 38), (32, 5, 37), (32, 4, 36), (32, 3, 35), (32, 2, 34), (32, 1, 33), (0, 5, 27), (27, 7, 18), (27, 6, 11), (27, 5, 4), (27, 4, 31), (27, 3, 30), (27, 2, 29), (27, 1, 28), (0, 4, 18), (18, 10, 11), (18, 9, 4), (18, 8, 26), (18, 7, 25), (18, 6, 24), (18, 5, 23), (18, 4, 22), (18, 3, 21), (18, 2, 20), (18, 1, 19), (0, 3, 11), (11, 7, 4), (11, 6, 17), (11, 5, 16), (11, 4, 15), (11, 3, 14), (11, 2, 13), (11, 1, 12), (0, 2, 7), (7, 4, 10), (7, 3, 9), (7, 2, 8), (0, 1, 4), (4, 2, 6), (4, 1, 5), (0, 0, 1), (1, 1, 3), (1, 0, 2)], 0)) rfl rfl rfl rfl ?_
  refine g_aload_n (i := 0) (r := 41) (t := 143) dX7_init_142 rfl rfl (Or.inl l9_41) rfl ?_
  refine g_bipush (t := 145) dX7_init_143 c_bipush_16 rfl ?_
  refine g_newa (at_ := .int) (kd := 0) (n := 16) (o := 59) (t := 147) rfl (by decide) ka_int s_59 rfl l9_59 (nI_pos (by decide)) (nI_clamp (by decide)) (by decide) (by decide) (fun _ => rfl) dX7_init_145 rfl ?_
  refine g_putR (ci := 7) (k := 23) (o := 41) (r := 59) (t := 150) (by decide) l9_41 s_41 gp_X7_62 rfl l9_59 rfl (by first | exact ⟨_, Or.inl rfl⟩ | exact ⟨"", Or.inr ⟨_, rfl⟩⟩) dX7_init_147 rfl ?_
  refine Wp.eq (σ1 := (60, cI2, gRL [(41, 23, 59), (41, 22, 58), (41, 21, 57), (41, 20, 56), (41, 19, 55), (41, 18, 54), (41, 17, 53), (41, 16, 52), (41, 15, 51), (41, 14, 50), (41, 12, 49), (41, 11, 48), (41, 10, 47), (41, 8, 46), (41, 7, 45), (41, 3, 44), (41, 1, 43), (41, 0, 42), (0, 6, 32), (32, 10, 11), (32, 9, 4), (32, 8, 40), (32, 7, 39), (32, 6, 38), (32, 5, 37), (32, 4, 36), (32, 3, 35), (32, 2, 34), (32, 1, 33), (0, 5, 27), (27, 7, 18), (27, 6, 11), (27, 5, 4), (27, 4, 31), (27, 3, 30), (27, 2, 29), (27, 1, 28), (0, 4, 18), (18, 10, 11), (18, 9, 4), (18, 8, 26), (18, 7, 25), (18, 6, 24), (18, 5, 23), (18, 4, 22), (18, 3, 21), (18, 2, 20), (18, 1, 19), (0, 3, 11), (11, 7, 4), (11, 6, 17), (11, 5, 16), (11, 4, 15), (11, 3, 14), (11, 2, 13), (11, 1, 12), (0, 2, 7), (7, 4, 10), (7, 3, 9), (7, 2, 8), (0, 1, 4), (4, 2, 6), (4, 1, 5), (0, 0, 1), (1, 1, 3), (1, 0, 2)], 0)) rfl rfl rfl rfl ?_
  refine g_aload_n (i := 0) (r := 41) (t := 151) dX7_init_150 rfl rfl (Or.inl l9_41) rfl ?_
  refine g_bipush (t := 153) dX7_init_151 c_bipush_16 rfl ?_
  refine g_newa (at_ := .int) (kd := 0) (n := 16) (o := 60) (t := 155) rfl (by decide) ka_int s_60 rfl l9_60 (nI_pos (by decide)) (nI_clamp (by decide)) (by decide) (by decide) (fun _ => rfl) dX7_init_153 rfl ?_
  refine g_putR (ci := 7) (k := 24) (o := 41) (r := 60) (t := 158) (by decide) l9_41 s_41 gp_X7_65 rfl l9_60 rfl (by first | exact ⟨_, Or.inl rfl⟩ | exact ⟨"", Or.inr ⟨_, rfl⟩⟩) dX7_init_155 rfl ?_
  refine Wp.eq (σ1 := (61, cI2, gRL [(41, 24, 60), (41, 23, 59), (41, 22, 58), (41, 21, 57), (41, 20, 56), (41, 19, 55), (41, 18, 54), (41, 17, 53), (41, 16, 52), (41, 15, 51), (41, 14, 50), (41, 12, 49), (41, 11, 48), (41, 10, 47), (41, 8, 46), (41, 7, 45), (41, 3, 44), (41, 1, 43), (41, 0, 42), (0, 6, 32), (32, 10, 11), (32, 9, 4), (32, 8, 40), (32, 7, 39), (32, 6, 38), (32, 5, 37), (32, 4, 36), (32, 3, 35), (32, 2, 34), (32, 1, 33), (0, 5, 27), (27, 7, 18), (27, 6, 11), (27, 5, 4), (27, 4, 31), (27, 3, 30), (27, 2, 29), (27, 1, 28), (0, 4, 18), (18, 10, 11), (18, 9, 4), (18, 8, 26), (18, 7, 25), (18, 6, 24), (18, 5, 23), (18, 4, 22), (18, 3, 21), (18, 2, 20), (18, 1, 19), (0, 3, 11), (11, 7, 4), (11, 6, 17), (11, 5, 16), (11, 4, 15), (11, 3, 14), (11, 2, 13), (11, 1, 12), (0, 2, 7), (7, 4, 10), (7, 3, 9), (7, 2, 8), (0, 1, 4), (4, 2, 6), (4, 1, 5), (0, 0, 1), (1, 1, 3), (1, 0, 2)], 0)) rfl rfl rfl rfl ?_
  refine g_aload_n (i := 0) (r := 41) (t := 159) dX7_init_158 rfl rfl (Or.inl l9_41) rfl ?_
  refine g_bipush (t := 161) dX7_init_159 c_bipush_16 rfl ?_
  refine g_newa (at_ := .int) (kd := 0) (n := 16) (o := 61) (t := 163) rfl (by decide) ka_int s_61 rfl l9_61 (nI_pos (by decide)) (nI_clamp (by decide)) (by decide) (by decide) (fun _ => rfl) dX7_init_161 rfl ?_
  refine g_putR (ci := 7) (k := 25) (o := 41) (r := 61) (t := 166) (by decide) l9_41 s_41 gp_X7_68 rfl l9_61 rfl (by first | exact ⟨_, Or.inl rfl⟩ | exact ⟨"", Or.inr ⟨_, rfl⟩⟩) dX7_init_163 rfl ?_
  refine Wp.eq (σ1 := (62, cI2, gRL [(41, 25, 61), (41, 24, 60), (41, 23, 59), (41, 22, 58), (41, 21, 57), (41, 20, 56), (41, 19, 55), (41, 18, 54), (41, 17, 53), (41, 16, 52), (41, 15, 51), (41, 14, 50), (41, 12, 49), (41, 11, 48), (41, 10, 47), (41, 8, 46), (41, 7, 45), (41, 3, 44), (41, 1, 43), (41, 0, 42), (0, 6, 32), (32, 10, 11), (32, 9, 4), (32, 8, 40), (32, 7, 39), (32, 6, 38), (32, 5, 37), (32, 4, 36), (32, 3, 35), (32, 2, 34), (32, 1, 33), (0, 5, 27), (27, 7, 18), (27, 6, 11), (27, 5, 4), (27, 4, 31), (27, 3, 30), (27, 2, 29), (27, 1, 28), (0, 4, 18), (18, 10, 11), (18, 9, 4), (18, 8, 26), (18, 7, 25), (18, 6, 24), (18, 5, 23), (18, 4, 22), (18, 3, 21), (18, 2, 20), (18, 1, 19), (0, 3, 11), (11, 7, 4), (11, 6, 17), (11, 5, 16), (11, 4, 15), (11, 3, 14), (11, 2, 13), (11, 1, 12), (0, 2, 7), (7, 4, 10), (7, 3, 9), (7, 2, 8), (0, 1, 4), (4, 2, 6), (4, 1, 5), (0, 0, 1), (1, 1, 3), (1, 0, 2)], 0)) rfl rfl rfl rfl ?_
  refine g_aload_n (i := 0) (r := 41) (t := 167) dX7_init_166 rfl rfl (Or.inl l9_41) rfl ?_
  refine g_getR (ci := 7) (k := 0) (o := 41) (r := 42) (t := 170) (by decide) l9_41 s_41 gf_X7_7 rfl (by decide) l9_42 dX7_init_167 rfl ?_
  refine g_sipush (t := 173) dX7_init_170 c_sipush_177 rfl ?_
  refine g_sipush (t := 176) dX7_init_173 c_sipush_300 rfl ?_
  refine g_iast (a := 42) (n := 184) (t := 177) (by decide) l9_42 s_42 (vp_in_nI (by decide) (by decide)) dX7_init_176 rfl ?_
  refine Wp.eq (σ1 := (62, cI3, gRL [(41, 25, 61), (41, 24, 60), (41, 23, 59), (41, 22, 58), (41, 21, 57), (41, 20, 56), (41, 19, 55), (41, 18, 54), (41, 17, 53), (41, 16, 52), (41, 15, 51), (41, 14, 50), (41, 12, 49), (41, 11, 48), (41, 10, 47), (41, 8, 46), (41, 7, 45), (41, 3, 44), (41, 1, 43), (41, 0, 42), (0, 6, 32), (32, 10, 11), (32, 9, 4), (32, 8, 40), (32, 7, 39), (32, 6, 38), (32, 5, 37), (32, 4, 36), (32, 3, 35), (32, 2, 34), (32, 1, 33), (0, 5, 27), (27, 7, 18), (27, 6, 11), (27, 5, 4), (27, 4, 31), (27, 3, 30), (27, 2, 29), (27, 1, 28), (0, 4, 18), (18, 10, 11), (18, 9, 4), (18, 8, 26), (18, 7, 25), (18, 6, 24), (18, 5, 23), (18, 4, 22), (18, 3, 21), (18, 2, 20), (18, 1, 19), (0, 3, 11), (11, 7, 4), (11, 6, 17), (11, 5, 16), (11, 4, 15), (11, 3, 14), (11, 2, 13), (11, 1, 12), (0, 2, 7), (7, 4, 10), (7, 3, 9), (7, 2, 8), (0, 1, 4), (4, 2, 6), (4, 1, 5), (0, 0, 1), (1, 1, 3), (1, 0, 2)], 0)) rfl rfl rfl rfl ?_
  refine g_aload_n (i := 0) (r := 41) (t := 178) dX7_init_177 rfl rfl (Or.inl l9_41) rfl ?_
  refine g_getR (ci := 7) (k := 0) (o := 41) (r := 42) (t := 181) (by decide) l9_41 s_41 gf_X7_7 rfl (by decide) l9_42 dX7_init_178 rfl ?_
  refine g_sipush (t := 184) dX7_init_181 c_sipush_180 rfl ?_
  refine g_iconst (t := 185) dX7_init_184 c_iconst_1 rfl ?_
  refine g_iast (a := 42) (n := 184) (t := 186) (by decide) l9_42 s_42 (vp_in_nI (by decide) (by decide)) dX7_init_185 rfl ?_
  refine Wp.eq (σ1 := (62, cI4, gRL [(41, 25, 61), (41, 24, 60), (41, 23, 59), (41, 22, 58), (41, 21, 57), (41, 20, 56), (41, 19, 55), (41, 18, 54), (41, 17, 53), (41, 16, 52), (41, 15, 51), (41, 14, 50), (41, 12, 49), (41, 11, 48), (41, 10, 47), (41, 8, 46), (41, 7, 45), (41, 3, 44), (41, 1, 43), (41, 0, 42), (0, 6, 32), (32, 10, 11), (32, 9, 4), (32, 8, 40), (32, 7, 39), (32, 6, 38), (32, 5, 37), (32, 4, 36), (32, 3, 35), (32, 2, 34), (32, 1, 33), (0, 5, 27), (27, 7, 18), (27, 6, 11), (27, 5, 4), (27, 4, 31), (27, 3, 30), (27, 2, 29), (27, 1, 28), (0, 4, 18), (18, 10, 11), (18, 9, 4), (18, 8, 26), (18, 7, 25), (18, 6, 24), (18, 5, 23), (18, 4, 22), (18, 3, 21), (18, 2, 20), (18, 1, 19), (0, 3, 11), (11, 7, 4), (11, 6, 17), (11, 5, 16), (11, 4, 15), (11, 3, 14), (11, 2, 13), (11, 1, 12), (0, 2, 7), (7, 4, 10), (7, 3, 9), (7, 2, 8), (0, 1, 4), (4, 2, 6), (4, 1, 5), (0, 0, 1), (1, 1, 3), (1, 0, 2)], 0)) rfl rfl rfl rfl ?_
  exact Wp.here ⟨rfl, Or.inr (Or.inl ⟨dX7_init_186, rfl, rfl, rfl, rfl⟩)⟩
theorem law_ctor {K : gK} (kk : Wp E fL_law 62 18 [.ref 1000, .ref 0, .ref 41, .int (nI 0)] [] (62, cI4, gRL [(41, 25, 61), (41, 24, 60), (41, 23, 59), (41, 22, 58), (41, 21, 57), (41, 20, 56), (41, 19, 55), (41, 18, 54), (41, 17, 53), (41, 16, 52), (41, 15, 51), (41, 14, 50), (41, 12, 49), (41, 11, 48), (41, 10, 47), (41, 8, 46), (41, 7, 45), (41, 3, 44), (41, 1, 43), (41, 0, 42), (0, 6, 32), (32, 10, 11), (32, 9, 4), (32, 8, 40), (32, 7, 39), (32, 6, 38), (32, 5, 37), (32, 4, 36), (32, 3, 35), (32, 2, 34), (32, 1, 33), (0, 5, 27), (27, 7, 18), (27, 6, 11), (27, 5, 4), (27, 4, 31), (27, 3, 30), (27, 2, 29), (27, 1, 28), (0, 4, 18), (18, 10, 11), (18, 9, 4), (18, 8, 26), (18, 7, 25), (18, 6, 24), (18, 5, 23), (18, 4, 22), (18, 3, 21), (18, 2, 20), (18, 1, 19), (0, 3, 11), (11, 7, 4), (11, 6, 17), (11, 5, 16), (11, 4, 15), (11, 3, 14), (11, 2, 13), (11, 1, 12), (0, 2, 7), (7, 4, 10), (7, 3, 9), (7, 2, 8), (0, 1, 4), (4, 2, 6), (4, 1, 5), (0, 0, 1), (1, 1, 3), (1, 0, 2)], 0) K) : Wp E fL_law 62 0 [.ref 1000, .null, .null, .null] [] (0, cI0, gRL [], 0) K := by
  refine g_new (ci := 6) (o := 0) (t := 3) gcl6 s_0 rfl l9_0 kl_L_7 ki_X6 kn_X6 (by decide) (fun _ => rfl) (gRL_none (by decide)) rfl dL_law_0 rfl ?_
  refine g_dup (t := 4) dL_law_3 rfl rfl ?_
  refine g_callI (o := 0) (t := 7) mX6_init rfl k_L_9 imX6_init rfl l9_0 ct1_X6_init rfl rfl (by decide) (by decide) (by decide) (by decide) dL_law_4 rfl (fun r σ' q _ => ?_)
  obtain ⟨rfl, rfl⟩ := q
  refine g_astore_n (i := 1) (t := 8) (L1 := [_, _, _, _]) dL_law_7 rfl l9_0 (by decide) rfl rfl rfl ?_
  refine g_new (ci := 7) (o := 41) (t := 11) gcl7 s_41 rfl l9_41 kl_L_10 ki_X7 kn_X7 (by decide) (fun _ => rfl) (gRL_none (by decide)) rfl dL_law_8 rfl ?_
  refine g_dup (t := 12) dL_law_11 rfl rfl ?_
  refine g_callI (o := 41) (t := 15) mX7_init rfl k_L_12 imX7_init rfl l9_41 ct9_X7_init rfl rfl (by decide) (by decide) (by decide) (by decide) dL_law_12 rfl (fun r σ' q _ => ?_)
  obtain ⟨rfl, rfl⟩ := q
  refine g_astore_n (i := 2) (t := 16) (L1 := [_, _, _, _]) dL_law_15 rfl l9_41 (by decide) rfl rfl rfl ?_
  refine g_iconst (t := 17) dL_law_16 c_iconst_0 rfl ?_
  refine g_istore_n (i := 3) (t := 18) (L1 := [_, _, _, _]) dL_law_17 rfl (by decide) rfl rfl rfl ?_
  exact kk
def cRL : List (Nat × Nat × Nat) := [(41, 25, 61), (41, 24, 60), (41, 23, 59), (41, 22, 58), (41, 21, 57), (41, 20, 56), (41, 19, 55), (41, 18, 54), (41, 17, 53), (41, 16, 52), (41, 15, 51), (41, 14, 50), (41, 12, 49), (41, 11, 48), (41, 10, 47), (41, 8, 46), (41, 7, 45), (41, 3, 44), (41, 1, 43), (41, 0, 42), (0, 6, 32), (32, 10, 11), (32, 9, 4), (32, 8, 40), (32, 7, 39), (32, 6, 38), (32, 5, 37), (32, 4, 36), (32, 3, 35), (32, 2, 34), (32, 1, 33), (0, 5, 27), (27, 7, 18), (27, 6, 11), (27, 5, 4), (27, 4, 31), (27, 3, 30), (27, 2, 29), (27, 1, 28), (0, 4, 18), (18, 10, 11), (18, 9, 4), (18, 8, 26), (18, 7, 25), (18, 6, 24), (18, 5, 23), (18, 4, 22), (18, 3, 21), (18, 2, 20), (18, 1, 19), (0, 3, 11), (11, 7, 4), (11, 6, 17), (11, 5, 16), (11, 4, 15), (11, 3, 14), (11, 2, 13), (11, 1, 12), (0, 2, 7), (7, 4, 10), (7, 3, 9), (7, 2, 8), (0, 1, 4), (4, 2, 6), (4, 1, 5), (0, 0, 1), (1, 1, 3), (1, 0, 2)]
end CTOR

