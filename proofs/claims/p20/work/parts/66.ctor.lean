/-! the constructors, over the heap as it grows -/
def gRL (L : List (Nat × Nat × Nat)) : Nat → Nat → Option Nat := L.foldr (fun q f => gupR f q.1 q.2.1 q.2.2) (fun _ _ => none)
theorem gRL_none {L : List (Nat × Nat × Nat)} {n : Nat} (h : L.all (fun q => decide (q.1 < n)) = true) (k : Nat) : gRL L n k = none := by
  induction L with
  | nil => rfl
  | cons q t ih =>
    rw [List.all_cons, Bool.and_eq_true] at h
    have h1 := of_decide_eq_true h.1
    show gupR (gRL t) q.1 q.2.1 q.2.2 n k = none
    unfold gupR
    rw [if_neg (fun z => by omega)]
    exact ih h.2
def cI0 : Nat → Nat → Int32 := fun _ _ => 0
def cI1 : Nat → Nat → Int32 := gcpy cI0 5 (fun k => (gst.getD 5 ("", [])).2.getD k 0) 0 0 7
def cI2 : Nat → Nat → Int32 := gup cI1 0 7 (nI 0)
section CTOR
variable {E : gE}
theorem ct2_X5_init : gEv E fX5_init 4 [.ref 1] (2, cI0, gRL [], (0, [])) (fun r σ' => r = none ∧ σ' = (4, cI0, gRL [(1, 1, 3), (1, 0, 2)], (0, []))) := by
  refine gEv.of rfl (by decide) (Nat.le_of_ble_eq_true rfl) (L := [.ref 1]) rfl ?_
  refine g_aload_n (i := 0) (r := 1) (t := 1) dX5_init_0 rfl rfl (Or.inl l9_1) rfl ?_
  refine g_objInit (o := 1) (t := 4) l9_1 k_X5_3 k_oi1 k_oi2 (by decide) (by decide) (by decide) dX5_init_1 rfl ?_
  refine g_aload_n (i := 0) (r := 1) (t := 5) dX5_init_4 rfl rfl (Or.inl l9_1) rfl ?_
  refine g_bipush (t := 7) dX5_init_5 c_bipush_80 rfl ?_
  refine g_newa (at_ := .byte) (kd := 1) (n := 80) (o := 2) (t := 9) rfl (by decide) ka_byte (by decide) rfl rfl rfl l9_2 (nI_pos (by decide)) (nI_clamp (by decide)) (by decide) (by first | decide | exact Nat.le_trans (by decide) hE) (fun _ => rfl) dX5_init_7 rfl ?_
  refine g_putR (ci := 5) (k := 0) (o := 1) (r := 2) (t := 12) (by decide) l9_1 s_1 gp_X5_9 rfl l9_2 rfl (by first | exact ⟨_, Or.inl rfl⟩ | exact ⟨"", Or.inr ⟨_, rfl⟩⟩) dX5_init_9 rfl ?_
  refine Wp.eq (σ1 := (3, cI0, gRL [(1, 0, 2)], (0, []))) rfl rfl rfl rfl ?_
  refine g_aload_n (i := 0) (r := 1) (t := 13) dX5_init_12 rfl rfl (Or.inl l9_1) rfl ?_
  refine g_bipush (t := 15) dX5_init_13 c_bipush_10 rfl ?_
  refine g_newa (at_ := .int) (kd := 0) (n := 10) (o := 3) (t := 17) rfl (by decide) ka_int (by decide) rfl rfl rfl l9_3 (nI_pos (by decide)) (nI_clamp (by decide)) (by decide) (by first | decide | exact Nat.le_trans (by decide) hE) (fun _ => rfl) dX5_init_15 rfl ?_
  refine g_putR (ci := 5) (k := 1) (o := 1) (r := 3) (t := 20) (by decide) l9_1 s_1 gp_X5_15 rfl l9_3 rfl (by first | exact ⟨_, Or.inl rfl⟩ | exact ⟨"", Or.inr ⟨_, rfl⟩⟩) dX5_init_17 rfl ?_
  refine Wp.eq (σ1 := (4, cI0, gRL [(1, 1, 3), (1, 0, 2)], (0, []))) rfl rfl rfl rfl ?_
  exact Wp.here ⟨rfl, Or.inr (Or.inl ⟨dX5_init_20, rfl, rfl, rfl, rfl⟩)⟩
theorem ct3_X4_init : gEv E fX4_init 7 [.ref 4] (5, cI0, gRL [(0, 0, 1), (1, 1, 3), (1, 0, 2)], (0, [])) (fun r σ' => r = none ∧ σ' = (7, cI1, gRL [(4, 2, 6), (4, 1, 5), (0, 0, 1), (1, 1, 3), (1, 0, 2)], (0, []))) := by
  refine gEv.of rfl (by decide) (Nat.le_of_ble_eq_true rfl) (L := [.ref 4]) rfl ?_
  refine g_aload_n (i := 0) (r := 4) (t := 1) dX4_init_0 rfl rfl (Or.inl l9_4) rfl ?_
  refine g_objInit (o := 4) (t := 4) l9_4 k_X4_3 k_oi1 k_oi2 (by decide) (by decide) (by decide) dX4_init_1 rfl ?_
  refine g_aload_n (i := 0) (r := 4) (t := 5) dX4_init_4 rfl rfl (Or.inl l9_4) rfl ?_
  refine g_bipush (t := 7) dX4_init_5 c_bipush_7 rfl ?_
  refine g_newa (at_ := .int) (kd := 0) (n := 7) (o := 5) (t := 9) rfl (by decide) ka_int (by decide) rfl rfl rfl l9_5 (nI_pos (by decide)) (nI_clamp (by decide)) (by decide) (by first | decide | exact Nat.le_trans (by decide) hE) (fun _ => rfl) dX4_init_7 rfl ?_
  refine g_putR (ci := 4) (k := 1) (o := 4) (r := 5) (t := 12) (by decide) l9_4 s_4 gp_X4_9 rfl l9_5 rfl (by first | exact ⟨_, Or.inl rfl⟩ | exact ⟨"", Or.inr ⟨_, rfl⟩⟩) dX4_init_9 rfl ?_
  refine Wp.eq (σ1 := (6, cI0, gRL [(4, 1, 5), (0, 0, 1), (1, 1, 3), (1, 0, 2)], (0, []))) rfl rfl rfl rfl ?_
  refine g_aload_n (i := 0) (r := 4) (t := 13) dX4_init_12 rfl rfl (Or.inl l9_4) rfl ?_
  refine g_sipush (t := 16) dX4_init_13 c_sipush_176 rfl ?_
  refine g_newa (at_ := .int) (kd := 0) (n := 176) (o := 6) (t := 18) rfl (by decide) ka_int (by decide) rfl rfl rfl l9_6 (nI_pos (by decide)) (nI_clamp (by decide)) (by decide) (by first | decide | exact Nat.le_trans (by decide) hE) (fun _ => rfl) dX4_init_16 rfl ?_
  refine g_putR (ci := 4) (k := 2) (o := 4) (r := 6) (t := 21) (by decide) l9_4 s_4 gp_X4_15 rfl l9_6 rfl (by first | exact ⟨_, Or.inl rfl⟩ | exact ⟨"", Or.inr ⟨_, rfl⟩⟩) dX4_init_18 rfl ?_
  refine Wp.eq (σ1 := (7, cI0, gRL [(4, 2, 6), (4, 1, 5), (0, 0, 1), (1, 1, 3), (1, 0, 2)], (0, []))) rfl rfl rfl rfl ?_
  refine g_getsN (j := 5) (r := 1006) (t := 24) rfl rfl (List.mem_of_getElem? (i := 1) rfl) dX4_init_21 rfl ?_
  refine g_iconst (t := 25) dX4_init_24 c_iconst_0 rfl ?_
  refine g_aload_n (i := 0) (r := 4) (t := 26) dX4_init_25 rfl rfl (Or.inl l9_4) rfl ?_
  refine g_getR (ci := 4) (k := 1) (o := 4) (r := 5) (t := 29) (by decide) l9_4 s_4 gf_X4_9 rfl (by decide) l9_5 dX4_init_26 rfl ?_
  refine g_iconst (t := 30) dX4_init_29 c_iconst_0 rfl ?_
  refine g_bipush (t := 32) dX4_init_30 c_bipush_7 rfl ?_
  refine g_copyT (j := 5) (r := 1006) (b := 5) (n1 := 7) (t := 35) k_X4_21 k_ac1 k_ac2 k_ac3 rfl rfl (by decide) l9_5 s_5 (nI_pos (by decide)) (nI_pos (by decide)) (nI_pos (by decide)) (by decide +kernel) (by decide +kernel) (by decide) (by decide) (by decide) dX4_init_32 rfl ?_
  refine Wp.eq (σ1 := (7, cI1, gRL [(4, 2, 6), (4, 1, 5), (0, 0, 1), (1, 1, 3), (1, 0, 2)], (0, []))) rfl rfl rfl (by rw [nI_clamp (n := 0) (by decide), nI_clamp (n := 7) (by decide)]; rfl) ?_
  exact Wp.here ⟨rfl, Or.inr (Or.inl ⟨dX4_init_35, rfl, rfl, rfl, rfl⟩)⟩
theorem ct4_X0_init : gEv E fX0_init 11 [.ref 7] (8, cI1, gRL [(0, 1, 4), (4, 2, 6), (4, 1, 5), (0, 0, 1), (1, 1, 3), (1, 0, 2)], (0, [])) (fun r σ' => r = none ∧ σ' = (11, cI1, gRL [(7, 4, 10), (7, 3, 9), (7, 2, 8), (0, 1, 4), (4, 2, 6), (4, 1, 5), (0, 0, 1), (1, 1, 3), (1, 0, 2)], (0, []))) := by
  refine gEv.of rfl (by decide) (Nat.le_of_ble_eq_true rfl) (L := [.ref 7]) rfl ?_
  refine g_aload_n (i := 0) (r := 7) (t := 1) dX0_init_0 rfl rfl (Or.inl l9_7) rfl ?_
  refine g_objInit (o := 7) (t := 4) l9_7 k_X0_3 k_oi1 k_oi2 (by decide) (by decide) (by decide) dX0_init_1 rfl ?_
  refine g_aload_n (i := 0) (r := 7) (t := 5) dX0_init_4 rfl rfl (Or.inl l9_7) rfl ?_
  refine g_bipush (t := 7) dX0_init_5 c_bipush_8 rfl ?_
  refine g_newa (at_ := .int) (kd := 0) (n := 8) (o := 8) (t := 9) rfl (by decide) ka_int (by decide) rfl rfl rfl l9_8 (nI_pos (by decide)) (nI_clamp (by decide)) (by decide) (by first | decide | exact Nat.le_trans (by decide) hE) (fun _ => rfl) dX0_init_7 rfl ?_
  refine g_putR (ci := 0) (k := 2) (o := 7) (r := 8) (t := 12) (by decide) l9_7 s_7 gp_X0_9 rfl l9_8 rfl (by first | exact ⟨_, Or.inl rfl⟩ | exact ⟨"", Or.inr ⟨_, rfl⟩⟩) dX0_init_9 rfl ?_
  refine Wp.eq (σ1 := (9, cI1, gRL [(7, 2, 8), (0, 1, 4), (4, 2, 6), (4, 1, 5), (0, 0, 1), (1, 1, 3), (1, 0, 2)], (0, []))) rfl rfl rfl rfl ?_
  refine g_aload_n (i := 0) (r := 7) (t := 13) dX0_init_12 rfl rfl (Or.inl l9_7) rfl ?_
  refine g_bipush (t := 15) dX0_init_13 c_bipush_56 rfl ?_
  refine g_newa (at_ := .int) (kd := 0) (n := 56) (o := 9) (t := 17) rfl (by decide) ka_int (by decide) rfl rfl rfl l9_9 (nI_pos (by decide)) (nI_clamp (by decide)) (by decide) (by first | decide | exact Nat.le_trans (by decide) hE) (fun _ => rfl) dX0_init_15 rfl ?_
  refine g_putR (ci := 0) (k := 3) (o := 7) (r := 9) (t := 20) (by decide) l9_7 s_7 gp_X0_15 rfl l9_9 rfl (by first | exact ⟨_, Or.inl rfl⟩ | exact ⟨"", Or.inr ⟨_, rfl⟩⟩) dX0_init_17 rfl ?_
  refine Wp.eq (σ1 := (10, cI1, gRL [(7, 3, 9), (7, 2, 8), (0, 1, 4), (4, 2, 6), (4, 1, 5), (0, 0, 1), (1, 1, 3), (1, 0, 2)], (0, []))) rfl rfl rfl rfl ?_
  refine g_aload_n (i := 0) (r := 7) (t := 21) dX0_init_20 rfl rfl (Or.inl l9_7) rfl ?_
  refine g_sipush (t := 24) dX0_init_21 c_sipush_1408 rfl ?_
  refine g_newa (at_ := .int) (kd := 0) (n := 1408) (o := 10) (t := 26) rfl (by decide) ka_int (by decide) rfl rfl rfl l9_10 (nI_pos (by decide)) (nI_clamp (by decide)) (by decide) (by first | decide | exact Nat.le_trans (by decide) hE) (fun _ => rfl) dX0_init_24 rfl ?_
  refine g_putR (ci := 0) (k := 4) (o := 7) (r := 10) (t := 29) (by decide) l9_7 s_7 gp_X0_18 rfl l9_10 rfl (by first | exact ⟨_, Or.inl rfl⟩ | exact ⟨"", Or.inr ⟨_, rfl⟩⟩) dX0_init_26 rfl ?_
  refine Wp.eq (σ1 := (11, cI1, gRL [(7, 4, 10), (7, 3, 9), (7, 2, 8), (0, 1, 4), (4, 2, 6), (4, 1, 5), (0, 0, 1), (1, 1, 3), (1, 0, 2)], (0, []))) rfl rfl rfl rfl ?_
  exact Wp.here ⟨rfl, Or.inr (Or.inl ⟨dX0_init_29, rfl, rfl, rfl, rfl⟩)⟩
theorem ct5_X2_init : gEv E fX2_init 18 [.ref 11, .ref 4] (12, cI1, gRL [(0, 2, 7), (7, 4, 10), (7, 3, 9), (7, 2, 8), (0, 1, 4), (4, 2, 6), (4, 1, 5), (0, 0, 1), (1, 1, 3), (1, 0, 2)], (0, [])) (fun r σ' => r = none ∧ σ' = (18, cI1, gRL [(11, 7, 4), (11, 6, 17), (11, 5, 16), (11, 4, 15), (11, 3, 14), (11, 2, 13), (11, 1, 12), (0, 2, 7), (7, 4, 10), (7, 3, 9), (7, 2, 8), (0, 1, 4), (4, 2, 6), (4, 1, 5), (0, 0, 1), (1, 1, 3), (1, 0, 2)], (0, []))) := by
  refine gEv.of rfl (by decide) (Nat.le_of_ble_eq_true rfl) (L := [.ref 11, .ref 4]) rfl ?_
  refine g_aload_n (i := 0) (r := 11) (t := 1) dX2_init_0 rfl rfl (Or.inl l9_11) rfl ?_
  refine g_objInit (o := 11) (t := 4) l9_11 k_X2_3 k_oi1 k_oi2 (by decide) (by decide) (by decide) dX2_init_1 rfl ?_
  refine g_aload_n (i := 0) (r := 11) (t := 5) dX2_init_4 rfl rfl (Or.inl l9_11) rfl ?_
  refine g_bipush (t := 7) dX2_init_5 c_bipush_16 rfl ?_
  refine g_newa (at_ := .int) (kd := 0) (n := 16) (o := 12) (t := 9) rfl (by decide) ka_int (by decide) rfl rfl rfl l9_12 (nI_pos (by decide)) (nI_clamp (by decide)) (by decide) (by first | decide | exact Nat.le_trans (by decide) hE) (fun _ => rfl) dX2_init_7 rfl ?_
  refine g_putR (ci := 2) (k := 1) (o := 11) (r := 12) (t := 12) (by decide) l9_11 s_11 gp_X2_9 rfl l9_12 rfl (by first | exact ⟨_, Or.inl rfl⟩ | exact ⟨"", Or.inr ⟨_, rfl⟩⟩) dX2_init_9 rfl ?_
  refine Wp.eq (σ1 := (13, cI1, gRL [(11, 1, 12), (0, 2, 7), (7, 4, 10), (7, 3, 9), (7, 2, 8), (0, 1, 4), (4, 2, 6), (4, 1, 5), (0, 0, 1), (1, 1, 3), (1, 0, 2)], (0, []))) rfl rfl rfl rfl ?_
  refine g_aload_n (i := 0) (r := 11) (t := 13) dX2_init_12 rfl rfl (Or.inl l9_11) rfl ?_
  refine g_bipush (t := 15) dX2_init_13 c_bipush_16 rfl ?_
  refine g_newa (at_ := .int) (kd := 0) (n := 16) (o := 13) (t := 17) rfl (by decide) ka_int (by decide) rfl rfl rfl l9_13 (nI_pos (by decide)) (nI_clamp (by decide)) (by decide) (by first | decide | exact Nat.le_trans (by decide) hE) (fun _ => rfl) dX2_init_15 rfl ?_
  refine g_putR (ci := 2) (k := 2) (o := 11) (r := 13) (t := 20) (by decide) l9_11 s_11 gp_X2_15 rfl l9_13 rfl (by first | exact ⟨_, Or.inl rfl⟩ | exact ⟨"", Or.inr ⟨_, rfl⟩⟩) dX2_init_17 rfl ?_
  refine Wp.eq (σ1 := (14, cI1, gRL [(11, 2, 13), (11, 1, 12), (0, 2, 7), (7, 4, 10), (7, 3, 9), (7, 2, 8), (0, 1, 4), (4, 2, 6), (4, 1, 5), (0, 0, 1), (1, 1, 3), (1, 0, 2)], (0, []))) rfl rfl rfl rfl ?_
  refine g_aload_n (i := 0) (r := 11) (t := 21) dX2_init_20 rfl rfl (Or.inl l9_11) rfl ?_
  refine g_bipush (t := 23) dX2_init_21 c_bipush_16 rfl ?_
  refine g_newa (at_ := .int) (kd := 0) (n := 16) (o := 14) (t := 25) rfl (by decide) ka_int (by decide) rfl rfl rfl l9_14 (nI_pos (by decide)) (nI_clamp (by decide)) (by decide) (by first | decide | exact Nat.le_trans (by decide) hE) (fun _ => rfl) dX2_init_23 rfl ?_
  refine g_putR (ci := 2) (k := 3) (o := 11) (r := 14) (t := 28) (by decide) l9_11 s_11 gp_X2_18 rfl l9_14 rfl (by first | exact ⟨_, Or.inl rfl⟩ | exact ⟨"", Or.inr ⟨_, rfl⟩⟩) dX2_init_25 rfl ?_
  refine Wp.eq (σ1 := (15, cI1, gRL [(11, 3, 14), (11, 2, 13), (11, 1, 12), (0, 2, 7), (7, 4, 10), (7, 3, 9), (7, 2, 8), (0, 1, 4), (4, 2, 6), (4, 1, 5), (0, 0, 1), (1, 1, 3), (1, 0, 2)], (0, []))) rfl rfl rfl rfl ?_
  refine g_aload_n (i := 0) (r := 11) (t := 29) dX2_init_28 rfl rfl (Or.inl l9_11) rfl ?_
  refine g_bipush (t := 31) dX2_init_29 c_bipush_16 rfl ?_
  refine g_newa (at_ := .int) (kd := 0) (n := 16) (o := 15) (t := 33) rfl (by decide) ka_int (by decide) rfl rfl rfl l9_15 (nI_pos (by decide)) (nI_clamp (by decide)) (by decide) (by first | decide | exact Nat.le_trans (by decide) hE) (fun _ => rfl) dX2_init_31 rfl ?_
  refine g_putR (ci := 2) (k := 4) (o := 11) (r := 15) (t := 36) (by decide) l9_11 s_11 gp_X2_21 rfl l9_15 rfl (by first | exact ⟨_, Or.inl rfl⟩ | exact ⟨"", Or.inr ⟨_, rfl⟩⟩) dX2_init_33 rfl ?_
  refine Wp.eq (σ1 := (16, cI1, gRL [(11, 4, 15), (11, 3, 14), (11, 2, 13), (11, 1, 12), (0, 2, 7), (7, 4, 10), (7, 3, 9), (7, 2, 8), (0, 1, 4), (4, 2, 6), (4, 1, 5), (0, 0, 1), (1, 1, 3), (1, 0, 2)], (0, []))) rfl rfl rfl rfl ?_
  refine g_aload_n (i := 0) (r := 11) (t := 37) dX2_init_36 rfl rfl (Or.inl l9_11) rfl ?_
  refine g_bipush (t := 39) dX2_init_37 c_bipush_16 rfl ?_
  refine g_newa (at_ := .int) (kd := 0) (n := 16) (o := 16) (t := 41) rfl (by decide) ka_int (by decide) rfl rfl rfl l9_16 (nI_pos (by decide)) (nI_clamp (by decide)) (by decide) (by first | decide | exact Nat.le_trans (by decide) hE) (fun _ => rfl) dX2_init_39 rfl ?_
  refine g_putR (ci := 2) (k := 5) (o := 11) (r := 16) (t := 44) (by decide) l9_11 s_11 gp_X2_24 rfl l9_16 rfl (by first | exact ⟨_, Or.inl rfl⟩ | exact ⟨"", Or.inr ⟨_, rfl⟩⟩) dX2_init_41 rfl ?_
  refine Wp.eq (σ1 := (17, cI1, gRL [(11, 5, 16), (11, 4, 15), (11, 3, 14), (11, 2, 13), (11, 1, 12), (0, 2, 7), (7, 4, 10), (7, 3, 9), (7, 2, 8), (0, 1, 4), (4, 2, 6), (4, 1, 5), (0, 0, 1), (1, 1, 3), (1, 0, 2)], (0, []))) rfl rfl rfl rfl ?_
  refine g_aload_n (i := 0) (r := 11) (t := 45) dX2_init_44 rfl rfl (Or.inl l9_11) rfl ?_
  refine g_bipush (t := 47) dX2_init_45 c_bipush_16 rfl ?_
  refine g_newa (at_ := .int) (kd := 0) (n := 16) (o := 17) (t := 49) rfl (by decide) ka_int (by decide) rfl rfl rfl l9_17 (nI_pos (by decide)) (nI_clamp (by decide)) (by decide) (by first | decide | exact Nat.le_trans (by decide) hE) (fun _ => rfl) dX2_init_47 rfl ?_
  refine g_putR (ci := 2) (k := 6) (o := 11) (r := 17) (t := 52) (by decide) l9_11 s_11 gp_X2_27 rfl l9_17 rfl (by first | exact ⟨_, Or.inl rfl⟩ | exact ⟨"", Or.inr ⟨_, rfl⟩⟩) dX2_init_49 rfl ?_
  refine Wp.eq (σ1 := (18, cI1, gRL [(11, 6, 17), (11, 5, 16), (11, 4, 15), (11, 3, 14), (11, 2, 13), (11, 1, 12), (0, 2, 7), (7, 4, 10), (7, 3, 9), (7, 2, 8), (0, 1, 4), (4, 2, 6), (4, 1, 5), (0, 0, 1), (1, 1, 3), (1, 0, 2)], (0, []))) rfl rfl rfl rfl ?_
  refine g_aload_n (i := 0) (r := 11) (t := 53) dX2_init_52 rfl rfl (Or.inl l9_11) rfl ?_
  refine g_aload_n (i := 1) (r := 4) (t := 54) dX2_init_53 rfl rfl (Or.inl l9_4) rfl ?_
  refine g_putR (ci := 2) (k := 7) (o := 11) (r := 4) (t := 57) (by decide) l9_11 s_11 gp_X2_30 rfl l9_4 rfl (by first | exact ⟨_, Or.inl rfl⟩ | exact ⟨"", Or.inr ⟨_, rfl⟩⟩) dX2_init_54 rfl ?_
  refine Wp.eq (σ1 := (18, cI1, gRL [(11, 7, 4), (11, 6, 17), (11, 5, 16), (11, 4, 15), (11, 3, 14), (11, 2, 13), (11, 1, 12), (0, 2, 7), (7, 4, 10), (7, 3, 9), (7, 2, 8), (0, 1, 4), (4, 2, 6), (4, 1, 5), (0, 0, 1), (1, 1, 3), (1, 0, 2)], (0, []))) rfl rfl rfl rfl ?_
  exact Wp.here ⟨rfl, Or.inr (Or.inl ⟨dX2_init_57, rfl, rfl, rfl, rfl⟩)⟩
theorem ct6_X1_init : gEv E fX1_init 27 [.ref 18, .ref 4, .ref 11] (19, cI1, gRL [(0, 3, 11), (11, 7, 4), (11, 6, 17), (11, 5, 16), (11, 4, 15), (11, 3, 14), (11, 2, 13), (11, 1, 12), (0, 2, 7), (7, 4, 10), (7, 3, 9), (7, 2, 8), (0, 1, 4), (4, 2, 6), (4, 1, 5), (0, 0, 1), (1, 1, 3), (1, 0, 2)], (0, [])) (fun r σ' => r = none ∧ σ' = (27, cI1, gRL [(18, 10, 11), (18, 9, 4), (18, 8, 26), (18, 7, 25), (18, 6, 24), (18, 5, 23), (18, 4, 22), (18, 3, 21), (18, 2, 20), (18, 1, 19), (0, 3, 11), (11, 7, 4), (11, 6, 17), (11, 5, 16), (11, 4, 15), (11, 3, 14), (11, 2, 13), (11, 1, 12), (0, 2, 7), (7, 4, 10), (7, 3, 9), (7, 2, 8), (0, 1, 4), (4, 2, 6), (4, 1, 5), (0, 0, 1), (1, 1, 3), (1, 0, 2)], (0, []))) := by
  refine gEv.of rfl (by decide) (Nat.le_of_ble_eq_true rfl) (L := [.ref 18, .ref 4, .ref 11]) rfl ?_
  refine g_aload_n (i := 0) (r := 18) (t := 1) dX1_init_0 rfl rfl (Or.inl l9_18) rfl ?_
  refine g_objInit (o := 18) (t := 4) l9_18 k_X1_3 k_oi1 k_oi2 (by decide) (by decide) (by decide) dX1_init_1 rfl ?_
  refine g_aload_n (i := 0) (r := 18) (t := 5) dX1_init_4 rfl rfl (Or.inl l9_18) rfl ?_
  refine g_bipush (t := 7) dX1_init_5 c_bipush_16 rfl ?_
  refine g_newa (at_ := .int) (kd := 0) (n := 16) (o := 19) (t := 9) rfl (by decide) ka_int (by decide) rfl rfl rfl l9_19 (nI_pos (by decide)) (nI_clamp (by decide)) (by decide) (by first | decide | exact Nat.le_trans (by decide) hE) (fun _ => rfl) dX1_init_7 rfl ?_
  refine g_putR (ci := 1) (k := 1) (o := 18) (r := 19) (t := 12) (by decide) l9_18 s_18 gp_X1_9 rfl l9_19 rfl (by first | exact ⟨_, Or.inl rfl⟩ | exact ⟨"", Or.inr ⟨_, rfl⟩⟩) dX1_init_9 rfl ?_
  refine Wp.eq (σ1 := (20, cI1, gRL [(18, 1, 19), (0, 3, 11), (11, 7, 4), (11, 6, 17), (11, 5, 16), (11, 4, 15), (11, 3, 14), (11, 2, 13), (11, 1, 12), (0, 2, 7), (7, 4, 10), (7, 3, 9), (7, 2, 8), (0, 1, 4), (4, 2, 6), (4, 1, 5), (0, 0, 1), (1, 1, 3), (1, 0, 2)], (0, []))) rfl rfl rfl rfl ?_
  refine g_aload_n (i := 0) (r := 18) (t := 13) dX1_init_12 rfl rfl (Or.inl l9_18) rfl ?_
  refine g_bipush (t := 15) dX1_init_13 c_bipush_16 rfl ?_
  refine g_newa (at_ := .int) (kd := 0) (n := 16) (o := 20) (t := 17) rfl (by decide) ka_int (by decide) rfl rfl rfl l9_20 (nI_pos (by decide)) (nI_clamp (by decide)) (by decide) (by first | decide | exact Nat.le_trans (by decide) hE) (fun _ => rfl) dX1_init_15 rfl ?_
  refine g_putR (ci := 1) (k := 2) (o := 18) (r := 20) (t := 20) (by decide) l9_18 s_18 gp_X1_15 rfl l9_20 rfl (by first | exact ⟨_, Or.inl rfl⟩ | exact ⟨"", Or.inr ⟨_, rfl⟩⟩) dX1_init_17 rfl ?_
  refine Wp.eq (σ1 := (21, cI1, gRL [(18, 2, 20), (18, 1, 19), (0, 3, 11), (11, 7, 4), (11, 6, 17), (11, 5, 16), (11, 4, 15), (11, 3, 14), (11, 2, 13), (11, 1, 12), (0, 2, 7), (7, 4, 10), (7, 3, 9), (7, 2, 8), (0, 1, 4), (4, 2, 6), (4, 1, 5), (0, 0, 1), (1, 1, 3), (1, 0, 2)], (0, []))) rfl rfl rfl rfl ?_
  refine g_aload_n (i := 0) (r := 18) (t := 21) dX1_init_20 rfl rfl (Or.inl l9_18) rfl ?_
  refine g_bipush (t := 23) dX1_init_21 c_bipush_16 rfl ?_
  refine g_newa (at_ := .int) (kd := 0) (n := 16) (o := 21) (t := 25) rfl (by decide) ka_int (by decide) rfl rfl rfl l9_21 (nI_pos (by decide)) (nI_clamp (by decide)) (by decide) (by first | decide | exact Nat.le_trans (by decide) hE) (fun _ => rfl) dX1_init_23 rfl ?_
  refine g_putR (ci := 1) (k := 3) (o := 18) (r := 21) (t := 28) (by decide) l9_18 s_18 gp_X1_18 rfl l9_21 rfl (by first | exact ⟨_, Or.inl rfl⟩ | exact ⟨"", Or.inr ⟨_, rfl⟩⟩) dX1_init_25 rfl ?_
  refine Wp.eq (σ1 := (22, cI1, gRL [(18, 3, 21), (18, 2, 20), (18, 1, 19), (0, 3, 11), (11, 7, 4), (11, 6, 17), (11, 5, 16), (11, 4, 15), (11, 3, 14), (11, 2, 13), (11, 1, 12), (0, 2, 7), (7, 4, 10), (7, 3, 9), (7, 2, 8), (0, 1, 4), (4, 2, 6), (4, 1, 5), (0, 0, 1), (1, 1, 3), (1, 0, 2)], (0, []))) rfl rfl rfl rfl ?_
  refine g_aload_n (i := 0) (r := 18) (t := 29) dX1_init_28 rfl rfl (Or.inl l9_18) rfl ?_
  refine g_bipush (t := 31) dX1_init_29 c_bipush_16 rfl ?_
  refine g_newa (at_ := .int) (kd := 0) (n := 16) (o := 22) (t := 33) rfl (by decide) ka_int (by decide) rfl rfl rfl l9_22 (nI_pos (by decide)) (nI_clamp (by decide)) (by decide) (by first | decide | exact Nat.le_trans (by decide) hE) (fun _ => rfl) dX1_init_31 rfl ?_
  refine g_putR (ci := 1) (k := 4) (o := 18) (r := 22) (t := 36) (by decide) l9_18 s_18 gp_X1_21 rfl l9_22 rfl (by first | exact ⟨_, Or.inl rfl⟩ | exact ⟨"", Or.inr ⟨_, rfl⟩⟩) dX1_init_33 rfl ?_
  refine Wp.eq (σ1 := (23, cI1, gRL [(18, 4, 22), (18, 3, 21), (18, 2, 20), (18, 1, 19), (0, 3, 11), (11, 7, 4), (11, 6, 17), (11, 5, 16), (11, 4, 15), (11, 3, 14), (11, 2, 13), (11, 1, 12), (0, 2, 7), (7, 4, 10), (7, 3, 9), (7, 2, 8), (0, 1, 4), (4, 2, 6), (4, 1, 5), (0, 0, 1), (1, 1, 3), (1, 0, 2)], (0, []))) rfl rfl rfl rfl ?_
  refine g_aload_n (i := 0) (r := 18) (t := 37) dX1_init_36 rfl rfl (Or.inl l9_18) rfl ?_
  refine g_bipush (t := 39) dX1_init_37 c_bipush_16 rfl ?_
  refine g_newa (at_ := .boolean) (kd := 2) (n := 16) (o := 23) (t := 41) rfl (by decide) ka_boolean (by decide) rfl rfl rfl l9_23 (nI_pos (by decide)) (nI_clamp (by decide)) (by decide) (by first | decide | exact Nat.le_trans (by decide) hE) (fun _ => rfl) dX1_init_39 rfl ?_
  refine g_putR (ci := 1) (k := 5) (o := 18) (r := 23) (t := 44) (by decide) l9_18 s_18 gp_X1_24 rfl l9_23 rfl (by first | exact ⟨_, Or.inl rfl⟩ | exact ⟨"", Or.inr ⟨_, rfl⟩⟩) dX1_init_41 rfl ?_
  refine Wp.eq (σ1 := (24, cI1, gRL [(18, 5, 23), (18, 4, 22), (18, 3, 21), (18, 2, 20), (18, 1, 19), (0, 3, 11), (11, 7, 4), (11, 6, 17), (11, 5, 16), (11, 4, 15), (11, 3, 14), (11, 2, 13), (11, 1, 12), (0, 2, 7), (7, 4, 10), (7, 3, 9), (7, 2, 8), (0, 1, 4), (4, 2, 6), (4, 1, 5), (0, 0, 1), (1, 1, 3), (1, 0, 2)], (0, []))) rfl rfl rfl rfl ?_
  refine g_aload_n (i := 0) (r := 18) (t := 45) dX1_init_44 rfl rfl (Or.inl l9_18) rfl ?_
  refine g_bipush (t := 47) dX1_init_45 c_bipush_16 rfl ?_
  refine g_newa (at_ := .int) (kd := 0) (n := 16) (o := 24) (t := 49) rfl (by decide) ka_int (by decide) rfl rfl rfl l9_24 (nI_pos (by decide)) (nI_clamp (by decide)) (by decide) (by first | decide | exact Nat.le_trans (by decide) hE) (fun _ => rfl) dX1_init_47 rfl ?_
  refine g_putR (ci := 1) (k := 6) (o := 18) (r := 24) (t := 52) (by decide) l9_18 s_18 gp_X1_28 rfl l9_24 rfl (by first | exact ⟨_, Or.inl rfl⟩ | exact ⟨"", Or.inr ⟨_, rfl⟩⟩) dX1_init_49 rfl ?_
  refine Wp.eq (σ1 := (25, cI1, gRL [(18, 6, 24), (18, 5, 23), (18, 4, 22), (18, 3, 21), (18, 2, 20), (18, 1, 19), (0, 3, 11), (11, 7, 4), (11, 6, 17), (11, 5, 16), (11, 4, 15), (11, 3, 14), (11, 2, 13), (11, 1, 12), (0, 2, 7), (7, 4, 10), (7, 3, 9), (7, 2, 8), (0, 1, 4), (4, 2, 6), (4, 1, 5), (0, 0, 1), (1, 1, 3), (1, 0, 2)], (0, []))) rfl rfl rfl rfl ?_
  refine g_aload_n (i := 0) (r := 18) (t := 53) dX1_init_52 rfl rfl (Or.inl l9_18) rfl ?_
  refine g_bipush (t := 55) dX1_init_53 c_bipush_16 rfl ?_
  refine g_newa (at_ := .int) (kd := 0) (n := 16) (o := 25) (t := 57) rfl (by decide) ka_int (by decide) rfl rfl rfl l9_25 (nI_pos (by decide)) (nI_clamp (by decide)) (by decide) (by first | decide | exact Nat.le_trans (by decide) hE) (fun _ => rfl) dX1_init_55 rfl ?_
  refine g_putR (ci := 1) (k := 7) (o := 18) (r := 25) (t := 60) (by decide) l9_18 s_18 gp_X1_31 rfl l9_25 rfl (by first | exact ⟨_, Or.inl rfl⟩ | exact ⟨"", Or.inr ⟨_, rfl⟩⟩) dX1_init_57 rfl ?_
  refine Wp.eq (σ1 := (26, cI1, gRL [(18, 7, 25), (18, 6, 24), (18, 5, 23), (18, 4, 22), (18, 3, 21), (18, 2, 20), (18, 1, 19), (0, 3, 11), (11, 7, 4), (11, 6, 17), (11, 5, 16), (11, 4, 15), (11, 3, 14), (11, 2, 13), (11, 1, 12), (0, 2, 7), (7, 4, 10), (7, 3, 9), (7, 2, 8), (0, 1, 4), (4, 2, 6), (4, 1, 5), (0, 0, 1), (1, 1, 3), (1, 0, 2)], (0, []))) rfl rfl rfl rfl ?_
  refine g_aload_n (i := 0) (r := 18) (t := 61) dX1_init_60 rfl rfl (Or.inl l9_18) rfl ?_
  refine g_bipush (t := 63) dX1_init_61 c_bipush_16 rfl ?_
  refine g_newa (at_ := .int) (kd := 0) (n := 16) (o := 26) (t := 65) rfl (by decide) ka_int (by decide) rfl rfl rfl l9_26 (nI_pos (by decide)) (nI_clamp (by decide)) (by decide) (by first | decide | exact Nat.le_trans (by decide) hE) (fun _ => rfl) dX1_init_63 rfl ?_
  refine g_putR (ci := 1) (k := 8) (o := 18) (r := 26) (t := 68) (by decide) l9_18 s_18 gp_X1_34 rfl l9_26 rfl (by first | exact ⟨_, Or.inl rfl⟩ | exact ⟨"", Or.inr ⟨_, rfl⟩⟩) dX1_init_65 rfl ?_
  refine Wp.eq (σ1 := (27, cI1, gRL [(18, 8, 26), (18, 7, 25), (18, 6, 24), (18, 5, 23), (18, 4, 22), (18, 3, 21), (18, 2, 20), (18, 1, 19), (0, 3, 11), (11, 7, 4), (11, 6, 17), (11, 5, 16), (11, 4, 15), (11, 3, 14), (11, 2, 13), (11, 1, 12), (0, 2, 7), (7, 4, 10), (7, 3, 9), (7, 2, 8), (0, 1, 4), (4, 2, 6), (4, 1, 5), (0, 0, 1), (1, 1, 3), (1, 0, 2)], (0, []))) rfl rfl rfl rfl ?_
  refine g_aload_n (i := 0) (r := 18) (t := 69) dX1_init_68 rfl rfl (Or.inl l9_18) rfl ?_
  refine g_aload_n (i := 1) (r := 4) (t := 70) dX1_init_69 rfl rfl (Or.inl l9_4) rfl ?_
  refine g_putR (ci := 1) (k := 9) (o := 18) (r := 4) (t := 73) (by decide) l9_18 s_18 gp_X1_37 rfl l9_4 rfl (by first | exact ⟨_, Or.inl rfl⟩ | exact ⟨"", Or.inr ⟨_, rfl⟩⟩) dX1_init_70 rfl ?_
  refine Wp.eq (σ1 := (27, cI1, gRL [(18, 9, 4), (18, 8, 26), (18, 7, 25), (18, 6, 24), (18, 5, 23), (18, 4, 22), (18, 3, 21), (18, 2, 20), (18, 1, 19), (0, 3, 11), (11, 7, 4), (11, 6, 17), (11, 5, 16), (11, 4, 15), (11, 3, 14), (11, 2, 13), (11, 1, 12), (0, 2, 7), (7, 4, 10), (7, 3, 9), (7, 2, 8), (0, 1, 4), (4, 2, 6), (4, 1, 5), (0, 0, 1), (1, 1, 3), (1, 0, 2)], (0, []))) rfl rfl rfl rfl ?_
  refine g_aload_n (i := 0) (r := 18) (t := 74) dX1_init_73 rfl rfl (Or.inl l9_18) rfl ?_
  refine g_aload_n (i := 2) (r := 11) (t := 75) dX1_init_74 rfl rfl (Or.inl l9_11) rfl ?_
  refine g_putR (ci := 1) (k := 10) (o := 18) (r := 11) (t := 78) (by decide) l9_18 s_18 gp_X1_41 rfl l9_11 rfl (by first | exact ⟨_, Or.inl rfl⟩ | exact ⟨"", Or.inr ⟨_, rfl⟩⟩) dX1_init_75 rfl ?_
  refine Wp.eq (σ1 := (27, cI1, gRL [(18, 10, 11), (18, 9, 4), (18, 8, 26), (18, 7, 25), (18, 6, 24), (18, 5, 23), (18, 4, 22), (18, 3, 21), (18, 2, 20), (18, 1, 19), (0, 3, 11), (11, 7, 4), (11, 6, 17), (11, 5, 16), (11, 4, 15), (11, 3, 14), (11, 2, 13), (11, 1, 12), (0, 2, 7), (7, 4, 10), (7, 3, 9), (7, 2, 8), (0, 1, 4), (4, 2, 6), (4, 1, 5), (0, 0, 1), (1, 1, 3), (1, 0, 2)], (0, []))) rfl rfl rfl rfl ?_
  exact Wp.here ⟨rfl, Or.inr (Or.inl ⟨dX1_init_78, rfl, rfl, rfl, rfl⟩)⟩
theorem ct7_X3_init : gEv E fX3_init 32 [.ref 27, .ref 4, .ref 11, .ref 18] (28, cI1, gRL [(0, 4, 18), (18, 10, 11), (18, 9, 4), (18, 8, 26), (18, 7, 25), (18, 6, 24), (18, 5, 23), (18, 4, 22), (18, 3, 21), (18, 2, 20), (18, 1, 19), (0, 3, 11), (11, 7, 4), (11, 6, 17), (11, 5, 16), (11, 4, 15), (11, 3, 14), (11, 2, 13), (11, 1, 12), (0, 2, 7), (7, 4, 10), (7, 3, 9), (7, 2, 8), (0, 1, 4), (4, 2, 6), (4, 1, 5), (0, 0, 1), (1, 1, 3), (1, 0, 2)], (0, [])) (fun r σ' => r = none ∧ σ' = (32, cI1, gRL [(27, 7, 18), (27, 6, 11), (27, 5, 4), (27, 4, 31), (27, 3, 30), (27, 2, 29), (27, 1, 28), (0, 4, 18), (18, 10, 11), (18, 9, 4), (18, 8, 26), (18, 7, 25), (18, 6, 24), (18, 5, 23), (18, 4, 22), (18, 3, 21), (18, 2, 20), (18, 1, 19), (0, 3, 11), (11, 7, 4), (11, 6, 17), (11, 5, 16), (11, 4, 15), (11, 3, 14), (11, 2, 13), (11, 1, 12), (0, 2, 7), (7, 4, 10), (7, 3, 9), (7, 2, 8), (0, 1, 4), (4, 2, 6), (4, 1, 5), (0, 0, 1), (1, 1, 3), (1, 0, 2)], (0, []))) := by
  refine gEv.of rfl (by decide) (Nat.le_of_ble_eq_true rfl) (L := [.ref 27, .ref 4, .ref 11, .ref 18]) rfl ?_
  refine g_aload_n (i := 0) (r := 27) (t := 1) dX3_init_0 rfl rfl (Or.inl l9_27) rfl ?_
  refine g_objInit (o := 27) (t := 4) l9_27 k_X3_3 k_oi1 k_oi2 (by decide) (by decide) (by decide) dX3_init_1 rfl ?_
  refine g_aload_n (i := 0) (r := 27) (t := 5) dX3_init_4 rfl rfl (Or.inl l9_27) rfl ?_
  refine g_bipush (t := 7) dX3_init_5 c_bipush_16 rfl ?_
  refine g_newa (at_ := .int) (kd := 0) (n := 16) (o := 28) (t := 9) rfl (by decide) ka_int (by decide) rfl rfl rfl l9_28 (nI_pos (by decide)) (nI_clamp (by decide)) (by decide) (by first | decide | exact Nat.le_trans (by decide) hE) (fun _ => rfl) dX3_init_7 rfl ?_
  refine g_putR (ci := 3) (k := 1) (o := 27) (r := 28) (t := 12) (by decide) l9_27 s_27 gp_X3_9 rfl l9_28 rfl (by first | exact ⟨_, Or.inl rfl⟩ | exact ⟨"", Or.inr ⟨_, rfl⟩⟩) dX3_init_9 rfl ?_
  refine Wp.eq (σ1 := (29, cI1, gRL [(27, 1, 28), (0, 4, 18), (18, 10, 11), (18, 9, 4), (18, 8, 26), (18, 7, 25), (18, 6, 24), (18, 5, 23), (18, 4, 22), (18, 3, 21), (18, 2, 20), (18, 1, 19), (0, 3, 11), (11, 7, 4), (11, 6, 17), (11, 5, 16), (11, 4, 15), (11, 3, 14), (11, 2, 13), (11, 1, 12), (0, 2, 7), (7, 4, 10), (7, 3, 9), (7, 2, 8), (0, 1, 4), (4, 2, 6), (4, 1, 5), (0, 0, 1), (1, 1, 3), (1, 0, 2)], (0, []))) rfl rfl rfl rfl ?_
  refine g_aload_n (i := 0) (r := 27) (t := 13) dX3_init_12 rfl rfl (Or.inl l9_27) rfl ?_
  refine g_bipush (t := 15) dX3_init_13 c_bipush_16 rfl ?_
  refine g_newa (at_ := .int) (kd := 0) (n := 16) (o := 29) (t := 17) rfl (by decide) ka_int (by decide) rfl rfl rfl l9_29 (nI_pos (by decide)) (nI_clamp (by decide)) (by decide) (by first | decide | exact Nat.le_trans (by decide) hE) (fun _ => rfl) dX3_init_15 rfl ?_
  refine g_putR (ci := 3) (k := 2) (o := 27) (r := 29) (t := 20) (by decide) l9_27 s_27 gp_X3_15 rfl l9_29 rfl (by first | exact ⟨_, Or.inl rfl⟩ | exact ⟨"", Or.inr ⟨_, rfl⟩⟩) dX3_init_17 rfl ?_
  refine Wp.eq (σ1 := (30, cI1, gRL [(27, 2, 29), (27, 1, 28), (0, 4, 18), (18, 10, 11), (18, 9, 4), (18, 8, 26), (18, 7, 25), (18, 6, 24), (18, 5, 23), (18, 4, 22), (18, 3, 21), (18, 2, 20), (18, 1, 19), (0, 3, 11), (11, 7, 4), (11, 6, 17), (11, 5, 16), (11, 4, 15), (11, 3, 14), (11, 2, 13), (11, 1, 12), (0, 2, 7), (7, 4, 10), (7, 3, 9), (7, 2, 8), (0, 1, 4), (4, 2, 6), (4, 1, 5), (0, 0, 1), (1, 1, 3), (1, 0, 2)], (0, []))) rfl rfl rfl rfl ?_
  refine g_aload_n (i := 0) (r := 27) (t := 21) dX3_init_20 rfl rfl (Or.inl l9_27) rfl ?_
  refine g_bipush (t := 23) dX3_init_21 c_bipush_16 rfl ?_
  refine g_newa (at_ := .int) (kd := 0) (n := 16) (o := 30) (t := 25) rfl (by decide) ka_int (by decide) rfl rfl rfl l9_30 (nI_pos (by decide)) (nI_clamp (by decide)) (by decide) (by first | decide | exact Nat.le_trans (by decide) hE) (fun _ => rfl) dX3_init_23 rfl ?_
  refine g_putR (ci := 3) (k := 3) (o := 27) (r := 30) (t := 28) (by decide) l9_27 s_27 gp_X3_18 rfl l9_30 rfl (by first | exact ⟨_, Or.inl rfl⟩ | exact ⟨"", Or.inr ⟨_, rfl⟩⟩) dX3_init_25 rfl ?_
  refine Wp.eq (σ1 := (31, cI1, gRL [(27, 3, 30), (27, 2, 29), (27, 1, 28), (0, 4, 18), (18, 10, 11), (18, 9, 4), (18, 8, 26), (18, 7, 25), (18, 6, 24), (18, 5, 23), (18, 4, 22), (18, 3, 21), (18, 2, 20), (18, 1, 19), (0, 3, 11), (11, 7, 4), (11, 6, 17), (11, 5, 16), (11, 4, 15), (11, 3, 14), (11, 2, 13), (11, 1, 12), (0, 2, 7), (7, 4, 10), (7, 3, 9), (7, 2, 8), (0, 1, 4), (4, 2, 6), (4, 1, 5), (0, 0, 1), (1, 1, 3), (1, 0, 2)], (0, []))) rfl rfl rfl rfl ?_
  refine g_aload_n (i := 0) (r := 27) (t := 29) dX3_init_28 rfl rfl (Or.inl l9_27) rfl ?_
  refine g_bipush (t := 31) dX3_init_29 c_bipush_16 rfl ?_
  refine g_newa (at_ := .int) (kd := 0) (n := 16) (o := 31) (t := 33) rfl (by decide) ka_int (by decide) rfl rfl rfl l9_31 (nI_pos (by decide)) (nI_clamp (by decide)) (by decide) (by first | decide | exact Nat.le_trans (by decide) hE) (fun _ => rfl) dX3_init_31 rfl ?_
  refine g_putR (ci := 3) (k := 4) (o := 27) (r := 31) (t := 36) (by decide) l9_27 s_27 gp_X3_21 rfl l9_31 rfl (by first | exact ⟨_, Or.inl rfl⟩ | exact ⟨"", Or.inr ⟨_, rfl⟩⟩) dX3_init_33 rfl ?_
  refine Wp.eq (σ1 := (32, cI1, gRL [(27, 4, 31), (27, 3, 30), (27, 2, 29), (27, 1, 28), (0, 4, 18), (18, 10, 11), (18, 9, 4), (18, 8, 26), (18, 7, 25), (18, 6, 24), (18, 5, 23), (18, 4, 22), (18, 3, 21), (18, 2, 20), (18, 1, 19), (0, 3, 11), (11, 7, 4), (11, 6, 17), (11, 5, 16), (11, 4, 15), (11, 3, 14), (11, 2, 13), (11, 1, 12), (0, 2, 7), (7, 4, 10), (7, 3, 9), (7, 2, 8), (0, 1, 4), (4, 2, 6), (4, 1, 5), (0, 0, 1), (1, 1, 3), (1, 0, 2)], (0, []))) rfl rfl rfl rfl ?_
  refine g_aload_n (i := 0) (r := 27) (t := 37) dX3_init_36 rfl rfl (Or.inl l9_27) rfl ?_
  refine g_aload_n (i := 1) (r := 4) (t := 38) dX3_init_37 rfl rfl (Or.inl l9_4) rfl ?_
  refine g_putR (ci := 3) (k := 5) (o := 27) (r := 4) (t := 41) (by decide) l9_27 s_27 gp_X3_24 rfl l9_4 rfl (by first | exact ⟨_, Or.inl rfl⟩ | exact ⟨"", Or.inr ⟨_, rfl⟩⟩) dX3_init_38 rfl ?_
  refine Wp.eq (σ1 := (32, cI1, gRL [(27, 5, 4), (27, 4, 31), (27, 3, 30), (27, 2, 29), (27, 1, 28), (0, 4, 18), (18, 10, 11), (18, 9, 4), (18, 8, 26), (18, 7, 25), (18, 6, 24), (18, 5, 23), (18, 4, 22), (18, 3, 21), (18, 2, 20), (18, 1, 19), (0, 3, 11), (11, 7, 4), (11, 6, 17), (11, 5, 16), (11, 4, 15), (11, 3, 14), (11, 2, 13), (11, 1, 12), (0, 2, 7), (7, 4, 10), (7, 3, 9), (7, 2, 8), (0, 1, 4), (4, 2, 6), (4, 1, 5), (0, 0, 1), (1, 1, 3), (1, 0, 2)], (0, []))) rfl rfl rfl rfl ?_
  refine g_aload_n (i := 0) (r := 27) (t := 42) dX3_init_41 rfl rfl (Or.inl l9_27) rfl ?_
  refine g_aload_n (i := 2) (r := 11) (t := 43) dX3_init_42 rfl rfl (Or.inl l9_11) rfl ?_
  refine g_putR (ci := 3) (k := 6) (o := 27) (r := 11) (t := 46) (by decide) l9_27 s_27 gp_X3_28 rfl l9_11 rfl (by first | exact ⟨_, Or.inl rfl⟩ | exact ⟨"", Or.inr ⟨_, rfl⟩⟩) dX3_init_43 rfl ?_
  refine Wp.eq (σ1 := (32, cI1, gRL [(27, 6, 11), (27, 5, 4), (27, 4, 31), (27, 3, 30), (27, 2, 29), (27, 1, 28), (0, 4, 18), (18, 10, 11), (18, 9, 4), (18, 8, 26), (18, 7, 25), (18, 6, 24), (18, 5, 23), (18, 4, 22), (18, 3, 21), (18, 2, 20), (18, 1, 19), (0, 3, 11), (11, 7, 4), (11, 6, 17), (11, 5, 16), (11, 4, 15), (11, 3, 14), (11, 2, 13), (11, 1, 12), (0, 2, 7), (7, 4, 10), (7, 3, 9), (7, 2, 8), (0, 1, 4), (4, 2, 6), (4, 1, 5), (0, 0, 1), (1, 1, 3), (1, 0, 2)], (0, []))) rfl rfl rfl rfl ?_
  refine g_aload_n (i := 0) (r := 27) (t := 47) dX3_init_46 rfl rfl (Or.inl l9_27) rfl ?_
  refine g_aload_n (i := 3) (r := 18) (t := 48) dX3_init_47 rfl rfl (Or.inl l9_18) rfl ?_
  refine g_putR (ci := 3) (k := 7) (o := 27) (r := 18) (t := 51) (by decide) l9_27 s_27 gp_X3_32 rfl l9_18 rfl (by first | exact ⟨_, Or.inl rfl⟩ | exact ⟨"", Or.inr ⟨_, rfl⟩⟩) dX3_init_48 rfl ?_
  refine Wp.eq (σ1 := (32, cI1, gRL [(27, 7, 18), (27, 6, 11), (27, 5, 4), (27, 4, 31), (27, 3, 30), (27, 2, 29), (27, 1, 28), (0, 4, 18), (18, 10, 11), (18, 9, 4), (18, 8, 26), (18, 7, 25), (18, 6, 24), (18, 5, 23), (18, 4, 22), (18, 3, 21), (18, 2, 20), (18, 1, 19), (0, 3, 11), (11, 7, 4), (11, 6, 17), (11, 5, 16), (11, 4, 15), (11, 3, 14), (11, 2, 13), (11, 1, 12), (0, 2, 7), (7, 4, 10), (7, 3, 9), (7, 2, 8), (0, 1, 4), (4, 2, 6), (4, 1, 5), (0, 0, 1), (1, 1, 3), (1, 0, 2)], (0, []))) rfl rfl rfl rfl ?_
  exact Wp.here ⟨rfl, Or.inr (Or.inl ⟨dX3_init_51, rfl, rfl, rfl, rfl⟩)⟩
theorem ct8_X1_init : gEv E fX1_init 41 [.ref 32, .ref 4, .ref 11] (33, cI1, gRL [(0, 5, 27), (27, 7, 18), (27, 6, 11), (27, 5, 4), (27, 4, 31), (27, 3, 30), (27, 2, 29), (27, 1, 28), (0, 4, 18), (18, 10, 11), (18, 9, 4), (18, 8, 26), (18, 7, 25), (18, 6, 24), (18, 5, 23), (18, 4, 22), (18, 3, 21), (18, 2, 20), (18, 1, 19), (0, 3, 11), (11, 7, 4), (11, 6, 17), (11, 5, 16), (11, 4, 15), (11, 3, 14), (11, 2, 13), (11, 1, 12), (0, 2, 7), (7, 4, 10), (7, 3, 9), (7, 2, 8), (0, 1, 4), (4, 2, 6), (4, 1, 5), (0, 0, 1), (1, 1, 3), (1, 0, 2)], (0, [])) (fun r σ' => r = none ∧ σ' = (41, cI1, gRL [(32, 10, 11), (32, 9, 4), (32, 8, 40), (32, 7, 39), (32, 6, 38), (32, 5, 37), (32, 4, 36), (32, 3, 35), (32, 2, 34), (32, 1, 33), (0, 5, 27), (27, 7, 18), (27, 6, 11), (27, 5, 4), (27, 4, 31), (27, 3, 30), (27, 2, 29), (27, 1, 28), (0, 4, 18), (18, 10, 11), (18, 9, 4), (18, 8, 26), (18, 7, 25), (18, 6, 24), (18, 5, 23), (18, 4, 22), (18, 3, 21), (18, 2, 20), (18, 1, 19), (0, 3, 11), (11, 7, 4), (11, 6, 17), (11, 5, 16), (11, 4, 15), (11, 3, 14), (11, 2, 13), (11, 1, 12), (0, 2, 7), (7, 4, 10), (7, 3, 9), (7, 2, 8), (0, 1, 4), (4, 2, 6), (4, 1, 5), (0, 0, 1), (1, 1, 3), (1, 0, 2)], (0, []))) := by
  refine gEv.of rfl (by decide) (Nat.le_of_ble_eq_true rfl) (L := [.ref 32, .ref 4, .ref 11]) rfl ?_
  refine g_aload_n (i := 0) (r := 32) (t := 1) dX1_init_0 rfl rfl (Or.inl l9_32) rfl ?_
  refine g_objInit (o := 32) (t := 4) l9_32 k_X1_3 k_oi1 k_oi2 (by decide) (by decide) (by decide) dX1_init_1 rfl ?_
  refine g_aload_n (i := 0) (r := 32) (t := 5) dX1_init_4 rfl rfl (Or.inl l9_32) rfl ?_
  refine g_bipush (t := 7) dX1_init_5 c_bipush_16 rfl ?_
  refine g_newa (at_ := .int) (kd := 0) (n := 16) (o := 33) (t := 9) rfl (by decide) ka_int (by decide) rfl rfl rfl l9_33 (nI_pos (by decide)) (nI_clamp (by decide)) (by decide) (by first | decide | exact Nat.le_trans (by decide) hE) (fun _ => rfl) dX1_init_7 rfl ?_
  refine g_putR (ci := 1) (k := 1) (o := 32) (r := 33) (t := 12) (by decide) l9_32 s_32 gp_X1_9 rfl l9_33 rfl (by first | exact ⟨_, Or.inl rfl⟩ | exact ⟨"", Or.inr ⟨_, rfl⟩⟩) dX1_init_9 rfl ?_
  refine Wp.eq (σ1 := (34, cI1, gRL [(32, 1, 33), (0, 5, 27), (27, 7, 18), (27, 6, 11), (27, 5, 4), (27, 4, 31), (27, 3, 30), (27, 2, 29), (27, 1, 28), (0, 4, 18), (18, 10, 11), (18, 9, 4), (18, 8, 26), (18, 7, 25), (18, 6, 24), (18, 5, 23), (18, 4, 22), (18, 3, 21), (18, 2, 20), (18, 1, 19), (0, 3, 11), (11, 7, 4), (11, 6, 17), (11, 5, 16), (11, 4, 15), (11, 3, 14), (11, 2, 13), (11, 1, 12), (0, 2, 7), (7, 4, 10), (7, 3, 9), (7, 2, 8), (0, 1, 4), (4, 2, 6), (4, 1, 5), (0, 0, 1), (1, 1, 3), (1, 0, 2)], (0, []))) rfl rfl rfl rfl ?_
  refine g_aload_n (i := 0) (r := 32) (t := 13) dX1_init_12 rfl rfl (Or.inl l9_32) rfl ?_
  refine g_bipush (t := 15) dX1_init_13 c_bipush_16 rfl ?_
  refine g_newa (at_ := .int) (kd := 0) (n := 16) (o := 34) (t := 17) rfl (by decide) ka_int (by decide) rfl rfl rfl l9_34 (nI_pos (by decide)) (nI_clamp (by decide)) (by decide) (by first | decide | exact Nat.le_trans (by decide) hE) (fun _ => rfl) dX1_init_15 rfl ?_
  refine g_putR (ci := 1) (k := 2) (o := 32) (r := 34) (t := 20) (by decide) l9_32 s_32 gp_X1_15 rfl l9_34 rfl (by first | exact ⟨_, Or.inl rfl⟩ | exact ⟨"", Or.inr ⟨_, rfl⟩⟩) dX1_init_17 rfl ?_
  refine Wp.eq (σ1 := (35, cI1, gRL [(32, 2, 34), (32, 1, 33), (0, 5, 27), (27, 7, 18), (27, 6, 11), (27, 5, 4), (27, 4, 31), (27, 3, 30), (27, 2, 29), (27, 1, 28), (0, 4, 18), (18, 10, 11), (18, 9, 4), (18, 8, 26), (18, 7, 25), (18, 6, 24), (18, 5, 23), (18, 4, 22), (18, 3, 21), (18, 2, 20), (18, 1, 19), (0, 3, 11), (11, 7, 4), (11, 6, 17), (11, 5, 16), (11, 4, 15), (11, 3, 14), (11, 2, 13), (11, 1, 12), (0, 2, 7), (7, 4, 10), (7, 3, 9), (7, 2, 8), (0, 1, 4), (4, 2, 6), (4, 1, 5), (0, 0, 1), (1, 1, 3), (1, 0, 2)], (0, []))) rfl rfl rfl rfl ?_
  refine g_aload_n (i := 0) (r := 32) (t := 21) dX1_init_20 rfl rfl (Or.inl l9_32) rfl ?_
  refine g_bipush (t := 23) dX1_init_21 c_bipush_16 rfl ?_
  refine g_newa (at_ := .int) (kd := 0) (n := 16) (o := 35) (t := 25) rfl (by decide) ka_int (by decide) rfl rfl rfl l9_35 (nI_pos (by decide)) (nI_clamp (by decide)) (by decide) (by first | decide | exact Nat.le_trans (by decide) hE) (fun _ => rfl) dX1_init_23 rfl ?_
  refine g_putR (ci := 1) (k := 3) (o := 32) (r := 35) (t := 28) (by decide) l9_32 s_32 gp_X1_18 rfl l9_35 rfl (by first | exact ⟨_, Or.inl rfl⟩ | exact ⟨"", Or.inr ⟨_, rfl⟩⟩) dX1_init_25 rfl ?_
  refine Wp.eq (σ1 := (36, cI1, gRL [(32, 3, 35), (32, 2, 34), (32, 1, 33), (0, 5, 27), (27, 7, 18), (27, 6, 11), (27, 5, 4), (27, 4, 31), (27, 3, 30), (27, 2, 29), (27, 1, 28), (0, 4, 18), (18, 10, 11), (18, 9, 4), (18, 8, 26), (18, 7, 25), (18, 6, 24), (18, 5, 23), (18, 4, 22), (18, 3, 21), (18, 2, 20), (18, 1, 19), (0, 3, 11), (11, 7, 4), (11, 6, 17), (11, 5, 16), (11, 4, 15), (11, 3, 14), (11, 2, 13), (11, 1, 12), (0, 2, 7), (7, 4, 10), (7, 3, 9), (7, 2, 8), (0, 1, 4), (4, 2, 6), (4, 1, 5), (0, 0, 1), (1, 1, 3), (1, 0, 2)], (0, []))) rfl rfl rfl rfl ?_
  refine g_aload_n (i := 0) (r := 32) (t := 29) dX1_init_28 rfl rfl (Or.inl l9_32) rfl ?_
  refine g_bipush (t := 31) dX1_init_29 c_bipush_16 rfl ?_
  refine g_newa (at_ := .int) (kd := 0) (n := 16) (o := 36) (t := 33) rfl (by decide) ka_int (by decide) rfl rfl rfl l9_36 (nI_pos (by decide)) (nI_clamp (by decide)) (by decide) (by first | decide | exact Nat.le_trans (by decide) hE) (fun _ => rfl) dX1_init_31 rfl ?_
  refine g_putR (ci := 1) (k := 4) (o := 32) (r := 36) (t := 36) (by decide) l9_32 s_32 gp_X1_21 rfl l9_36 rfl (by first | exact ⟨_, Or.inl rfl⟩ | exact ⟨"", Or.inr ⟨_, rfl⟩⟩) dX1_init_33 rfl ?_
  refine Wp.eq (σ1 := (37, cI1, gRL [(32, 4, 36), (32, 3, 35), (32, 2, 34), (32, 1, 33), (0, 5, 27), (27, 7, 18), (27, 6, 11), (27, 5, 4), (27, 4, 31), (27, 3, 30), (27, 2, 29), (27, 1, 28), (0, 4, 18), (18, 10, 11), (18, 9, 4), (18, 8, 26), (18, 7, 25), (18, 6, 24), (18, 5, 23), (18, 4, 22), (18, 3, 21), (18, 2, 20), (18, 1, 19), (0, 3, 11), (11, 7, 4), (11, 6, 17), (11, 5, 16), (11, 4, 15), (11, 3, 14), (11, 2, 13), (11, 1, 12), (0, 2, 7), (7, 4, 10), (7, 3, 9), (7, 2, 8), (0, 1, 4), (4, 2, 6), (4, 1, 5), (0, 0, 1), (1, 1, 3), (1, 0, 2)], (0, []))) rfl rfl rfl rfl ?_
  refine g_aload_n (i := 0) (r := 32) (t := 37) dX1_init_36 rfl rfl (Or.inl l9_32) rfl ?_
  refine g_bipush (t := 39) dX1_init_37 c_bipush_16 rfl ?_
  refine g_newa (at_ := .boolean) (kd := 2) (n := 16) (o := 37) (t := 41) rfl (by decide) ka_boolean (by decide) rfl rfl rfl l9_37 (nI_pos (by decide)) (nI_clamp (by decide)) (by decide) (by first | decide | exact Nat.le_trans (by decide) hE) (fun _ => rfl) dX1_init_39 rfl ?_
  refine g_putR (ci := 1) (k := 5) (o := 32) (r := 37) (t := 44) (by decide) l9_32 s_32 gp_X1_24 rfl l9_37 rfl (by first | exact ⟨_, Or.inl rfl⟩ | exact ⟨"", Or.inr ⟨_, rfl⟩⟩) dX1_init_41 rfl ?_
  refine Wp.eq (σ1 := (38, cI1, gRL [(32, 5, 37), (32, 4, 36), (32, 3, 35), (32, 2, 34), (32, 1, 33), (0, 5, 27), (27, 7, 18), (27, 6, 11), (27, 5, 4), (27, 4, 31), (27, 3, 30), (27, 2, 29), (27, 1, 28), (0, 4, 18), (18, 10, 11), (18, 9, 4), (18, 8, 26), (18, 7, 25), (18, 6, 24), (18, 5, 23), (18, 4, 22), (18, 3, 21), (18, 2, 20), (18, 1, 19), (0, 3, 11), (11, 7, 4), (11, 6, 17), (11, 5, 16), (11, 4, 15), (11, 3, 14), (11, 2, 13), (11, 1, 12), (0, 2, 7), (7, 4, 10), (7, 3, 9), (7, 2, 8), (0, 1, 4), (4, 2, 6), (4, 1, 5), (0, 0, 1), (1, 1, 3), (1, 0, 2)], (0, []))) rfl rfl rfl rfl ?_
  refine g_aload_n (i := 0) (r := 32) (t := 45) dX1_init_44 rfl rfl (Or.inl l9_32) rfl ?_
  refine g_bipush (t := 47) dX1_init_45 c_bipush_16 rfl ?_
  refine g_newa (at_ := .int) (kd := 0) (n := 16) (o := 38) (t := 49) rfl (by decide) ka_int (by decide) rfl rfl rfl l9_38 (nI_pos (by decide)) (nI_clamp (by decide)) (by decide) (by first | decide | exact Nat.le_trans (by decide) hE) (fun _ => rfl) dX1_init_47 rfl ?_
  refine g_putR (ci := 1) (k := 6) (o := 32) (r := 38) (t := 52) (by decide) l9_32 s_32 gp_X1_28 rfl l9_38 rfl (by first | exact ⟨_, Or.inl rfl⟩ | exact ⟨"", Or.inr ⟨_, rfl⟩⟩) dX1_init_49 rfl ?_
  refine Wp.eq (σ1 := (39, cI1, gRL [(32, 6, 38), (32, 5, 37), (32, 4, 36), (32, 3, 35), (32, 2, 34), (32, 1, 33), (0, 5, 27), (27, 7, 18), (27, 6, 11), (27, 5, 4), (27, 4, 31), (27, 3, 30), (27, 2, 29), (27, 1, 28), (0, 4, 18), (18, 10, 11), (18, 9, 4), (18, 8, 26), (18, 7, 25), (18, 6, 24), (18, 5, 23), (18, 4, 22), (18, 3, 21), (18, 2, 20), (18, 1, 19), (0, 3, 11), (11, 7, 4), (11, 6, 17), (11, 5, 16), (11, 4, 15), (11, 3, 14), (11, 2, 13), (11, 1, 12), (0, 2, 7), (7, 4, 10), (7, 3, 9), (7, 2, 8), (0, 1, 4), (4, 2, 6), (4, 1, 5), (0, 0, 1), (1, 1, 3), (1, 0, 2)], (0, []))) rfl rfl rfl rfl ?_
  refine g_aload_n (i := 0) (r := 32) (t := 53) dX1_init_52 rfl rfl (Or.inl l9_32) rfl ?_
  refine g_bipush (t := 55) dX1_init_53 c_bipush_16 rfl ?_
  refine g_newa (at_ := .int) (kd := 0) (n := 16) (o := 39) (t := 57) rfl (by decide) ka_int (by decide) rfl rfl rfl l9_39 (nI_pos (by decide)) (nI_clamp (by decide)) (by decide) (by first | decide | exact Nat.le_trans (by decide) hE) (fun _ => rfl) dX1_init_55 rfl ?_
  refine g_putR (ci := 1) (k := 7) (o := 32) (r := 39) (t := 60) (by decide) l9_32 s_32 gp_X1_31 rfl l9_39 rfl (by first | exact ⟨_, Or.inl rfl⟩ | exact ⟨"", Or.inr ⟨_, rfl⟩⟩) dX1_init_57 rfl ?_
  refine Wp.eq (σ1 := (40, cI1, gRL [(32, 7, 39), (32, 6, 38), (32, 5, 37), (32, 4, 36), (32, 3, 35), (32, 2, 34), (32, 1, 33), (0, 5, 27), (27, 7, 18), (27, 6, 11), (27, 5, 4), (27, 4, 31), (27, 3, 30), (27, 2, 29), (27, 1, 28), (0, 4, 18), (18, 10, 11), (18, 9, 4), (18, 8, 26), (18, 7, 25), (18, 6, 24), (18, 5, 23), (18, 4, 22), (18, 3, 21), (18, 2, 20), (18, 1, 19), (0, 3, 11), (11, 7, 4), (11, 6, 17), (11, 5, 16), (11, 4, 15), (11, 3, 14), (11, 2, 13), (11, 1, 12), (0, 2, 7), (7, 4, 10), (7, 3, 9), (7, 2, 8), (0, 1, 4), (4, 2, 6), (4, 1, 5), (0, 0, 1), (1, 1, 3), (1, 0, 2)], (0, []))) rfl rfl rfl rfl ?_
  refine g_aload_n (i := 0) (r := 32) (t := 61) dX1_init_60 rfl rfl (Or.inl l9_32) rfl ?_
  refine g_bipush (t := 63) dX1_init_61 c_bipush_16 rfl ?_
  refine g_newa (at_ := .int) (kd := 0) (n := 16) (o := 40) (t := 65) rfl (by decide) ka_int (by decide) rfl rfl rfl l9_40 (nI_pos (by decide)) (nI_clamp (by decide)) (by decide) (by first | decide | exact Nat.le_trans (by decide) hE) (fun _ => rfl) dX1_init_63 rfl ?_
  refine g_putR (ci := 1) (k := 8) (o := 32) (r := 40) (t := 68) (by decide) l9_32 s_32 gp_X1_34 rfl l9_40 rfl (by first | exact ⟨_, Or.inl rfl⟩ | exact ⟨"", Or.inr ⟨_, rfl⟩⟩) dX1_init_65 rfl ?_
  refine Wp.eq (σ1 := (41, cI1, gRL [(32, 8, 40), (32, 7, 39), (32, 6, 38), (32, 5, 37), (32, 4, 36), (32, 3, 35), (32, 2, 34), (32, 1, 33), (0, 5, 27), (27, 7, 18), (27, 6, 11), (27, 5, 4), (27, 4, 31), (27, 3, 30), (27, 2, 29), (27, 1, 28), (0, 4, 18), (18, 10, 11), (18, 9, 4), (18, 8, 26), (18, 7, 25), (18, 6, 24), (18, 5, 23), (18, 4, 22), (18, 3, 21), (18, 2, 20), (18, 1, 19), (0, 3, 11), (11, 7, 4), (11, 6, 17), (11, 5, 16), (11, 4, 15), (11, 3, 14), (11, 2, 13), (11, 1, 12), (0, 2, 7), (7, 4, 10), (7, 3, 9), (7, 2, 8), (0, 1, 4), (4, 2, 6), (4, 1, 5), (0, 0, 1), (1, 1, 3), (1, 0, 2)], (0, []))) rfl rfl rfl rfl ?_
  refine g_aload_n (i := 0) (r := 32) (t := 69) dX1_init_68 rfl rfl (Or.inl l9_32) rfl ?_
  refine g_aload_n (i := 1) (r := 4) (t := 70) dX1_init_69 rfl rfl (Or.inl l9_4) rfl ?_
  refine g_putR (ci := 1) (k := 9) (o := 32) (r := 4) (t := 73) (by decide) l9_32 s_32 gp_X1_37 rfl l9_4 rfl (by first | exact ⟨_, Or.inl rfl⟩ | exact ⟨"", Or.inr ⟨_, rfl⟩⟩) dX1_init_70 rfl ?_
  refine Wp.eq (σ1 := (41, cI1, gRL [(32, 9, 4), (32, 8, 40), (32, 7, 39), (32, 6, 38), (32, 5, 37), (32, 4, 36), (32, 3, 35), (32, 2, 34), (32, 1, 33), (0, 5, 27), (27, 7, 18), (27, 6, 11), (27, 5, 4), (27, 4, 31), (27, 3, 30), (27, 2, 29), (27, 1, 28), (0, 4, 18), (18, 10, 11), (18, 9, 4), (18, 8, 26), (18, 7, 25), (18, 6, 24), (18, 5, 23), (18, 4, 22), (18, 3, 21), (18, 2, 20), (18, 1, 19), (0, 3, 11), (11, 7, 4), (11, 6, 17), (11, 5, 16), (11, 4, 15), (11, 3, 14), (11, 2, 13), (11, 1, 12), (0, 2, 7), (7, 4, 10), (7, 3, 9), (7, 2, 8), (0, 1, 4), (4, 2, 6), (4, 1, 5), (0, 0, 1), (1, 1, 3), (1, 0, 2)], (0, []))) rfl rfl rfl rfl ?_
  refine g_aload_n (i := 0) (r := 32) (t := 74) dX1_init_73 rfl rfl (Or.inl l9_32) rfl ?_
  refine g_aload_n (i := 2) (r := 11) (t := 75) dX1_init_74 rfl rfl (Or.inl l9_11) rfl ?_
  refine g_putR (ci := 1) (k := 10) (o := 32) (r := 11) (t := 78) (by decide) l9_32 s_32 gp_X1_41 rfl l9_11 rfl (by first | exact ⟨_, Or.inl rfl⟩ | exact ⟨"", Or.inr ⟨_, rfl⟩⟩) dX1_init_75 rfl ?_
  refine Wp.eq (σ1 := (41, cI1, gRL [(32, 10, 11), (32, 9, 4), (32, 8, 40), (32, 7, 39), (32, 6, 38), (32, 5, 37), (32, 4, 36), (32, 3, 35), (32, 2, 34), (32, 1, 33), (0, 5, 27), (27, 7, 18), (27, 6, 11), (27, 5, 4), (27, 4, 31), (27, 3, 30), (27, 2, 29), (27, 1, 28), (0, 4, 18), (18, 10, 11), (18, 9, 4), (18, 8, 26), (18, 7, 25), (18, 6, 24), (18, 5, 23), (18, 4, 22), (18, 3, 21), (18, 2, 20), (18, 1, 19), (0, 3, 11), (11, 7, 4), (11, 6, 17), (11, 5, 16), (11, 4, 15), (11, 3, 14), (11, 2, 13), (11, 1, 12), (0, 2, 7), (7, 4, 10), (7, 3, 9), (7, 2, 8), (0, 1, 4), (4, 2, 6), (4, 1, 5), (0, 0, 1), (1, 1, 3), (1, 0, 2)], (0, []))) rfl rfl rfl rfl ?_
  exact Wp.here ⟨rfl, Or.inr (Or.inl ⟨dX1_init_78, rfl, rfl, rfl, rfl⟩)⟩
theorem ct1_X6_init : gEv E fX6_init 41 [.ref 0] (1, cI0, gRL [], (0, [])) (fun r σ' => r = none ∧ σ' = (41, cI2, gRL [(0, 6, 32), (32, 10, 11), (32, 9, 4), (32, 8, 40), (32, 7, 39), (32, 6, 38), (32, 5, 37), (32, 4, 36), (32, 3, 35), (32, 2, 34), (32, 1, 33), (0, 5, 27), (27, 7, 18), (27, 6, 11), (27, 5, 4), (27, 4, 31), (27, 3, 30), (27, 2, 29), (27, 1, 28), (0, 4, 18), (18, 10, 11), (18, 9, 4), (18, 8, 26), (18, 7, 25), (18, 6, 24), (18, 5, 23), (18, 4, 22), (18, 3, 21), (18, 2, 20), (18, 1, 19), (0, 3, 11), (11, 7, 4), (11, 6, 17), (11, 5, 16), (11, 4, 15), (11, 3, 14), (11, 2, 13), (11, 1, 12), (0, 2, 7), (7, 4, 10), (7, 3, 9), (7, 2, 8), (0, 1, 4), (4, 2, 6), (4, 1, 5), (0, 0, 1), (1, 1, 3), (1, 0, 2)], (0, []))) := by
  refine gEv.of rfl (by decide) (Nat.le_of_ble_eq_true rfl) (L := [.ref 0]) rfl ?_
  refine g_aload_n (i := 0) (r := 0) (t := 1) dX6_init_0 rfl rfl (Or.inl l9_0) rfl ?_
  refine g_objInit (o := 0) (t := 4) l9_0 k_X6_1 k_oi1 k_oi2 (by decide) (by decide) (by decide) dX6_init_1 rfl ?_
  refine g_aload_n (i := 0) (r := 0) (t := 5) dX6_init_4 rfl rfl (Or.inl l9_0) rfl ?_
  refine g_new (ci := 5) (o := 1) (t := 8) gcl5 (by decide) rfl rfl l9_1 kl_X6_7 ki_X5 kn_X5 (by first | decide | exact Nat.le_trans (by decide) hE) (fun _ => rfl) (gRL_none (by decide)) rfl dX6_init_5 rfl ?_
  refine g_dup (t := 9) dX6_init_8 rfl rfl ?_
  refine g_callIN (o := 1) (t := 12) mX5_init rfl (List.mem_of_getElem? (i := 0) rfl) imX5_init rfl l9_1 ct2_X5_init rfl rfl (by first | decide | exact Nat.le_trans (by decide) hE) (by decide) (by decide) (by decide) dX6_init_9 rfl (fun r σ' q _ => ?_)
  obtain ⟨rfl, rfl⟩ := q
  refine g_putR (ci := 6) (k := 0) (o := 0) (r := 1) (t := 15) (by decide) l9_0 s_0 gp_X6_10 rfl l9_1 rfl (by first | exact ⟨_, Or.inl rfl⟩ | exact ⟨"", Or.inr ⟨_, rfl⟩⟩) dX6_init_12 rfl ?_
  refine Wp.eq (σ1 := (4, cI0, gRL [(0, 0, 1), (1, 1, 3), (1, 0, 2)], (0, []))) rfl rfl rfl rfl ?_
  refine g_aload_n (i := 0) (r := 0) (t := 16) dX6_init_15 rfl rfl (Or.inl l9_0) rfl ?_
  refine g_new (ci := 4) (o := 4) (t := 19) gcl4 (by decide) rfl rfl l9_4 kl_X6_16 ki_X4 kn_X4 (by first | decide | exact Nat.le_trans (by decide) hE) (fun _ => rfl) (gRL_none (by decide)) rfl dX6_init_16 rfl ?_
  refine g_dup (t := 20) dX6_init_19 rfl rfl ?_
  refine g_callI (o := 4) (t := 23) mX4_init rfl k_X6_18 imX4_init rfl l9_4 ct3_X4_init rfl rfl (by first | decide | exact Nat.le_trans (by decide) hE) (by decide) (by decide) (by decide) dX6_init_20 rfl (fun r σ' q _ => ?_)
  obtain ⟨rfl, rfl⟩ := q
  refine g_putR (ci := 6) (k := 1) (o := 0) (r := 4) (t := 26) (by decide) l9_0 s_0 gp_X6_19 rfl l9_4 rfl (by first | exact ⟨_, Or.inl rfl⟩ | exact ⟨"", Or.inr ⟨_, rfl⟩⟩) dX6_init_23 rfl ?_
  refine Wp.eq (σ1 := (7, cI1, gRL [(0, 1, 4), (4, 2, 6), (4, 1, 5), (0, 0, 1), (1, 1, 3), (1, 0, 2)], (0, []))) rfl rfl rfl rfl ?_
  refine g_aload_n (i := 0) (r := 0) (t := 27) dX6_init_26 rfl rfl (Or.inl l9_0) rfl ?_
  refine g_new (ci := 0) (o := 7) (t := 30) gcl0 (by decide) rfl rfl l9_7 kl_X6_23 ki_X0 kn_X0 (by first | decide | exact Nat.le_trans (by decide) hE) (fun _ => rfl) (gRL_none (by decide)) rfl dX6_init_27 rfl ?_
  refine g_dup (t := 31) dX6_init_30 rfl rfl ?_
  refine g_callIN (o := 7) (t := 34) mX0_init rfl (List.mem_of_getElem? (i := 2) rfl) imX0_init rfl l9_7 ct4_X0_init rfl rfl (by first | decide | exact Nat.le_trans (by decide) hE) (by decide) (by decide) (by decide) dX6_init_31 rfl (fun r σ' q _ => ?_)
  obtain ⟨rfl, rfl⟩ := q
  refine g_putR (ci := 6) (k := 2) (o := 0) (r := 7) (t := 37) (by decide) l9_0 s_0 gp_X6_26 rfl l9_7 rfl (by first | exact ⟨_, Or.inl rfl⟩ | exact ⟨"", Or.inr ⟨_, rfl⟩⟩) dX6_init_34 rfl ?_
  refine Wp.eq (σ1 := (11, cI1, gRL [(0, 2, 7), (7, 4, 10), (7, 3, 9), (7, 2, 8), (0, 1, 4), (4, 2, 6), (4, 1, 5), (0, 0, 1), (1, 1, 3), (1, 0, 2)], (0, []))) rfl rfl rfl rfl ?_
  refine g_aload_n (i := 0) (r := 0) (t := 38) dX6_init_37 rfl rfl (Or.inl l9_0) rfl ?_
  refine g_new (ci := 2) (o := 11) (t := 41) gcl2 (by decide) rfl rfl l9_11 kl_X6_30 ki_X2 kn_X2 (by first | decide | exact Nat.le_trans (by decide) hE) (fun _ => rfl) (gRL_none (by decide)) rfl dX6_init_38 rfl ?_
  refine g_dup (t := 42) dX6_init_41 rfl rfl ?_
  refine g_aload_n (i := 0) (r := 0) (t := 43) dX6_init_42 rfl rfl (Or.inl l9_0) rfl ?_
  refine g_getR (ci := 6) (k := 1) (o := 0) (r := 4) (t := 46) (by decide) l9_0 s_0 gf_X6_19 rfl (by decide) l9_4 dX6_init_43 rfl ?_
  refine g_callI (o := 11) (t := 49) mX2_init rfl k_X6_32 imX2_init rfl l9_11 ct5_X2_init rfl rfl (by first | decide | exact Nat.le_trans (by decide) hE) (by decide) (by decide) (by decide) dX6_init_46 rfl (fun r σ' q _ => ?_)
  obtain ⟨rfl, rfl⟩ := q
  refine g_putR (ci := 6) (k := 3) (o := 0) (r := 11) (t := 52) (by decide) l9_0 s_0 gp_X6_35 rfl l9_11 rfl (by first | exact ⟨_, Or.inl rfl⟩ | exact ⟨"", Or.inr ⟨_, rfl⟩⟩) dX6_init_49 rfl ?_
  refine Wp.eq (σ1 := (18, cI1, gRL [(0, 3, 11), (11, 7, 4), (11, 6, 17), (11, 5, 16), (11, 4, 15), (11, 3, 14), (11, 2, 13), (11, 1, 12), (0, 2, 7), (7, 4, 10), (7, 3, 9), (7, 2, 8), (0, 1, 4), (4, 2, 6), (4, 1, 5), (0, 0, 1), (1, 1, 3), (1, 0, 2)], (0, []))) rfl rfl rfl rfl ?_
  refine g_aload_n (i := 0) (r := 0) (t := 53) dX6_init_52 rfl rfl (Or.inl l9_0) rfl ?_
  refine g_new (ci := 1) (o := 18) (t := 56) gcl1 (by decide) rfl rfl l9_18 kl_X6_39 ki_X1 kn_X1 (by first | decide | exact Nat.le_trans (by decide) hE) (fun _ => rfl) (gRL_none (by decide)) rfl dX6_init_53 rfl ?_
  refine g_dup (t := 57) dX6_init_56 rfl rfl ?_
  refine g_aload_n (i := 0) (r := 0) (t := 58) dX6_init_57 rfl rfl (Or.inl l9_0) rfl ?_
  refine g_getR (ci := 6) (k := 1) (o := 0) (r := 4) (t := 61) (by decide) l9_0 s_0 gf_X6_19 rfl (by decide) l9_4 dX6_init_58 rfl ?_
  refine g_aload_n (i := 0) (r := 0) (t := 62) dX6_init_61 rfl rfl (Or.inl l9_0) rfl ?_
  refine g_getR (ci := 6) (k := 3) (o := 0) (r := 11) (t := 65) (by decide) l9_0 s_0 gf_X6_35 rfl (by decide) l9_11 dX6_init_62 rfl ?_
  refine g_callI (o := 18) (t := 68) mX1_init rfl k_X6_41 imX1_init rfl l9_18 ct6_X1_init rfl rfl (by first | decide | exact Nat.le_trans (by decide) hE) (by decide) (by decide) (by decide) dX6_init_65 rfl (fun r σ' q _ => ?_)
  obtain ⟨rfl, rfl⟩ := q
  refine g_putR (ci := 6) (k := 4) (o := 0) (r := 18) (t := 71) (by decide) l9_0 s_0 gp_X6_44 rfl l9_18 rfl (by first | exact ⟨_, Or.inl rfl⟩ | exact ⟨"", Or.inr ⟨_, rfl⟩⟩) dX6_init_68 rfl ?_
  refine Wp.eq (σ1 := (27, cI1, gRL [(0, 4, 18), (18, 10, 11), (18, 9, 4), (18, 8, 26), (18, 7, 25), (18, 6, 24), (18, 5, 23), (18, 4, 22), (18, 3, 21), (18, 2, 20), (18, 1, 19), (0, 3, 11), (11, 7, 4), (11, 6, 17), (11, 5, 16), (11, 4, 15), (11, 3, 14), (11, 2, 13), (11, 1, 12), (0, 2, 7), (7, 4, 10), (7, 3, 9), (7, 2, 8), (0, 1, 4), (4, 2, 6), (4, 1, 5), (0, 0, 1), (1, 1, 3), (1, 0, 2)], (0, []))) rfl rfl rfl rfl ?_
  refine g_aload_n (i := 0) (r := 0) (t := 72) dX6_init_71 rfl rfl (Or.inl l9_0) rfl ?_
  refine g_new (ci := 3) (o := 27) (t := 75) gcl3 (by decide) rfl rfl l9_27 kl_X6_48 ki_X3 kn_X3 (by first | decide | exact Nat.le_trans (by decide) hE) (fun _ => rfl) (gRL_none (by decide)) rfl dX6_init_72 rfl ?_
  refine g_dup (t := 76) dX6_init_75 rfl rfl ?_
  refine g_aload_n (i := 0) (r := 0) (t := 77) dX6_init_76 rfl rfl (Or.inl l9_0) rfl ?_
  refine g_getR (ci := 6) (k := 1) (o := 0) (r := 4) (t := 80) (by decide) l9_0 s_0 gf_X6_19 rfl (by decide) l9_4 dX6_init_77 rfl ?_
  refine g_aload_n (i := 0) (r := 0) (t := 81) dX6_init_80 rfl rfl (Or.inl l9_0) rfl ?_
  refine g_getR (ci := 6) (k := 3) (o := 0) (r := 11) (t := 84) (by decide) l9_0 s_0 gf_X6_35 rfl (by decide) l9_11 dX6_init_81 rfl ?_
  refine g_aload_n (i := 0) (r := 0) (t := 85) dX6_init_84 rfl rfl (Or.inl l9_0) rfl ?_
  refine g_getR (ci := 6) (k := 4) (o := 0) (r := 18) (t := 88) (by decide) l9_0 s_0 gf_X6_44 rfl (by decide) l9_18 dX6_init_85 rfl ?_
  refine g_callI (o := 27) (t := 91) mX3_init rfl k_X6_50 imX3_init rfl l9_27 ct7_X3_init rfl rfl (by first | decide | exact Nat.le_trans (by decide) hE) (by decide) (by decide) (by decide) dX6_init_88 rfl (fun r σ' q _ => ?_)
  obtain ⟨rfl, rfl⟩ := q
  refine g_putR (ci := 6) (k := 5) (o := 0) (r := 27) (t := 94) (by decide) l9_0 s_0 gp_X6_53 rfl l9_27 rfl (by first | exact ⟨_, Or.inl rfl⟩ | exact ⟨"", Or.inr ⟨_, rfl⟩⟩) dX6_init_91 rfl ?_
  refine Wp.eq (σ1 := (32, cI1, gRL [(0, 5, 27), (27, 7, 18), (27, 6, 11), (27, 5, 4), (27, 4, 31), (27, 3, 30), (27, 2, 29), (27, 1, 28), (0, 4, 18), (18, 10, 11), (18, 9, 4), (18, 8, 26), (18, 7, 25), (18, 6, 24), (18, 5, 23), (18, 4, 22), (18, 3, 21), (18, 2, 20), (18, 1, 19), (0, 3, 11), (11, 7, 4), (11, 6, 17), (11, 5, 16), (11, 4, 15), (11, 3, 14), (11, 2, 13), (11, 1, 12), (0, 2, 7), (7, 4, 10), (7, 3, 9), (7, 2, 8), (0, 1, 4), (4, 2, 6), (4, 1, 5), (0, 0, 1), (1, 1, 3), (1, 0, 2)], (0, []))) rfl rfl rfl rfl ?_
  refine g_aload_n (i := 0) (r := 0) (t := 95) dX6_init_94 rfl rfl (Or.inl l9_0) rfl ?_
  refine g_new (ci := 1) (o := 32) (t := 98) gcl1 (by decide) rfl rfl l9_32 kl_X6_39 ki_X1 kn_X1 (by first | decide | exact Nat.le_trans (by decide) hE) (fun _ => rfl) (gRL_none (by decide)) rfl dX6_init_95 rfl ?_
  refine g_dup (t := 99) dX6_init_98 rfl rfl ?_
  refine g_aload_n (i := 0) (r := 0) (t := 100) dX6_init_99 rfl rfl (Or.inl l9_0) rfl ?_
  refine g_getR (ci := 6) (k := 1) (o := 0) (r := 4) (t := 103) (by decide) l9_0 s_0 gf_X6_19 rfl (by decide) l9_4 dX6_init_100 rfl ?_
  refine g_aload_n (i := 0) (r := 0) (t := 104) dX6_init_103 rfl rfl (Or.inl l9_0) rfl ?_
  refine g_getR (ci := 6) (k := 3) (o := 0) (r := 11) (t := 107) (by decide) l9_0 s_0 gf_X6_35 rfl (by decide) l9_11 dX6_init_104 rfl ?_
  refine g_callI (o := 32) (t := 110) mX1_init rfl k_X6_41 imX1_init rfl l9_32 ct8_X1_init rfl rfl (by first | decide | exact Nat.le_trans (by decide) hE) (by decide) (by decide) (by decide) dX6_init_107 rfl (fun r σ' q _ => ?_)
  obtain ⟨rfl, rfl⟩ := q
  refine g_putR (ci := 6) (k := 6) (o := 0) (r := 32) (t := 113) (by decide) l9_0 s_0 gp_X6_57 rfl l9_32 rfl (by first | exact ⟨_, Or.inl rfl⟩ | exact ⟨"", Or.inr ⟨_, rfl⟩⟩) dX6_init_110 rfl ?_
  refine Wp.eq (σ1 := (41, cI1, gRL [(0, 6, 32), (32, 10, 11), (32, 9, 4), (32, 8, 40), (32, 7, 39), (32, 6, 38), (32, 5, 37), (32, 4, 36), (32, 3, 35), (32, 2, 34), (32, 1, 33), (0, 5, 27), (27, 7, 18), (27, 6, 11), (27, 5, 4), (27, 4, 31), (27, 3, 30), (27, 2, 29), (27, 1, 28), (0, 4, 18), (18, 10, 11), (18, 9, 4), (18, 8, 26), (18, 7, 25), (18, 6, 24), (18, 5, 23), (18, 4, 22), (18, 3, 21), (18, 2, 20), (18, 1, 19), (0, 3, 11), (11, 7, 4), (11, 6, 17), (11, 5, 16), (11, 4, 15), (11, 3, 14), (11, 2, 13), (11, 1, 12), (0, 2, 7), (7, 4, 10), (7, 3, 9), (7, 2, 8), (0, 1, 4), (4, 2, 6), (4, 1, 5), (0, 0, 1), (1, 1, 3), (1, 0, 2)], (0, []))) rfl rfl rfl rfl ?_
  refine g_aload_n (i := 0) (r := 0) (t := 114) dX6_init_113 rfl rfl (Or.inl l9_0) rfl ?_
  refine g_iconst (t := 115) dX6_init_114 c_iconst_0 rfl ?_
  refine g_putI (ci := 6) (k := 7) (o := 0) (t := 118) (by decide) l9_0 s_0 gp_X6_60 rfl (by decide +kernel) (by decide +kernel) dX6_init_115 rfl ?_
  refine Wp.eq (σ1 := (41, cI2, gRL [(0, 6, 32), (32, 10, 11), (32, 9, 4), (32, 8, 40), (32, 7, 39), (32, 6, 38), (32, 5, 37), (32, 4, 36), (32, 3, 35), (32, 2, 34), (32, 1, 33), (0, 5, 27), (27, 7, 18), (27, 6, 11), (27, 5, 4), (27, 4, 31), (27, 3, 30), (27, 2, 29), (27, 1, 28), (0, 4, 18), (18, 10, 11), (18, 9, 4), (18, 8, 26), (18, 7, 25), (18, 6, 24), (18, 5, 23), (18, 4, 22), (18, 3, 21), (18, 2, 20), (18, 1, 19), (0, 3, 11), (11, 7, 4), (11, 6, 17), (11, 5, 16), (11, 4, 15), (11, 3, 14), (11, 2, 13), (11, 1, 12), (0, 2, 7), (7, 4, 10), (7, 3, 9), (7, 2, 8), (0, 1, 4), (4, 2, 6), (4, 1, 5), (0, 0, 1), (1, 1, 3), (1, 0, 2)], (0, []))) rfl rfl rfl rfl ?_
  exact Wp.here ⟨rfl, Or.inr (Or.inl ⟨dX6_init_118, rfl, rfl, rfl, rfl⟩)⟩
theorem law_ctor {nE : Nat} (hE : 44 ≤ nE) {K : gK} (kk : Wp E fL_law nE 24 [.ref 1000, .ref 0, .ref 41, .ref 42, .ref 43, .null, .null, .null, .null, .null] [] (44, cI2, gRL [(0, 6, 32), (32, 10, 11), (32, 9, 4), (32, 8, 40), (32, 7, 39), (32, 6, 38), (32, 5, 37), (32, 4, 36), (32, 3, 35), (32, 2, 34), (32, 1, 33), (0, 5, 27), (27, 7, 18), (27, 6, 11), (27, 5, 4), (27, 4, 31), (27, 3, 30), (27, 2, 29), (27, 1, 28), (0, 4, 18), (18, 10, 11), (18, 9, 4), (18, 8, 26), (18, 7, 25), (18, 6, 24), (18, 5, 23), (18, 4, 22), (18, 3, 21), (18, 2, 20), (18, 1, 19), (0, 3, 11), (11, 7, 4), (11, 6, 17), (11, 5, 16), (11, 4, 15), (11, 3, 14), (11, 2, 13), (11, 1, 12), (0, 2, 7), (7, 4, 10), (7, 3, 9), (7, 2, 8), (0, 1, 4), (4, 2, 6), (4, 1, 5), (0, 0, 1), (1, 1, 3), (1, 0, 2)], (0, [])) K) : Wp E fL_law nE 0 [.ref 1000, .null, .null, .null, .null, .null, .null, .null, .null, .null] [] (0, cI0, gRL [], (0, [])) K := by
  refine g_new (ci := 6) (o := 0) (t := 3) gcl6 (by decide) rfl rfl l9_0 kl_L_10 ki_X6 kn_X6 (by first | decide | exact Nat.le_trans (by decide) hE) (fun _ => rfl) (gRL_none (by decide)) rfl dL_law_0 rfl ?_
  refine g_dup (t := 4) dL_law_3 rfl rfl ?_
  refine g_callI (o := 0) (t := 7) mX6_init rfl k_L_102 imX6_init rfl l9_0 ct1_X6_init rfl rfl (by first | decide | exact Nat.le_trans (by decide) hE) (by decide) (by decide) (by decide) dL_law_4 rfl (fun r σ' q _ => ?_)
  obtain ⟨rfl, rfl⟩ := q
  refine g_astore_n (i := 1) (t := 8) (L1 := [_, _, _, _, _, _, _, _, _, _]) dL_law_7 rfl l9_0 (by decide) rfl rfl rfl ?_
  refine g_bipush (t := 10) dL_law_8 c_bipush_64 rfl ?_
  refine g_newa (at_ := .int) (kd := 0) (n := 64) (o := 41) (t := 12) rfl (by decide) ka_int (by decide) rfl rfl rfl l9_41 (nI_pos (by decide)) (nI_clamp (by decide)) (by decide) (by first | decide | exact Nat.le_trans (by decide) hE) (fun _ => rfl) dL_law_10 rfl ?_
  refine g_astore_n (i := 2) (t := 13) (L1 := [_, _, _, _, _, _, _, _, _, _]) dL_law_12 rfl l9_41 (by decide) rfl rfl rfl ?_
  refine g_bipush (t := 15) dL_law_13 c_bipush_8 rfl ?_
  refine g_newa (at_ := .int) (kd := 0) (n := 8) (o := 42) (t := 17) rfl (by decide) ka_int (by decide) rfl rfl rfl l9_42 (nI_pos (by decide)) (nI_clamp (by decide)) (by decide) (by first | decide | exact Nat.le_trans (by decide) hE) (fun _ => rfl) dL_law_15 rfl ?_
  refine g_astore_n (i := 3) (t := 18) (L1 := [_, _, _, _, _, _, _, _, _, _]) dL_law_17 rfl l9_42 (by decide) rfl rfl rfl ?_
  refine g_bipush (t := 20) dL_law_18 c_bipush_24 rfl ?_
  refine g_newa (at_ := .int) (kd := 0) (n := 24) (o := 43) (t := 22) rfl (by decide) ka_int (by decide) rfl rfl rfl l9_43 (nI_pos (by decide)) (nI_clamp (by decide)) (by decide) (by first | decide | exact Nat.le_trans (by decide) hE) (fun _ => rfl) dL_law_20 rfl ?_
  refine g_astore (i := 4) (t := 24) (L1 := [_, _, _, _, _, _, _, _, _, _]) dL_law_22 l9_43 (by decide) rfl rfl rfl ?_
  exact kk
def cRL : List (Nat × Nat × Nat) := [(0, 6, 32), (32, 10, 11), (32, 9, 4), (32, 8, 40), (32, 7, 39), (32, 6, 38), (32, 5, 37), (32, 4, 36), (32, 3, 35), (32, 2, 34), (32, 1, 33), (0, 5, 27), (27, 7, 18), (27, 6, 11), (27, 5, 4), (27, 4, 31), (27, 3, 30), (27, 2, 29), (27, 1, 28), (0, 4, 18), (18, 10, 11), (18, 9, 4), (18, 8, 26), (18, 7, 25), (18, 6, 24), (18, 5, 23), (18, 4, 22), (18, 3, 21), (18, 2, 20), (18, 1, 19), (0, 3, 11), (11, 7, 4), (11, 6, 17), (11, 5, 16), (11, 4, 15), (11, 3, 14), (11, 2, 13), (11, 1, 12), (0, 2, 7), (7, 4, 10), (7, 3, 9), (7, 2, 8), (0, 1, 4), (4, 2, 6), (4, 1, 5), (0, 0, 1), (1, 1, 3), (1, 0, 2)]
end CTOR

