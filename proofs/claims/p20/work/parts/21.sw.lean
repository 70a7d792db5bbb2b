/-! switches -/
section SW
variable {E : gE} {F : gF} {nE pc : Nat} {L st : List Value} {σ : gS} {K : gK}
theorem g_sw3 {l td t0 t1 t2 : Nat} {dflt lo hi o0 o1 o2 : Int} {len : Nat} {x : Int32} (hl : l < 1000) (d : decode F.2.1 pc = .ok (.tableswitch dflt lo hi #[o0, o1, o2], len)) (hlo : lo = (l : Int)) (hhi : hi = (l : Int) + 2) (e0 : (pc : Int) + o0 = (t0 : Int)) (e1 : (pc : Int) + o1 = (t1 : Int)) (e2 : (pc : Int) + o2 = (t2 : Int)) (ed : (pc : Int) + dflt = (td : Int)) (k0 : x = nI (l + 0) → Wp E F nE t0 L st σ K) (k1 : x = nI (l + 1) → Wp E F nE t1 L st σ K) (k2 : x = nI (l + 2) → Wp E F nE t2 L st σ K) (kd : (∀ j, j < 3 → ¬ x = nI (l + j)) → Wp E F nE td L st σ K) : Wp E F nE pc L (.int x :: st) σ K := by
  subst hlo; subst hhi
  by_cases c0 : x = nI (l + 0)
  · have z : x.toInt = (l : Int) + 0 := by rw [c0, nI_toInt (by omega)]; omega
    exact g_switchIn (off := o0) d (by omega) (by omega) (by rw [z, show ((l : Int) + 0 - (l : Int)).toNat = 0 by omega]; rfl) e0 (k0 c0)
  by_cases c1 : x = nI (l + 1)
  · have z : x.toInt = (l : Int) + 1 := by rw [c1, nI_toInt (by omega)]; omega
    exact g_switchIn (off := o1) d (by omega) (by omega) (by rw [z, show ((l : Int) + 1 - (l : Int)).toNat = 1 by omega]; rfl) e1 (k1 c1)
  by_cases c2 : x = nI (l + 2)
  · have z : x.toInt = (l : Int) + 2 := by rw [c2, nI_toInt (by omega)]; omega
    exact g_switchIn (off := o2) d (by omega) (by omega) (by rw [z, show ((l : Int) + 2 - (l : Int)).toNat = 2 by omega]; rfl) e2 (k2 c2)
  have hn : ∀ j, j < 3 → ¬ x = nI (l + j) := by
    intro j hj
    match j, hj with
    | 0, _ => exact c0
    | 1, _ => exact c1
    | 2, _ => exact c2
    | j + 3, hj => exact absurd hj (by omega)
  refine g_switchOut d ?_ ed (kd hn)
  apply Classical.byContradiction
  intro q
  have q1 : (l : Int) ≤ x.toInt ∧ x.toInt ≤ (l : Int) + 2 := by omega
  obtain ⟨j, hj⟩ : ∃ j : Nat, x.toInt = (l : Int) + j := ⟨(x.toInt - l).toNat, by omega⟩
  refine hn j (by omega) ?_
  apply Int32.toInt_inj.mp
  rw [hj, nI_toInt (by omega)]
  omega
theorem g_sw5 {l td t0 t1 t2 t3 t4 : Nat} {dflt lo hi o0 o1 o2 o3 o4 : Int} {len : Nat} {x : Int32} (hl : l < 1000) (d : decode F.2.1 pc = .ok (.tableswitch dflt lo hi #[o0, o1, o2, o3, o4], len)) (hlo : lo = (l : Int)) (hhi : hi = (l : Int) + 4) (e0 : (pc : Int) + o0 = (t0 : Int)) (e1 : (pc : Int) + o1 = (t1 : Int)) (e2 : (pc : Int) + o2 = (t2 : Int)) (e3 : (pc : Int) + o3 = (t3 : Int)) (e4 : (pc : Int) + o4 = (t4 : Int)) (ed : (pc : Int) + dflt = (td : Int)) (k0 : x = nI (l + 0) → Wp E F nE t0 L st σ K) (k1 : x = nI (l + 1) → Wp E F nE t1 L st σ K) (k2 : x = nI (l + 2) → Wp E F nE t2 L st σ K) (k3 : x = nI (l + 3) → Wp E F nE t3 L st σ K) (k4 : x = nI (l + 4) → Wp E F nE t4 L st σ K) (kd : (∀ j, j < 5 → ¬ x = nI (l + j)) → Wp E F nE td L st σ K) : Wp E F nE pc L (.int x :: st) σ K := by
  subst hlo; subst hhi
  by_cases c0 : x = nI (l + 0)
  · have z : x.toInt = (l : Int) + 0 := by rw [c0, nI_toInt (by omega)]; omega
    exact g_switchIn (off := o0) d (by omega) (by omega) (by rw [z, show ((l : Int) + 0 - (l : Int)).toNat = 0 by omega]; rfl) e0 (k0 c0)
  by_cases c1 : x = nI (l + 1)
  · have z : x.toInt = (l : Int) + 1 := by rw [c1, nI_toInt (by omega)]; omega
    exact g_switchIn (off := o1) d (by omega) (by omega) (by rw [z, show ((l : Int) + 1 - (l : Int)).toNat = 1 by omega]; rfl) e1 (k1 c1)
  by_cases c2 : x = nI (l + 2)
  · have z : x.toInt = (l : Int) + 2 := by rw [c2, nI_toInt (by omega)]; omega
    exact g_switchIn (off := o2) d (by omega) (by omega) (by rw [z, show ((l : Int) + 2 - (l : Int)).toNat = 2 by omega]; rfl) e2 (k2 c2)
  by_cases c3 : x = nI (l + 3)
  · have z : x.toInt = (l : Int) + 3 := by rw [c3, nI_toInt (by omega)]; omega
    exact g_switchIn (off := o3) d (by omega) (by omega) (by rw [z, show ((l : Int) + 3 - (l : Int)).toNat = 3 by omega]; rfl) e3 (k3 c3)
  by_cases c4 : x = nI (l + 4)
  · have z : x.toInt = (l : Int) + 4 := by rw [c4, nI_toInt (by omega)]; omega
    exact g_switchIn (off := o4) d (by omega) (by omega) (by rw [z, show ((l : Int) + 4 - (l : Int)).toNat = 4 by omega]; rfl) e4 (k4 c4)
  have hn : ∀ j, j < 5 → ¬ x = nI (l + j) := by
    intro j hj
    match j, hj with
    | 0, _ => exact c0
    | 1, _ => exact c1
    | 2, _ => exact c2
    | 3, _ => exact c3
    | 4, _ => exact c4
    | j + 5, hj => exact absurd hj (by omega)
  refine g_switchOut d ?_ ed (kd hn)
  apply Classical.byContradiction
  intro q
  have q1 : (l : Int) ≤ x.toInt ∧ x.toInt ≤ (l : Int) + 4 := by omega
  obtain ⟨j, hj⟩ : ∃ j : Nat, x.toInt = (l : Int) + j := ⟨(x.toInt - l).toNat, by omega⟩
  refine hn j (by omega) ?_
  apply Int32.toInt_inj.mp
  rw [hj, nI_toInt (by omega)]
  omega
theorem g_sw7 {l td t0 t1 t2 t3 t4 t5 t6 : Nat} {dflt lo hi o0 o1 o2 o3 o4 o5 o6 : Int} {len : Nat} {x : Int32} (hl : l < 1000) (d : decode F.2.1 pc = .ok (.tableswitch dflt lo hi #[o0, o1, o2, o3, o4, o5, o6], len)) (hlo : lo = (l : Int)) (hhi : hi = (l : Int) + 6) (e0 : (pc : Int) + o0 = (t0 : Int)) (e1 : (pc : Int) + o1 = (t1 : Int)) (e2 : (pc : Int) + o2 = (t2 : Int)) (e3 : (pc : Int) + o3 = (t3 : Int)) (e4 : (pc : Int) + o4 = (t4 : Int)) (e5 : (pc : Int) + o5 = (t5 : Int)) (e6 : (pc : Int) + o6 = (t6 : Int)) (ed : (pc : Int) + dflt = (td : Int)) (k0 : x = nI (l + 0) → Wp E F nE t0 L st σ K) (k1 : x = nI (l + 1) → Wp E F nE t1 L st σ K) (k2 : x = nI (l + 2) → Wp E F nE t2 L st σ K) (k3 : x = nI (l + 3) → Wp E F nE t3 L st σ K) (k4 : x = nI (l + 4) → Wp E F nE t4 L st σ K) (k5 : x = nI (l + 5) → Wp E F nE t5 L st σ K) (k6 : x = nI (l + 6) → Wp E F nE t6 L st σ K) (kd : (∀ j, j < 7 → ¬ x = nI (l + j)) → Wp E F nE td L st σ K) : Wp E F nE pc L (.int x :: st) σ K := by
  subst hlo; subst hhi
  by_cases c0 : x = nI (l + 0)
  · have z : x.toInt = (l : Int) + 0 := by rw [c0, nI_toInt (by omega)]; omega
    exact g_switchIn (off := o0) d (by omega) (by omega) (by rw [z, show ((l : Int) + 0 - (l : Int)).toNat = 0 by omega]; rfl) e0 (k0 c0)
  by_cases c1 : x = nI (l + 1)
  · have z : x.toInt = (l : Int) + 1 := by rw [c1, nI_toInt (by omega)]; omega
    exact g_switchIn (off := o1) d (by omega) (by omega) (by rw [z, show ((l : Int) + 1 - (l : Int)).toNat = 1 by omega]; rfl) e1 (k1 c1)
  by_cases c2 : x = nI (l + 2)
  · have z : x.toInt = (l : Int) + 2 := by rw [c2, nI_toInt (by omega)]; omega
    exact g_switchIn (off := o2) d (by omega) (by omega) (by rw [z, show ((l : Int) + 2 - (l : Int)).toNat = 2 by omega]; rfl) e2 (k2 c2)
  by_cases c3 : x = nI (l + 3)
  · have z : x.toInt = (l : Int) + 3 := by rw [c3, nI_toInt (by omega)]; omega
    exact g_switchIn (off := o3) d (by omega) (by omega) (by rw [z, show ((l : Int) + 3 - (l : Int)).toNat = 3 by omega]; rfl) e3 (k3 c3)
  by_cases c4 : x = nI (l + 4)
  · have z : x.toInt = (l : Int) + 4 := by rw [c4, nI_toInt (by omega)]; omega
    exact g_switchIn (off := o4) d (by omega) (by omega) (by rw [z, show ((l : Int) + 4 - (l : Int)).toNat = 4 by omega]; rfl) e4 (k4 c4)
  by_cases c5 : x = nI (l + 5)
  · have z : x.toInt = (l : Int) + 5 := by rw [c5, nI_toInt (by omega)]; omega
    exact g_switchIn (off := o5) d (by omega) (by omega) (by rw [z, show ((l : Int) + 5 - (l : Int)).toNat = 5 by omega]; rfl) e5 (k5 c5)
  by_cases c6 : x = nI (l + 6)
  · have z : x.toInt = (l : Int) + 6 := by rw [c6, nI_toInt (by omega)]; omega
    exact g_switchIn (off := o6) d (by omega) (by omega) (by rw [z, show ((l : Int) + 6 - (l : Int)).toNat = 6 by omega]; rfl) e6 (k6 c6)
  have hn : ∀ j, j < 7 → ¬ x = nI (l + j) := by
    intro j hj
    match j, hj with
    | 0, _ => exact c0
    | 1, _ => exact c1
    | 2, _ => exact c2
    | 3, _ => exact c3
    | 4, _ => exact c4
    | 5, _ => exact c5
    | 6, _ => exact c6
    | j + 7, hj => exact absurd hj (by omega)
  refine g_switchOut d ?_ ed (kd hn)
  apply Classical.byContradiction
  intro q
  have q1 : (l : Int) ≤ x.toInt ∧ x.toInt ≤ (l : Int) + 6 := by omega
  obtain ⟨j, hj⟩ : ∃ j : Nat, x.toInt = (l : Int) + j := ⟨(x.toInt - l).toNat, by omega⟩
  refine hn j (by omega) ?_
  apply Int32.toInt_inj.mp
  rw [hj, nI_toInt (by omega)]
  omega
theorem g_sw8 {l td t0 t1 t2 t3 t4 t5 t6 t7 : Nat} {dflt lo hi o0 o1 o2 o3 o4 o5 o6 o7 : Int} {len : Nat} {x : Int32} (hl : l < 1000) (d : decode F.2.1 pc = .ok (.tableswitch dflt lo hi #[o0, o1, o2, o3, o4, o5, o6, o7], len)) (hlo : lo = (l : Int)) (hhi : hi = (l : Int) + 7) (e0 : (pc : Int) + o0 = (t0 : Int)) (e1 : (pc : Int) + o1 = (t1 : Int)) (e2 : (pc : Int) + o2 = (t2 : Int)) (e3 : (pc : Int) + o3 = (t3 : Int)) (e4 : (pc : Int) + o4 = (t4 : Int)) (e5 : (pc : Int) + o5 = (t5 : Int)) (e6 : (pc : Int) + o6 = (t6 : Int)) (e7 : (pc : Int) + o7 = (t7 : Int)) (ed : (pc : Int) + dflt = (td : Int)) (k0 : x = nI (l + 0) → Wp E F nE t0 L st σ K) (k1 : x = nI (l + 1) → Wp E F nE t1 L st σ K) (k2 : x = nI (l + 2) → Wp E F nE t2 L st σ K) (k3 : x = nI (l + 3) → Wp E F nE t3 L st σ K) (k4 : x = nI (l + 4) → Wp E F nE t4 L st σ K) (k5 : x = nI (l + 5) → Wp E F nE t5 L st σ K) (k6 : x = nI (l + 6) → Wp E F nE t6 L st σ K) (k7 : x = nI (l + 7) → Wp E F nE t7 L st σ K) (kd : (∀ j, j < 8 → ¬ x = nI (l + j)) → Wp E F nE td L st σ K) : Wp E F nE pc L (.int x :: st) σ K := by
  subst hlo; subst hhi
  by_cases c0 : x = nI (l + 0)
  · have z : x.toInt = (l : Int) + 0 := by rw [c0, nI_toInt (by omega)]; omega
    exact g_switchIn (off := o0) d (by omega) (by omega) (by rw [z, show ((l : Int) + 0 - (l : Int)).toNat = 0 by omega]; rfl) e0 (k0 c0)
  by_cases c1 : x = nI (l + 1)
  · have z : x.toInt = (l : Int) + 1 := by rw [c1, nI_toInt (by omega)]; omega
    exact g_switchIn (off := o1) d (by omega) (by omega) (by rw [z, show ((l : Int) + 1 - (l : Int)).toNat = 1 by omega]; rfl) e1 (k1 c1)
  by_cases c2 : x = nI (l + 2)
  · have z : x.toInt = (l : Int) + 2 := by rw [c2, nI_toInt (by omega)]; omega
    exact g_switchIn (off := o2) d (by omega) (by omega) (by rw [z, show ((l : Int) + 2 - (l : Int)).toNat = 2 by omega]; rfl) e2 (k2 c2)
  by_cases c3 : x = nI (l + 3)
  · have z : x.toInt = (l : Int) + 3 := by rw [c3, nI_toInt (by omega)]; omega
    exact g_switchIn (off := o3) d (by omega) (by omega) (by rw [z, show ((l : Int) + 3 - (l : Int)).toNat = 3 by omega]; rfl) e3 (k3 c3)
  by_cases c4 : x = nI (l + 4)
  · have z : x.toInt = (l : Int) + 4 := by rw [c4, nI_toInt (by omega)]; omega
    exact g_switchIn (off := o4) d (by omega) (by omega) (by rw [z, show ((l : Int) + 4 - (l : Int)).toNat = 4 by omega]; rfl) e4 (k4 c4)
  by_cases c5 : x = nI (l + 5)
  · have z : x.toInt = (l : Int) + 5 := by rw [c5, nI_toInt (by omega)]; omega
    exact g_switchIn (off := o5) d (by omega) (by omega) (by rw [z, show ((l : Int) + 5 - (l : Int)).toNat = 5 by omega]; rfl) e5 (k5 c5)
  by_cases c6 : x = nI (l + 6)
  · have z : x.toInt = (l : Int) + 6 := by rw [c6, nI_toInt (by omega)]; omega
    exact g_switchIn (off := o6) d (by omega) (by omega) (by rw [z, show ((l : Int) + 6 - (l : Int)).toNat = 6 by omega]; rfl) e6 (k6 c6)
  by_cases c7 : x = nI (l + 7)
  · have z : x.toInt = (l : Int) + 7 := by rw [c7, nI_toInt (by omega)]; omega
    exact g_switchIn (off := o7) d (by omega) (by omega) (by rw [z, show ((l : Int) + 7 - (l : Int)).toNat = 7 by omega]; rfl) e7 (k7 c7)
  have hn : ∀ j, j < 8 → ¬ x = nI (l + j) := by
    intro j hj
    match j, hj with
    | 0, _ => exact c0
    | 1, _ => exact c1
    | 2, _ => exact c2
    | 3, _ => exact c3
    | 4, _ => exact c4
    | 5, _ => exact c5
    | 6, _ => exact c6
    | 7, _ => exact c7
    | j + 8, hj => exact absurd hj (by omega)
  refine g_switchOut d ?_ ed (kd hn)
  apply Classical.byContradiction
  intro q
  have q1 : (l : Int) ≤ x.toInt ∧ x.toInt ≤ (l : Int) + 7 := by omega
  obtain ⟨j, hj⟩ : ∃ j : Nat, x.toInt = (l : Int) + j := ⟨(x.toInt - l).toNat, by omega⟩
  refine hn j (by omega) ?_
  apply Int32.toInt_inj.mp
  rw [hj, nI_toInt (by omega)]
  omega
theorem g_sw10 {l td t0 t1 t2 t3 t4 t5 t6 t7 t8 t9 : Nat} {dflt lo hi o0 o1 o2 o3 o4 o5 o6 o7 o8 o9 : Int} {len : Nat} {x : Int32} (hl : l < 1000) (d : decode F.2.1 pc = .ok (.tableswitch dflt lo hi #[o0, o1, o2, o3, o4, o5, o6, o7, o8, o9], len)) (hlo : lo = (l : Int)) (hhi : hi = (l : Int) + 9) (e0 : (pc : Int) + o0 = (t0 : Int)) (e1 : (pc : Int) + o1 = (t1 : Int)) (e2 : (pc : Int) + o2 = (t2 : Int)) (e3 : (pc : Int) + o3 = (t3 : Int)) (e4 : (pc : Int) + o4 = (t4 : Int)) (e5 : (pc : Int) + o5 = (t5 : Int)) (e6 : (pc : Int) + o6 = (t6 : Int)) (e7 : (pc : Int) + o7 = (t7 : Int)) (e8 : (pc : Int) + o8 = (t8 : Int)) (e9 : (pc : Int) + o9 = (t9 : Int)) (ed : (pc : Int) + dflt = (td : Int)) (k0 : x = nI (l + 0) → Wp E F nE t0 L st σ K) (k1 : x = nI (l + 1) → Wp E F nE t1 L st σ K) (k2 : x = nI (l + 2) → Wp E F nE t2 L st σ K) (k3 : x = nI (l + 3) → Wp E F nE t3 L st σ K) (k4 : x = nI (l + 4) → Wp E F nE t4 L st σ K) (k5 : x = nI (l + 5) → Wp E F nE t5 L st σ K) (k6 : x = nI (l + 6) → Wp E F nE t6 L st σ K) (k7 : x = nI (l + 7) → Wp E F nE t7 L st σ K) (k8 : x = nI (l + 8) → Wp E F nE t8 L st σ K) (k9 : x = nI (l + 9) → Wp E F nE t9 L st σ K) (kd : (∀ j, j < 10 → ¬ x = nI (l + j)) → Wp E F nE td L st σ K) : Wp E F nE pc L (.int x :: st) σ K := by
  subst hlo; subst hhi
  by_cases c0 : x = nI (l + 0)
  · have z : x.toInt = (l : Int) + 0 := by rw [c0, nI_toInt (by omega)]; omega
    exact g_switchIn (off := o0) d (by omega) (by omega) (by rw [z, show ((l : Int) + 0 - (l : Int)).toNat = 0 by omega]; rfl) e0 (k0 c0)
  by_cases c1 : x = nI (l + 1)
  · have z : x.toInt = (l : Int) + 1 := by rw [c1, nI_toInt (by omega)]; omega
    exact g_switchIn (off := o1) d (by omega) (by omega) (by rw [z, show ((l : Int) + 1 - (l : Int)).toNat = 1 by omega]; rfl) e1 (k1 c1)
  by_cases c2 : x = nI (l + 2)
  · have z : x.toInt = (l : Int) + 2 := by rw [c2, nI_toInt (by omega)]; omega
    exact g_switchIn (off := o2) d (by omega) (by omega) (by rw [z, show ((l : Int) + 2 - (l : Int)).toNat = 2 by omega]; rfl) e2 (k2 c2)
  by_cases c3 : x = nI (l + 3)
  · have z : x.toInt = (l : Int) + 3 := by rw [c3, nI_toInt (by omega)]; omega
    exact g_switchIn (off := o3) d (by omega) (by omega) (by rw [z, show ((l : Int) + 3 - (l : Int)).toNat = 3 by omega]; rfl) e3 (k3 c3)
  by_cases c4 : x = nI (l + 4)
  · have z : x.toInt = (l : Int) + 4 := by rw [c4, nI_toInt (by omega)]; omega
    exact g_switchIn (off := o4) d (by omega) (by omega) (by rw [z, show ((l : Int) + 4 - (l : Int)).toNat = 4 by omega]; rfl) e4 (k4 c4)
  by_cases c5 : x = nI (l + 5)
  · have z : x.toInt = (l : Int) + 5 := by rw [c5, nI_toInt (by omega)]; omega
    exact g_switchIn (off := o5) d (by omega) (by omega) (by rw [z, show ((l : Int) + 5 - (l : Int)).toNat = 5 by omega]; rfl) e5 (k5 c5)
  by_cases c6 : x = nI (l + 6)
  · have z : x.toInt = (l : Int) + 6 := by rw [c6, nI_toInt (by omega)]; omega
    exact g_switchIn (off := o6) d (by omega) (by omega) (by rw [z, show ((l : Int) + 6 - (l : Int)).toNat = 6 by omega]; rfl) e6 (k6 c6)
  by_cases c7 : x = nI (l + 7)
  · have z : x.toInt = (l : Int) + 7 := by rw [c7, nI_toInt (by omega)]; omega
    exact g_switchIn (off := o7) d (by omega) (by omega) (by rw [z, show ((l : Int) + 7 - (l : Int)).toNat = 7 by omega]; rfl) e7 (k7 c7)
  by_cases c8 : x = nI (l + 8)
  · have z : x.toInt = (l : Int) + 8 := by rw [c8, nI_toInt (by omega)]; omega
    exact g_switchIn (off := o8) d (by omega) (by omega) (by rw [z, show ((l : Int) + 8 - (l : Int)).toNat = 8 by omega]; rfl) e8 (k8 c8)
  by_cases c9 : x = nI (l + 9)
  · have z : x.toInt = (l : Int) + 9 := by rw [c9, nI_toInt (by omega)]; omega
    exact g_switchIn (off := o9) d (by omega) (by omega) (by rw [z, show ((l : Int) + 9 - (l : Int)).toNat = 9 by omega]; rfl) e9 (k9 c9)
  have hn : ∀ j, j < 10 → ¬ x = nI (l + j) := by
    intro j hj
    match j, hj with
    | 0, _ => exact c0
    | 1, _ => exact c1
    | 2, _ => exact c2
    | 3, _ => exact c3
    | 4, _ => exact c4
    | 5, _ => exact c5
    | 6, _ => exact c6
    | 7, _ => exact c7
    | 8, _ => exact c8
    | 9, _ => exact c9
    | j + 10, hj => exact absurd hj (by omega)
  refine g_switchOut d ?_ ed (kd hn)
  apply Classical.byContradiction
  intro q
  have q1 : (l : Int) ≤ x.toInt ∧ x.toInt ≤ (l : Int) + 9 := by omega
  obtain ⟨j, hj⟩ : ∃ j : Nat, x.toInt = (l : Int) + j := ⟨(x.toInt - l).toNat, by omega⟩
  refine hn j (by omega) ?_
  apply Int32.toInt_inj.mp
  rw [hj, nI_toInt (by omega)]
  omega
end SW

