/-! the law's switch -/
section SW17
variable {E : gE} {F : gF} {nE pc : Nat} {L st : List Value} {σ : gS} {K : gK}
theorem g_sw17 {l td t0 t1 t2 t3 t4 t5 t6 t7 t8 t9 t10 t11 t12 t13 t14 t15 t16 : Nat} {dflt lo hi o0 o1 o2 o3 o4 o5 o6 o7 o8 o9 o10 o11 o12 o13 o14 o15 o16 : Int} {len : Nat} {x : Int32} (hl : l < 1000) (d : decode F.2.1 pc = .ok (.tableswitch dflt lo hi #[o0, o1, o2, o3, o4, o5, o6, o7, o8, o9, o10, o11, o12, o13, o14, o15, o16], len)) (hlo : lo = (l : Int)) (hhi : hi = (l : Int) + 16) (e0 : (pc : Int) + o0 = (t0 : Int)) (e1 : (pc : Int) + o1 = (t1 : Int)) (e2 : (pc : Int) + o2 = (t2 : Int)) (e3 : (pc : Int) + o3 = (t3 : Int)) (e4 : (pc : Int) + o4 = (t4 : Int)) (e5 : (pc : Int) + o5 = (t5 : Int)) (e6 : (pc : Int) + o6 = (t6 : Int)) (e7 : (pc : Int) + o7 = (t7 : Int)) (e8 : (pc : Int) + o8 = (t8 : Int)) (e9 : (pc : Int) + o9 = (t9 : Int)) (e10 : (pc : Int) + o10 = (t10 : Int)) (e11 : (pc : Int) + o11 = (t11 : Int)) (e12 : (pc : Int) + o12 = (t12 : Int)) (e13 : (pc : Int) + o13 = (t13 : Int)) (e14 : (pc : Int) + o14 = (t14 : Int)) (e15 : (pc : Int) + o15 = (t15 : Int)) (e16 : (pc : Int) + o16 = (t16 : Int)) (ed : (pc : Int) + dflt = (td : Int)) (k0 : x = nI (l + 0) → Wp E F nE t0 L st σ K) (k1 : x = nI (l + 1) → Wp E F nE t1 L st σ K) (k2 : x = nI (l + 2) → Wp E F nE t2 L st σ K) (k3 : x = nI (l + 3) → Wp E F nE t3 L st σ K) (k4 : x = nI (l + 4) → Wp E F nE t4 L st σ K) (k5 : x = nI (l + 5) → Wp E F nE t5 L st σ K) (k6 : x = nI (l + 6) → Wp E F nE t6 L st σ K) (k7 : x = nI (l + 7) → Wp E F nE t7 L st σ K) (k8 : x = nI (l + 8) → Wp E F nE t8 L st σ K) (k9 : x = nI (l + 9) → Wp E F nE t9 L st σ K) (k10 : x = nI (l + 10) → Wp E F nE t10 L st σ K) (k11 : x = nI (l + 11) → Wp E F nE t11 L st σ K) (k12 : x = nI (l + 12) → Wp E F nE t12 L st σ K) (k13 : x = nI (l + 13) → Wp E F nE t13 L st σ K) (k14 : x = nI (l + 14) → Wp E F nE t14 L st σ K) (k15 : x = nI (l + 15) → Wp E F nE t15 L st σ K) (k16 : x = nI (l + 16) → Wp E F nE t16 L st σ K) (kd : (∀ j, j < 17 → ¬ x = nI (l + j)) → Wp E F nE td L st σ K) : Wp E F nE pc L (.int x :: st) σ K := by
  subst hlo; subst hhi
  by_cases c0 : x = nI (l + 0)
  · have z : x.toInt = (l : Int) + 0 := by rw [c0, nI_toInt (by omega)]; omega
    exact g_switchIn (off := o0) d (by omega) (by omega) (by rw [z, show ((l : Int) + 0 - (l : Int)).toNat = 0 by omega]; rfl) e0 (k0 c0)
  by_cases c1 : x = nI (l + 1)
  · have z : x.toInt = (l : Int) + 1 := by rw [c1, nI_toInt (by omega)]; omega
    exact g_switchIn (off := o1) d (by omega) (by omega) (by rw [z, show ((l : Int) + 1 - (l : Int)).toNat = 1 by omega]; rfl) e1 (k1 c1)
  by_cases c2 : x = nI (l + 2)
  · have z : x.toInt = (l : Int) + 2 := by rw [c2, nI_toInt (by omega)]; omega
    exact g_switchIn (off := o2) d (by omega) (by omega) (by rw [z, show ((l : Int) + 2 - (l : Int)).toNat = 2 by omega]; rfl) e2 (k2 c2)
  by_cases c3 : x = nI (l + 3)
  · have z : x.toInt = (l : Int) + 3 := by rw [c3, nI_toInt (by omega)]; omega
    exact g_switchIn (off := o3) d (by omega) (by omega) (by rw [z, show ((l : Int) + 3 - (l : Int)).toNat = 3 by omega]; rfl) e3 (k3 c3)
  by_cases c4 : x = nI (l + 4)
  · have z : x.toInt = (l : Int) + 4 := by rw [c4, nI_toInt (by omega)]; omega
    exact g_switchIn (off := o4) d (by omega) (by omega) (by rw [z, show ((l : Int) + 4 - (l : Int)).toNat = 4 by omega]; rfl) e4 (k4 c4)
  by_cases c5 : x = nI (l + 5)
  · have z : x.toInt = (l : Int) + 5 := by rw [c5, nI_toInt (by omega)]; omega
    exact g_switchIn (off := o5) d (by omega) (by omega) (by rw [z, show ((l : Int) + 5 - (l : Int)).toNat = 5 by omega]; rfl) e5 (k5 c5)
  by_cases c6 : x = nI (l + 6)
  · have z : x.toInt = (l : Int) + 6 := by rw [c6, nI_toInt (by omega)]; omega
    exact g_switchIn (off := o6) d (by omega) (by omega) (by rw [z, show ((l : Int) + 6 - (l : Int)).toNat = 6 by omega]; rfl) e6 (k6 c6)
  by_cases c7 : x = nI (l + 7)
  · have z : x.toInt = (l : Int) + 7 := by rw [c7, nI_toInt (by omega)]; omega
    exact g_switchIn (off := o7) d (by omega) (by omega) (by rw [z, show ((l : Int) + 7 - (l : Int)).toNat = 7 by omega]; rfl) e7 (k7 c7)
  by_cases c8 : x = nI (l + 8)
  · have z : x.toInt = (l : Int) + 8 := by rw [c8, nI_toInt (by omega)]; omega
    exact g_switchIn (off := o8) d (by omega) (by omega) (by rw [z, show ((l : Int) + 8 - (l : Int)).toNat = 8 by omega]; rfl) e8 (k8 c8)
  by_cases c9 : x = nI (l + 9)
  · have z : x.toInt = (l : Int) + 9 := by rw [c9, nI_toInt (by omega)]; omega
    exact g_switchIn (off := o9) d (by omega) (by omega) (by rw [z, show ((l : Int) + 9 - (l : Int)).toNat = 9 by omega]; rfl) e9 (k9 c9)
  by_cases c10 : x = nI (l + 10)
  · have z : x.toInt = (l : Int) + 10 := by rw [c10, nI_toInt (by omega)]; omega
    exact g_switchIn (off := o10) d (by omega) (by omega) (by rw [z, show ((l : Int) + 10 - (l : Int)).toNat = 10 by omega]; rfl) e10 (k10 c10)
  by_cases c11 : x = nI (l + 11)
  · have z : x.toInt = (l : Int) + 11 := by rw [c11, nI_toInt (by omega)]; omega
    exact g_switchIn (off := o11) d (by omega) (by omega) (by rw [z, show ((l : Int) + 11 - (l : Int)).toNat = 11 by omega]; rfl) e11 (k11 c11)
  by_cases c12 : x = nI (l + 12)
  · have z : x.toInt = (l : Int) + 12 := by rw [c12, nI_toInt (by omega)]; omega
    exact g_switchIn (off := o12) d (by omega) (by omega) (by rw [z, show ((l : Int) + 12 - (l : Int)).toNat = 12 by omega]; rfl) e12 (k12 c12)
  by_cases c13 : x = nI (l + 13)
  · have z : x.toInt = (l : Int) + 13 := by rw [c13, nI_toInt (by omega)]; omega
    exact g_switchIn (off := o13) d (by omega) (by omega) (by rw [z, show ((l : Int) + 13 - (l : Int)).toNat = 13 by omega]; rfl) e13 (k13 c13)
  by_cases c14 : x = nI (l + 14)
  · have z : x.toInt = (l : Int) + 14 := by rw [c14, nI_toInt (by omega)]; omega
    exact g_switchIn (off := o14) d (by omega) (by omega) (by rw [z, show ((l : Int) + 14 - (l : Int)).toNat = 14 by omega]; rfl) e14 (k14 c14)
  by_cases c15 : x = nI (l + 15)
  · have z : x.toInt = (l : Int) + 15 := by rw [c15, nI_toInt (by omega)]; omega
    exact g_switchIn (off := o15) d (by omega) (by omega) (by rw [z, show ((l : Int) + 15 - (l : Int)).toNat = 15 by omega]; rfl) e15 (k15 c15)
  by_cases c16 : x = nI (l + 16)
  · have z : x.toInt = (l : Int) + 16 := by rw [c16, nI_toInt (by omega)]; omega
    exact g_switchIn (off := o16) d (by omega) (by omega) (by rw [z, show ((l : Int) + 16 - (l : Int)).toNat = 16 by omega]; rfl) e16 (k16 c16)
  have hn : ∀ j, j < 17 → ¬ x = nI (l + j) := by
    intro j hj
    match j, hj with
    | 0, _ => exact c0
    | 1, _ => exact c1
    | 2, _ => exact c2
    | 3, _ => exact c3
    | 4, _ => exact c4
    | 5, _ => exact c5
    | 6, _ => exact c6
    | 7, _ => exact c7
    | 8, _ => exact c8
    | 9, _ => exact c9
    | 10, _ => exact c10
    | 11, _ => exact c11
    | 12, _ => exact c12
    | 13, _ => exact c13
    | 14, _ => exact c14
    | 15, _ => exact c15
    | 16, _ => exact c16
    | j + 17, hj => exact absurd hj (by omega)
  refine g_switchOut d ?_ ed (kd hn)
  apply Classical.byContradiction
  intro q
  have q1 : (l : Int) ≤ x.toInt ∧ x.toInt ≤ (l : Int) + 16 := by omega
  obtain ⟨j, hj⟩ : ∃ j : Nat, x.toInt = (l : Int) + j := ⟨(x.toInt - l).toNat, by omega⟩
  refine hn j (by omega) ?_
  apply Int32.toInt_inj.mp
  rw [hj, nI_toInt (by omega)]
  omega
end SW17

