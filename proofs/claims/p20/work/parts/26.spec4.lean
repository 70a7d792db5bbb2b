/-! THE TEXT and its reading. T: the length and the bytes -/
abbrev tT : Type := Nat × (Nat → Int32)
def byt (T : tT) (j : Nat) : Int32 := if j < T.1 then T.2 j else -1
def isD (x : Int32) : Bool := decide (nI 48 ≤ x ∧ x ≤ nI 57)
def isL (x : Int32) : Bool := decide (nI 97 ≤ x ∧ x ≤ nI 122)
def skB (T : tT) : Nat → Nat → Nat
  | 0, j => j
  | d + 1, j => if byt T j = nI 32 then skB T d (j + 1) else j
def skp (T : tT) (j : Nat) : Nat := skB T (T.1 - j) j
def ltB (T : tT) : Nat → Nat → Nat
  | 0, j => j
  | d + 1, j => if isL (byt T j) then ltB T d (j + 1) else j
def ltE (T : tT) (j : Nat) : Nat := ltB T (T.1 - j) j
def dgs (T : tT) : Nat → Nat → Int32 → Nat × Int32
  | 0, j, v => (j, v)
  | d + 1, j, v => if isD (byt T j) then dgs T d (j + 1) (v * nI 10 + byt T j - nI 48) else (j, v)
theorem byt_out {T : tT} {j : Nat} (h : T.1 ≤ j) : byt T j = -1 := if_neg (by omega)
theorem byt_lt {T : tT} {j : Nat} (h : byt T j ≠ -1) : j < T.1 := by
  apply Classical.byContradiction
  intro q
  exact h (byt_out (by omega))
theorem isD_lt {T : tT} {j : Nat} (h : isD (byt T j) = true) : j < T.1 := byt_lt fun q => by rw [q] at h; exact absurd h (by decide)
theorem isL_lt {T : tT} {j : Nat} (h : isL (byt T j) = true) : j < T.1 := byt_lt fun q => by rw [q] at h; exact absurd h (by decide)
theorem skp_at {T : tT} {j : Nat} (h : byt T j = nI 32) : skp T j = skp T (j + 1) := by
  have hj : j < T.1 := byt_lt fun q => by rw [q] at h; exact absurd h (by decide)
  unfold skp
  obtain ⟨d, hd⟩ : ∃ d, T.1 - j = d + 1 := ⟨T.1 - j - 1, by omega⟩
  rw [hd, skB, if_pos h, show T.1 - (j + 1) = d by omega]
theorem skp_no {T : tT} {j : Nat} (h : ¬ byt T j = nI 32) : skp T j = j := by
  unfold skp
  cases T.1 - j with
  | zero => rfl
  | succ d => rw [skB, if_neg h]
theorem ltE_at {T : tT} {j : Nat} (h : isL (byt T j) = true) : ltE T j = ltE T (j + 1) := by
  have hj := isL_lt h
  unfold ltE
  obtain ⟨d, hd⟩ : ∃ d, T.1 - j = d + 1 := ⟨T.1 - j - 1, by omega⟩
  rw [hd, ltB, if_pos h, show T.1 - (j + 1) = d by omega]
theorem ltE_no {T : tT} {j : Nat} (h : ¬ isL (byt T j) = true) : ltE T j = j := by
  unfold ltE
  cases T.1 - j with
  | zero => rfl
  | succ d => rw [ltB, if_neg h]
theorem skB_le (T : tT) : ∀ d j, j ≤ skB T d j ∧ skB T d j ≤ j + d
  | 0, j => ⟨Nat.le_refl _, Nat.le_refl _⟩
  | d + 1, j => by
    unfold skB
    split
    · have := skB_le T d (j + 1); omega
    · omega
theorem ltB_le (T : tT) : ∀ d j, j ≤ ltB T d j ∧ ltB T d j ≤ j + d
  | 0, j => ⟨Nat.le_refl _, Nat.le_refl _⟩
  | d + 1, j => by
    unfold ltB
    split
    · have := ltB_le T d (j + 1); omega
    · omega
theorem skp_le {T : tT} {j : Nat} (h : j ≤ T.1) : j ≤ skp T j ∧ skp T j ≤ T.1 := by
  have := skB_le T (T.1 - j) j
  unfold skp; omega
theorem ltE_le {T : tT} {j : Nat} (h : j ≤ T.1) : j ≤ ltE T j ∧ ltE T j ≤ T.1 := by
  have := ltB_le T (T.1 - j) j
  unfold ltE; omega
theorem dgs_le (T : tT) : ∀ d j v, j ≤ T.1 → j ≤ (dgs T d j v).1 ∧ (dgs T d j v).1 ≤ T.1
  | 0, j, v, h => ⟨Nat.le_refl _, h⟩
  | d + 1, j, v, h => by
    unfold dgs
    by_cases q : isD (byt T j) = true
    · have := dgs_le T d (j + 1) (v * nI 10 + byt T j - nI 48) (isD_lt q)
      rw [if_pos q]; omega
    · rw [if_neg q]; exact ⟨Nat.le_refl _, h⟩
def lwt (w : Nat) : Int32 := (gst.getD 0 ("", [])).2.getD w 0
def hwt (w : Nat) : Int32 := (gst.getD 1 ("", [])).2.getD w 0
def uwt (w : Nat) : Int32 := (gst.getD 2 ("", [])).2.getD w 0
/-- a number, behind the blanks: the fault, or the value and where one stands then -/
def ngN (T : tT) (w j : Nat) : Bool := decide (w = 6 ∧ byt T j = nI 45)
def fdN (T : tT) (w j : Nat) : Nat := if ngN T w j then j + 1 else j
def dgN (T : tT) (w j : Nat) : Nat × Int32 := dgs T 3 (fdN T w j) (nI 0)
def vlN (T : tT) (w j : Nat) : Int32 := if ngN T w j then -(dgN T w j).2 else (dgN T w j).2
def ftN (T : tT) (w j : Nat) : Option Nat := if (dgN T w j).1 = fdN T w j then some (fdN T w j) else if vlN T w j < lwt w ∨ hwt w < vlN T w j then some j else if isD (byt T (dgN T w j).1) then some (dgN T w j).1 else none
def nxN (T : tT) (w j : Nat) : Nat := skp T (dgN T w j).1
theorem fdN_le {T : tT} {w j : Nat} (h : j ≤ T.1) : j ≤ fdN T w j ∧ fdN T w j ≤ T.1 := by
  unfold fdN
  by_cases q : ngN T w j = true
  · have : j < T.1 := byt_lt fun z => by
      have := of_decide_eq_true q
      rw [z] at this
      exact absurd this.2 (by decide)
    rw [if_pos q]; omega
  · rw [if_neg q]; omega
theorem dgN_le {T : tT} {w j : Nat} (h : j ≤ T.1) : fdN T w j ≤ (dgN T w j).1 ∧ (dgN T w j).1 ≤ T.1 := dgs_le T 3 _ _ (fdN_le h).2
theorem nxN_le {T : tT} {w j : Nat} (h : j ≤ T.1) (hf : ftN T w j = none) : j < nxN T w j ∧ nxN T w j ≤ T.1 := by
  have h1 := fdN_le (w := w) h
  have h2 := dgN_le (w := w) h
  have h3 := skp_le h2.2
  unfold ftN at hf
  by_cases q : (dgN T w j).1 = fdN T w j
  · rw [if_pos q] at hf; exact absurd hf (by simp)
  · unfold nxN; omega
/-- the word between j and e -/
def mtc (T : tT) (j e i : Nat) : Bool := decide ((wds i).length = e - j ∧ ∀ k, k < (wds i).length → (wds i).getD k 0 = byt T (j + k))
theorem mtc_iff (T : tT) (j e i : Nat) : mtc T j e i = true ↔ ((wds i).length = e - j ∧ ∀ k, k < (wds i).length → (wds i).getD k 0 = byt T (j + k)) := decide_eq_true_iff
theorem wds_ne : ∀ a, a < 9 → ∀ b, b < 9 → (wds a).length = (wds b).length → (∀ k, k < (wds a).length → (wds a).getD k 0 = (wds b).getD k 0) → a = b := by decide +kernel
theorem mtc_one {T : tT} {j e a b : Nat} (ha : a < 9) (hb : b < 9) (h1 : mtc T j e a = true) (h2 : mtc T j e b = true) : a = b := by
  obtain ⟨p1, p2⟩ := (mtc_iff _ _ _ _).mp h1
  obtain ⟨q1, q2⟩ := (mtc_iff _ _ _ _).mp h2
  exact wds_ne a ha b hb (p1.trans q1.symm) fun k hk => (p2 k hk).trans (q2 k (by omega)).symm
/-- the word's property, 0 if there is none -/
def wdO (T : tT) (j e : Nat) : Nat → Nat → Nat
  | 0, _ => 0
  | d + 1, i => if mtc T j e i then i + 1 else wdO T j e d (i + 1)
def bitW (sd : Int32) (w : Nat) : Int32 := sd >>> (nI w &&& 31) &&& nI 1
def orW (sd : Int32) (w : Nat) : Int32 := sd ||| nI 1 <<< (nI w &&& 31)
/-- the parts: the fault and the values -/
def prs (T : tT) : Nat → Int32 → (Nat → Int32) → Nat → Option Nat × (Nat → Int32)
  | 0, _, vs, _ => (none, vs)
  | d + 1, sd, vs, j =>
    if T.1 ≤ j then (none, vs)
    else if wdO T j (ltE T j) 9 0 = 0 ∨ ¬ bitW sd (wdO T j (ltE T j) 9 0) = 0 then (some j, vs)
    else match ftN T (wdO T j (ltE T j) 9 0) (skp T (ltE T j)) with
      | some f => (some f, vs)
      | none => prs T d (orW sd (wdO T j (ltE T j) 9 0)) (upd vs (wdO T j (ltE T j) 9 0) (vlN T (wdO T j (ltE T j) 9 0) (skp T (ltE T j)))) (nxN T (wdO T j (ltE T j) 9 0) (skp T (ltE T j)))
def rdT (T : tT) : Option Nat × (Nat → Int32) :=
  match ftN T 0 (skp T 0) with
  | some f => (some f, uwt)
  | none => prs T 80 (nI 0) (upd uwt 0 (vlN T 0 (skp T 0))) (nxN T 0 (skp T 0))
theorem wdO_lt (T : tT) (j e : Nat) : ∀ d i, wdO T j e d i ≤ i + d
  | 0, i => Nat.zero_le _
  | d + 1, i => by
    unfold wdO
    split
    · omega
    · have := wdO_lt T j e d (i + 1); omega
theorem wdO_no {T : tT} {j e : Nat} : ∀ d i, (∀ k, i ≤ k → k < i + d → mtc T j e k = false) → wdO T j e d i = 0
  | 0, i, _ => rfl
  | d + 1, i, h => by
    rw [wdO, if_neg (by rw [h i (Nat.le_refl _) (by omega)]; decide)]
    exact wdO_no d (i + 1) fun k h1 h2 => h k (by omega) (by omega)
theorem wdO_at {T : tT} {j e k : Nat} (hk : mtc T j e k = true) (h9 : k < 9) : ∀ d i, i + d = 9 → i ≤ k → wdO T j e d i = k + 1
  | 0, i, h1, h2 => by omega
  | d + 1, i, h1, h2 => by
    unfold wdO
    by_cases q : mtc T j e i = true
    · rw [if_pos q, mtc_one (by omega) h9 q hk]
    · rw [if_neg q]
      refine wdO_at hk h9 d (i + 1) (by omega) ?_
      have : i ≠ k := fun z => q (z ▸ hk)
      omega

