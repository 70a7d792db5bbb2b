/-! LINES and the sharing of their room. Q: properties, box, width, the order -/
abbrev lQ : Type := dP × (Nat → Int32) × Int32 × (Nat → Nat)
def ob (Q : lQ) (p : Nat) : Int32 := out Q.1 (Q.2.2.2 p)
/-- the sum of the line at a place, and the line's number -/
def lnS (Q : lQ) : Nat → Int32 × Nat
  | 0 => (ob Q 0, 0)
  | p + 1 => if Q.2.1 3 = nI 1 ∧ Q.2.2.1 < (lnS Q p).1 + Q.2.1 1 + ob Q (p + 1) then (ob Q (p + 1), (lnS Q p).2 + 1) else ((lnS Q p).1 + Q.2.1 1 + ob Q (p + 1), (lnS Q p).2)
def lin (Q : lQ) (p : Nat) : Nat := (lnS Q p).2
def lsm (Q : lQ) (p : Nat) : Int32 := (lnS Q p).1
/-- the sum ahead of a place -/
def lsa (Q : lQ) : Nat → Int32
  | 0 => nI 0
  | p + 1 => lsm Q p
def nln (Q : lQ) : Nat → Nat
  | 0 => 0
  | c + 1 => lin Q c + 1
/-- how many of the first c places lie in lines ahead of l: where l begins -/
def frC (Q : lQ) : Nat → Nat → Nat
  | 0, _ => 0
  | c + 1, l => frC Q c l + (if lin Q c < l then 1 else 0)
theorem frC_out (Q : lQ) {c l : Nat} (h : ¬ lin Q c < l) : frC Q (c + 1) l = frC Q c l := by unfold frC; rw [if_neg h]; cases c <;> rfl
theorem frC_in (Q : lQ) {c l : Nat} (h : lin Q c < l) : frC Q (c + 1) l = frC Q c l + 1 := by rw [frC, if_pos h]
theorem lin_0 (Q : lQ) : lin Q 0 = 0 := rfl
theorem lin_step (Q : lQ) (p : Nat) : lin Q (p + 1) = lin Q p ∨ lin Q (p + 1) = lin Q p + 1 := by
  unfold lin
  rw [lnS]
  split
  · exact Or.inr rfl
  · exact Or.inl rfl
theorem lin_mono (Q : lQ) {p q : Nat} (h : p ≤ q) : lin Q p ≤ lin Q q := by
  induction q with
  | zero => rw [Nat.le_zero.mp h]; exact Nat.le_refl _
  | succ q ih =>
    rcases Nat.lt_or_ge q p with z | z
    · rw [show p = q + 1 by omega]; exact Nat.le_refl _
    · have := ih z
      rcases lin_step Q q with y | y <;> omega
theorem lin_le (Q : lQ) : ∀ p, lin Q p ≤ p
  | 0 => Nat.le_refl _
  | p + 1 => by
    have := lin_le Q p
    rcases lin_step Q p with y | y <;> omega
theorem nln_le (Q : lQ) : ∀ c, nln Q c ≤ c
  | 0 => Nat.le_refl _
  | c + 1 => by have := lin_le Q c; show lin Q c + 1 ≤ c + 1; omega
theorem lin_lt (Q : lQ) {p c : Nat} (h : p < c) : lin Q p < nln Q c := by
  cases c with
  | zero => omega
  | succ c => have := lin_mono Q (show p ≤ c by omega); show lin Q p < lin Q c + 1; omega
theorem frC_le (Q : lQ) : ∀ c l, frC Q c l ≤ c
  | 0, _ => Nat.le_refl _
  | c + 1, l => by have := frC_le Q c l; unfold frC; split <;> omega
theorem frC_iff (Q : lQ) : ∀ c l q, q < c → (lin Q q < l ↔ q < frC Q c l)
  | 0, _, _, h => absurd h (Nat.not_lt_zero _)
  | c + 1, l, q, h => by
    unfold frC
    by_cases z : lin Q c < l
    · rw [if_pos z]
      have hall : frC Q c l = c := by
        rcases Nat.lt_or_ge (frC Q c l) c with y | y
        · have := (frC_iff Q c l (frC Q c l) y).mp (Nat.lt_of_le_of_lt (lin_mono Q (Nat.le_of_lt y)) z)
          omega
        · have := frC_le Q c l; omega
      rw [hall]
      have := lin_mono Q (show q ≤ c by omega)
      omega
    · rw [if_neg z]
      have hle := frC_le Q c l
      by_cases y : q = c
      · subst y; omega
      · exact frC_iff Q c l q (by omega)
theorem frC_0 (Q : lQ) : ∀ c, frC Q c 0 = 0
  | 0 => rfl
  | c + 1 => by unfold frC; rw [frC_0 Q c, if_neg (Nat.not_lt_zero _)]
theorem frC_all (Q : lQ) {c l : Nat} (h : nln Q c ≤ l) : frC Q c l = c := by
  cases c with
  | zero => rfl
  | succ c =>
    have h : lin Q c + 1 ≤ l := h
    have h1 := (frC_iff Q (c + 1) l c (by omega)).mp (by omega)
    have := frC_le Q (c + 1) l
    omega
theorem frC_mono (Q : lQ) : ∀ c {l m : Nat}, l ≤ m → frC Q c l ≤ frC Q c m
  | 0, _, _, _ => Nat.le_refl _
  | c + 1, l, m, h => by
    have := frC_mono Q c h
    unfold frC
    split <;> split <;> omega
/-- every line up to the last has an item -/
theorem frC_pos (Q : lQ) : ∀ c l, l < nln Q c → frC Q c l < frC Q c (l + 1)
  | 0, l, h => absurd h (Nat.not_lt_zero _)
  | c + 1, l, h => by
    have h : l < lin Q c + 1 := h
    unfold frC
    by_cases z : l = lin Q c
    · subst z
      rw [if_neg (Nat.lt_irrefl _), if_pos (by omega)]
      have := frC_mono Q c (show lin Q c ≤ lin Q c + 1 by omega)
      omega
    · rw [if_neg (by omega), if_neg (by omega)]
      have hl : l < nln Q c := by
        cases c with
        | zero => have e := lin_0 Q; omega
        | succ c => show l < lin Q c + 1; rcases lin_step Q c with y | y <;> omega
      exact frC_pos Q c l hl
theorem frC_lin (Q : lQ) {c l q : Nat} (h : q < c) : lin Q q = l ↔ frC Q c l ≤ q ∧ q < frC Q c (l + 1) := by
  have h1 := frC_iff Q c l q h
  have h2 := frC_iff Q c (l + 1) q h
  omega
/-- sums in order -/
def smS (g : Nat → Int32) (lo : Nat) : Nat → Int32
  | 0 => nI 0
  | n + 1 => smS g lo n + g (lo + n)
def sbS (r : Int32) (g : Nat → Int32) (lo : Nat) : Nat → Int32
  | 0 => r
  | n + 1 => sbS r g lo n - g (lo + n)
theorem smS_cong {g g2 : Nat → Int32} {lo : Nat} : ∀ n, (∀ p, lo ≤ p → p < lo + n → g p = g2 p) → smS g lo n = smS g2 lo n
  | 0, _ => rfl
  | n + 1, h => by rw [smS, smS, smS_cong n (fun p a b => h p a (by omega)), h (lo + n) (by omega) (by omega)]
theorem sbS_cong {r : Int32} {g g2 : Nat → Int32} {lo : Nat} : ∀ n, (∀ p, lo ≤ p → p < lo + n → g p = g2 p) → sbS r g lo n = sbS r g2 lo n
  | 0, _ => rfl
  | n + 1, h => by rw [sbS, sbS, sbS_cong n (fun p a b => h p a (by omega)), h (lo + n) (by omega) (by omega)]
/-- one line: its items' places lo .. lo + n - 1 -/
abbrev lA : Type := lQ × Nat × Nat
def rmL (A : lA) : Int32 := sbS (A.1.2.2.1 - A.1.2.1 1 * nI (A.2.2 - 1)) (fun p => nI 2 * A.1.1 (A.1.2.2.2 p) 5) A.2.1 A.2.2
def grL (A : lA) : Bool := decide (smS (fun p => wsh A.1.1 (A.1.2.2.2 p)) A.2.1 A.2.2 < rmL A)
/-- in which pass an item was frozen, and its size -/
abbrev lZ : Type := (Nat → Option Nat) × (Nat → Int32)
def zL0 (A : lA) : lZ := (fun p => if stf A.1.1 (grL A) (A.1.2.2.2 p) then some 0 else none, fun p => wsh A.1.1 (A.1.2.2.2 p))
def feL (A : lA) (z : lZ) : Int32 := sbS (rmL A) (fun p => if z.1 p = none then A.1.1 (A.1.2.2.2 p) 0 else z.2 p) A.2.1 A.2.2
def wgL (A : lA) (z : lZ) (p : Nat) : Int32 := if z.1 p = none then wgt A.1.1 (grL A) (A.1.2.2.2 p) else nI 0
def ttL (A : lA) (z : lZ) : Int32 := smS (wgL A z) A.2.1 A.2.2
def shL (A : lA) (z : lZ) : Int32 := mx (if grL A then feL A z else -feL A z) (nI 0)
def ptS (sh s t : Int32) : Int32 := if nI 0 < t then fdv (sh * s) t else nI 0
def gtL (A : lA) (z : lZ) (p : Nat) : Int32 := ptS (shL A z) (smS (wgL A z) A.2.1 (p - A.2.1 + 1)) (ttL A z) - ptS (shL A z) (smS (wgL A z) A.2.1 (p - A.2.1)) (ttL A z)
def nzL (A : lA) (z : lZ) (p : Nat) : Int32 := A.1.1 (A.1.2.2.2 p) 0 + (if grL A then gtL A z p else -gtL A z p)
def czL (A : lA) (z : lZ) (p : Nat) : Int32 := mn (mx (nzL A z p) (A.1.1 (A.1.2.2.2 p) 3)) (grt A.1.1 (A.1.2.2.2 p))
def crL (A : lA) (z : lZ) (p : Nat) : Int32 := czL A z p - nzL A z p
def wrL (A : lA) (z : lZ) : Int32 := smS (fun p => if z.1 p = none then crL A z p else nI 0) A.2.1 A.2.2
def fzL (A : lA) (z : lZ) (p : Nat) : Bool := decide (wrL A z = 0 ∨ (0 < wrL A z ∧ 0 < crL A z p) ∨ (wrL A z < 0 ∧ crL A z p < 0))
def nxL (A : lA) (z : lZ) (t : Nat) : lZ := (fun p => if z.1 p = none then (if fzL A z p then some t else none) else z.1 p, fun p => if z.1 p = none then czL A z p else z.2 p)
def ztL (A : lA) : Nat → lZ
  | 0 => zL0 A
  | t + 1 => nxL A (ztL A t) (t + 1)
def opL (A : lA) (z : lZ) : Bool := (List.range A.2.2).any fun k => (z.1 (A.2.1 + k)).isNone
/-- the passes, at most so many -/
def psL (A : lA) : Nat → Nat → Nat
  | 0, t => t
  | k + 1, t => if opL A (ztL A t) then psL A k (t + 1) else t
def npL (A : lA) : Nat := psL A 16 0
def ovS (o : Option Nat) : Int32 := match o with
  | none => -1
  | some t => nI t
def reL (A : lA) : Int32 := sbS (rmL A) (fun p => (ztL A (npL A)).2 p) A.2.1 A.2.2
theorem opL_iff (A : lA) (z : lZ) : opL A z = true ↔ ∃ k, k < A.2.2 ∧ z.1 (A.2.1 + k) = none := by
  unfold opL
  rw [List.any_eq_true]
  constructor
  · rintro ⟨k, h1, h2⟩
    exact ⟨k, List.mem_range.mp h1, Option.isNone_iff_eq_none.mp h2⟩
  · rintro ⟨k, h1, h2⟩
    exact ⟨k, List.mem_range.mpr h1, Option.isNone_iff_eq_none.mpr h2⟩
theorem ovS_none : ∀ o : Option Nat, (∀ t, o = some t → t ≤ 16) → (ovS o = -1 ↔ o = none) := by
  intro o h
  cases o with
  | none => exact ⟨fun _ => rfl, fun _ => rfl⟩
  | some t =>
    have ht := h t rfl
    have key : ∀ t, t < 17 → ¬ nI t = -1 := by decide +kernel
    exact ⟨fun q => absurd q (key t (by omega)), fun q => by cases q⟩
theorem ztL_le (A : lA) : ∀ t p u, (ztL A t).1 p = some u → u ≤ t
  | 0, p, u, h => by
    have h : (if stf A.1.1 (grL A) (A.1.2.2.2 p) then some 0 else none) = some u := h
    split at h
    · cases h; exact Nat.le_refl _
    · cases h
  | t + 1, p, u, h => by
    have h : (if (ztL A t).1 p = none then (if fzL A (ztL A t) p then some (t + 1) else none) else (ztL A t).1 p) = some u := h
    split at h
    · split at h
      · cases h; exact Nat.le_refl _
      · cases h
    · exact Nat.le_succ_of_le (ztL_le A t p u h)

