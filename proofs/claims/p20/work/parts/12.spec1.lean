/-! ORDER: the items that are shown, by rank, as both sides insert them -/
theorem gi_p (p : Nat) : nI (p + 1) - nI 1 = nI p := by rw [pk_sub (by omega)]; rfl
theorem gi_s (p : Nat) : nI p + nI 1 = nI (p + 1) := nI_add _ _
def posn (rk : Nat → Int32) (r : Int32) (f : Nat → Nat) : Nat → Nat
  | 0 => 0
  | c + 1 => if r < rk (f c) then posn rk r f c else c + 1
def insA (f : Nat → Nat) (j k : Nat) : Nat → Nat := fun i => if i < j then f i else if i = j then k else f (i - 1)
def ordS (P : dP) : Nat → Nat × (Nat → Nat)
  | 0 => (0, fun _ => 0)
  | k + 1 => if P k 10 = 0 then ((ordS P k).1 + 1, insA (ordS P k).2 (posn (fun i => P i 6) (P k 6) (ordS P k).2 (ordS P k).1) k) else ordS P k
theorem posn_le (rk : Nat → Int32) (r : Int32) (f : Nat → Nat) : ∀ c, posn rk r f c ≤ c
  | 0 => Nat.le_refl _
  | c + 1 => by
    unfold posn
    split
    · exact Nat.le_trans (posn_le rk r f c) (Nat.le_succ _)
    · exact Nat.le_refl _
theorem ordS_le (P : dP) : ∀ n, (ordS P n).1 ≤ n
  | 0 => Nat.le_refl _
  | n + 1 => by
    have := ordS_le P n
    unfold ordS
    split
    · show (ordS P n).1 + 1 ≤ n + 1; omega
    · omega
theorem ordS_lt (P : dP) : ∀ n p, p < (ordS P n).1 → (ordS P n).2 p < n
  | 0, p, h => absurd h (Nat.not_lt_zero _)
  | n + 1, p, h => by
    have ih := ordS_lt P n
    have hp := posn_le (fun i => P i 6) (P n 6) (ordS P n).2 (ordS P n).1
    unfold ordS at h ⊢
    split
    · rename_i hz
      rw [if_pos hz] at h
      have h : p < (ordS P n).1 + 1 := h
      show insA _ _ _ p < n + 1
      unfold insA
      split
      · exact Nat.lt_succ_of_lt (ih p (by omega))
      · split
        · omega
        · exact Nat.lt_succ_of_lt (ih (p - 1) (by omega))
    · rename_i hz
      rw [if_neg hz] at h
      exact Nat.lt_succ_of_lt (ih p h)
/-- all that are shown are there -/
theorem ordS_all (P : dP) : ∀ n i, i < n → P i 10 = 0 → ∃ p, p < (ordS P n).1 ∧ (ordS P n).2 p = i
  | 0, i, h, _ => absurd h (Nat.not_lt_zero _)
  | n + 1, i, h, hz => by
    have hp := posn_le (fun i => P i 6) (P n 6) (ordS P n).2 (ordS P n).1
    unfold ordS
    by_cases hn : P n 10 = 0
    · rw [if_pos hn]
      show ∃ p, p < (ordS P n).1 + 1 ∧ insA _ _ _ p = i
      by_cases e : i = n
      · subst e
        exact ⟨posn (fun i => P i 6) (P i 6) (ordS P i).2 (ordS P i).1, by omega, by simp [insA]⟩
      · obtain ⟨p, h1, h2⟩ := ordS_all P n i (by omega) hz
        by_cases q : p < posn (fun i => P i 6) (P n 6) (ordS P n).2 (ordS P n).1
        · exact ⟨p, by omega, by simp [insA, q, h2]⟩
        · refine ⟨p + 1, by omega, ?_⟩
          unfold insA
          rw [if_neg (by omega), if_neg (by omega)]
          exact h2
    · rw [if_neg hn]
      have e : i ≠ n := fun e => hn (e ▸ hz)
      exact ordS_all P n i (by omega) hz
/-- and they alone -/
theorem ordS_shown (P : dP) : ∀ n p, p < (ordS P n).1 → P ((ordS P n).2 p) 10 = 0
  | 0, p, h => absurd h (Nat.not_lt_zero _)
  | n + 1, p, h => by
    have ih := ordS_shown P n
    have hp := posn_le (fun i => P i 6) (P n 6) (ordS P n).2 (ordS P n).1
    unfold ordS at h ⊢
    split
    · rename_i hz
      rw [if_pos hz] at h
      have h : p < (ordS P n).1 + 1 := h
      show P (insA _ _ _ p) 10 = 0
      unfold insA
      split
      · exact ih p (by omega)
      · split
        · exact hz
        · exact ih (p - 1) (by omega)
    · rename_i hz
      rw [if_neg hz] at h
      exact ih p h
theorem ordS_inj (P : dP) : ∀ n p q, p < (ordS P n).1 → q < (ordS P n).1 → (ordS P n).2 p = (ordS P n).2 q → p = q
  | 0, p, q, h, _, _ => absurd h (Nat.not_lt_zero _)
  | n + 1, p, q, h1, h2, h3 => by
    have ih := ordS_inj P n
    have lt := ordS_lt P n
    have hp := posn_le (fun i => P i 6) (P n 6) (ordS P n).2 (ordS P n).1
    unfold ordS at h1 h2 h3
    by_cases hz : P n 10 = 0
    · rw [if_pos hz] at h1 h2 h3
      have h1 : p < (ordS P n).1 + 1 := h1
      have h2 : q < (ordS P n).1 + 1 := h2
      have h3 : insA (ordS P n).2 (posn (fun i => P i 6) (P n 6) (ordS P n).2 (ordS P n).1) n p = insA (ordS P n).2 (posn (fun i => P i 6) (P n 6) (ordS P n).2 (ordS P n).1) n q := h3
      generalize posn (fun i => P i 6) (P n 6) (ordS P n).2 (ordS P n).1 = j at h3 hp
      unfold insA at h3
      by_cases a1 : p < j
      · rw [if_pos a1] at h3
        have b1 := lt p (by omega)
        by_cases a2 : q < j
        · rw [if_pos a2] at h3
          exact ih p q (by omega) (by omega) h3
        · rw [if_neg a2] at h3
          by_cases a3 : q = j
          · rw [if_pos a3] at h3; omega
          · rw [if_neg a3] at h3
            have := ih p (q - 1) (by omega) (by omega) h3
            omega
      · rw [if_neg a1] at h3
        by_cases a4 : p = j
        · rw [if_pos a4] at h3
          by_cases a2 : q < j
          · rw [if_pos a2] at h3
            have := lt q (by omega)
            omega
          · rw [if_neg a2] at h3
            by_cases a3 : q = j
            · omega
            · rw [if_neg a3] at h3
              have := lt (q - 1) (by omega)
              omega
        · rw [if_neg a4] at h3
          have b1 := lt (p - 1) (by omega)
          by_cases a2 : q < j
          · rw [if_pos a2] at h3
            have := ih (p - 1) q (by omega) (by omega) h3
            omega
          · rw [if_neg a2] at h3
            by_cases a3 : q = j
            · rw [if_pos a3] at h3; omega
            · rw [if_neg a3] at h3
              have := ih (p - 1) (q - 1) (by omega) (by omega) h3
              omega
    · rw [if_neg hz] at h1 h2 h3
      exact ih p q h1 h2 h3
/-- the class's items' properties; its order laid -/
abbrev xP (I : Nat → Nat → Int32) : dP := fun i w => I 6 (11 * i + w)
def xO (I : Nat → Nat → Int32) (P : dP) (c : Nat) (f : Nat → Nat) : Prop := c ≤ 16 ∧ I 11 0 = nI c ∧ ∀ p, p < c → f p < 16 ∧ I 12 p = nI (f p) ∧ I 13 p = P (f p) 0 ∧ I 14 p = P (f p) 3 ∧ I 15 p = grt P (f p) ∧ I 16 p = P (f p) 5 ∧ I 17 p = wsh P (f p)
theorem xO.keep {I I' : Nat → Nat → Int32} {P : dP} {c : Nat} {f : Nat → Nat} {cs : List Nat} (h : xO I P c f) (hs : gSame cs I I') (hc : [11, 12, 13, 14, 15, 16, 17].all (fun c => !cs.contains c) = true) : xO I' P c f := by
  have key : ∀ c ∈ [11, 12, 13, 14, 15, 16, 17], I' c = I c := fun c hm => hs.at c (by have := List.all_eq_true.mp hc c hm; simpa using this)
  rw [xO, key 11 (by decide), key 12 (by decide), key 13 (by decide), key 14 (by decide), key 15 (by decide), key 16 (by decide), key 17 (by decide)]
  exact h

