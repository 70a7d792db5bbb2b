/-! FlexRows: the least width -/
theorem ftV_t (s : sS) (k w : Nat) : ftV s true k w = decide (nln (sW s (nI w)) (sC s) ≤ k) := rfl
theorem ftV_f (s : sS) (k w : Nat) : ftV s false k w = allR (sW s (nI w)) (sC s) := rfl
section X6F
variable {E : gE} {I : Nat → Nat → Int32} {h : gX} {S : sT}
theorem rX.sorted {J : Nat → Nat → Int32} (hX : rX I S) (hs : gSame [11, 12, 13, 14, 15, 16, 17] I J) (hO : xO J S.1.2.1 (sC S.1) (sQ S.1).2.2.2) : rX J S := by
  obtain ⟨hn, h4, hP, hB, hH, hT, hl⟩ := hX
  refine ⟨hn, by rw [hs.at 4 rfl]; exact h4, by rw [← hP]; funext i w; show J 6 _ = I 6 _; rw [hs.at 6 rfl], by rw [hs.at 5 rfl]; exact hB, hH.keep hs rfl, hT.keep hs rfl, ?_⟩
  rw [hs.at 0 rfl]
  refine hl.imp id fun y => ⟨y.1, hO, ?_, ?_, ?_⟩
  · exact y.2.2.1.keepS hs rfl
  · rw [xS, hs.at 21 rfl, hs.at 22 rfl, hs.at 23 rfl, hs.at 24 rfl, hs.at 25 rfl]; exact y.2.2.2.1
  · rw [xW, hs.at 27 rfl, hs.at 28 rfl, hs.at 29 rfl, hs.at 30 rfl, hs.at 31 rfl]; exact y.2.2.2.2
theorem rX.keep {J : Nat → Nat → Int32} {cs : List Nat} (hX : rX I S) (hs : gSame cs I J) (hc : [0, 1, 2, 4, 5, 6, 7, 8, 9, 10, 11, 12, 13, 14, 15, 16, 17, 18, 19, 20, 21, 22, 23, 24, 25, 27, 28, 29, 30, 31].all (fun c => !cs.contains c) = true) : rX J S := by
  obtain ⟨hn, h4, hP, hB, hH, hT, hl⟩ := hX
  have key : ∀ c ∈ [0, 1, 2, 4, 5, 6, 7, 8, 9, 10, 11, 12, 13, 14, 15, 16, 17, 18, 19, 20, 21, 22, 23, 24, 25, 27, 28, 29, 30, 31], J c = I c := fun c hm => hs.at c (by have := List.all_eq_true.mp hc c hm; simpa using this)
  have all2 : ∀ l : List Nat, (∀ c ∈ l, c ∈ [0, 1, 2, 4, 5, 6, 7, 8, 9, 10, 11, 12, 13, 14, 15, 16, 17, 18, 19, 20, 21, 22, 23, 24, 25, 27, 28, 29, 30, 31]) → l.all (fun c => !cs.contains c) = true := fun l hl => List.all_eq_true.mpr fun c hm => List.all_eq_true.mp hc c (hl c hm)
  refine ⟨hn, by rw [key 4 (by decide)]; exact h4, by rw [← hP]; funext i w; show J 6 _ = I 6 _; rw [key 6 (by decide)], by rw [key 5 (by decide)]; exact hB, hH.keep hs (all2 _ (by decide)), hT.keep hs (all2 _ (by decide)), ?_⟩
  rw [key 0 (by decide)]
  exact hl.imp id fun y => ⟨y.1, y.2.keep hs (all2 _ (by decide))⟩
end X6F

