/-! the steps keep what is valid -/
def vT (S : sT) : Prop := vS S.1 ∧ ∀ (u : Nat) (s : sS), S.2.1[u]? = some s → vS s
theorem getE_lt {α : Type} {l : List α} {u : Nat} {s : α} (h : l[u]? = some s) : u < l.length := by
  apply Classical.byContradiction
  intro z
  rw [List.getElem?_eq_none (by omega)] at h
  exact absurd h (by simp)
theorem vS.p10 {s : sS} (h : vS s) {i : Nat} (hi : i < s.1) : s.2.1 i 10 = 0 ∨ s.2.1 i 10 = nI 1 := by
  obtain ⟨a, -, ha, he⟩ := nn_of (h.2.1 i 10 hi (by decide)) (by decide)
  have ha : (a : Int) ≤ 1 := ha
  rcases (show a = 0 ∨ a = 1 by omega) with q | q
  · exact Or.inl (by rw [he, q]; rfl)
  · exact Or.inr (by rw [he, q])
theorem hS_v {S : sT} (h : vT S) : ∀ (u : Nat) (s : sS), (hS S)[u]? = some s → vS s := by
  intro u s hu
  have hl := getE_lt hu
  have hu8 : u < 8 := by
    rw [hS, List.length_take] at hl; omega
  have hu' : (S.1 :: S.2.1)[u]? = some s := by rw [hS, List.getElem?_take, if_pos hu8] at hu; exact hu
  cases u with
  | zero => cases hu'; exact h.1
  | succ u => exact h.2 u s hu'
theorem lw_b : ∀ w, w < 10 → (lwt w).toInt = lov w ∧ (hwt w).toInt = hiv w ∧ lov w ≤ (uwt w).toInt ∧ (uwt w).toInt ≤ hiv w := by decide +kernel
theorem lb_b : ∀ w, w < 7 → (lbt w).toInt = lob w ∧ (hbt w).toInt = hib w := by decide +kernel
theorem ok_b {z : Int32} {k : Nat} (hk : k < 10) (h1 : ¬ z < lwt k) (h2 : ¬ hwt k < z) : bnd z (lov k) (hiv k) := by
  obtain ⟨a, b, -⟩ := lw_b k hk
  rw [t_lt] at h1 h2
  unfold bnd
  omega
theorem ft_b {T : tT} {w j : Nat} (hw : w < 10) (h : ftN T w j = none) : bnd (vlN T w j) (lov w) (hiv w) := by
  unfold ftN at h
  split at h
  · cases h
  · split at h
    · cases h
    · rename_i y
      exact ok_b hw (fun q => y (Or.inl q)) (fun q => y (Or.inr q))
theorem up_b {vs : Nat → Int32} {k : Nat} {v : Int32} (h : ∀ w, w < 10 → bnd (vs w) (lov w) (hiv w)) (hv : bnd v (lov k) (hiv k)) : ∀ w, w < 10 → bnd (upd vs k v w) (lov w) (hiv w) := by
  intro w hw
  by_cases y : w = k
  · subst y; rw [pk_us]; exact hv
  · rw [pk_un y]; exact h w hw
theorem prs_b {T : tT} : ∀ (d : Nat) (sd : Int32) (vs : Nat → Int32) (j : Nat), (∀ w, w < 10 → bnd (vs w) (lov w) (hiv w)) → ∀ w, w < 10 → bnd ((prs T d sd vs j).2 w) (lov w) (hiv w)
  | 0, _, _, _, h => h
  | d + 1, sd, vs, j, h => by
    have hwl := wdO_lt T j (ltE T j) 9 0
    rw [prs]
    by_cases a : T.1 ≤ j
    · rw [if_pos a]; exact h
    · rw [if_neg a]
      by_cases b : wdO T j (ltE T j) 9 0 = 0 ∨ ¬ bitW sd (wdO T j (ltE T j) 9 0) = 0
      · rw [if_pos b]; exact h
      · rw [if_neg b]
        cases e : ftN T (wdO T j (ltE T j) 9 0) (skp T (ltE T j)) with
        | some f => exact h
        | none => exact prs_b d _ _ _ (up_b h (ft_b (by omega) e))
theorem rd_b (T : tT) : ∀ w, w < 10 → bnd ((rdT T).2 w) (lov w) (hiv w) := by
  have h0 : ∀ w, w < 10 → bnd (uwt w) (lov w) (hiv w) := fun w hw => (lw_b w hw).2.2
  unfold rdT
  cases e : ftN T 0 (skp T 0) with
  | some f => exact h0
  | none => exact prs_b 80 _ _ _ (up_b h0 (ft_b (by decide) e))
section VAL
variable {S S' : sT}
theorem v_type {x v : Int32} (hV : vT S) (h : oType S x v S') : vT S' := by
  rcases h with ⟨-, -, rfl⟩ | ⟨k, -, -, ⟨-, -, rfl⟩ | ⟨-, -, rfl⟩⟩
  · exact hV
  · exact hV
  · exact hV
theorem v_clear {v : Int32} (hV : vT S) (h : oClear S v S') : vT S' := by
  obtain ⟨-, rfl⟩ := h
  exact hV
theorem v_hist (hV : vT S) {T : tT} (h2 : S'.2 = (hS S, T)) (h1 : vS S'.1) : vT S' := ⟨h1, by rw [h2]; exact hS_v hV⟩
theorem v_insert {x v : Int32} (hV : vT S) (h : oInsert S x v S') : vT S' := by
  rcases h with ⟨-, -, rfl⟩ | ⟨it, hit, -, ⟨-, -, -, -, rfl⟩ | ⟨-, -, -, rfl⟩ | ⟨hr, h16, -, o1, o2, o3, o4⟩⟩
  · exact hV
  · exact hV
  · exact hV
  · refine v_hist hV o3 ⟨by omega, fun i w hi hw => ?_, fun w hw => by rw [o2]; exact hV.1.2.2 w hw⟩
    rw [o1] at hi
    rw [o4 i w (by omega) hw]
    have hm : mvI S.1.1 it i < S.1.1 + 1 := mvI_lt (by omega) hit hi
    by_cases y : mvI S.1.1 it i = S.1.1
    · rw [if_pos y]
      by_cases z : w < 10
      · rw [if_pos z]; exact rd_b S.2.2 w z
      · rw [if_neg z]
        have : w = 10 := by omega
        subst this
        exact ⟨by decide +kernel, by decide +kernel⟩
    · rw [if_neg y]; exact hV.1.2.1 _ w (by omega) hw
theorem v_remove {x v : Int32} (hV : vT S) (h : oRemove S x v S') : vT S' := by
  rcases h with ⟨-, -, rfl⟩ | ⟨it, hit, -, -, o1, o2, o3, o4⟩
  · exact hV
  · have h16 := hV.1.1
    refine v_hist hV o3 ⟨by omega, fun i w hi hw => ?_, fun w hw => by rw [o2]; exact hV.1.2.2 w hw⟩
    rw [o1] at hi
    rw [o4 i w (by omega) hw]
    exact hV.1.2.1 _ w (mvI_lt hit (by omega) (by omega)) hw
theorem v_change {x y z v : Int32} (hV : vT S) (h : oChange S x y z v S') : vT S' := by
  rcases h with ⟨-, -, rfl⟩ | ⟨it, k, hit, -, hk, -, z1, z2, -, o1, o2, o3, o4⟩
  · exact hV
  · have h16 := hV.1.1
    refine v_hist hV o3 ⟨by omega, fun i w hi hw => ?_, fun w hw => by rw [o2]; exact hV.1.2.2 w hw⟩
    rw [o1] at hi
    rw [o4 i w (by omega) hw]
    by_cases y : i = it ∧ w = k
    · rw [if_pos y, y.2]; exact ok_b hk z1 z2
    · rw [if_neg y]; exact hV.1.2.1 _ w hi hw
theorem v_hide {x v : Int32} (hV : vT S) (h : oHide S x v S') : vT S' := by
  rcases h with ⟨-, -, rfl⟩ | ⟨it, hit, -, -, o1, o2, o3, o4⟩
  · exact hV
  · have h16 := hV.1.1
    refine v_hist hV o3 ⟨by omega, fun i w hi hw => ?_, fun w hw => by rw [o2]; exact hV.1.2.2 w hw⟩
    rw [o1] at hi
    rw [o4 i w (by omega) hw]
    by_cases y : i = it ∧ w = 10
    · rw [if_pos y, y.2]
      rcases hV.1.p10 hit with e | e
      · rw [e]; exact ⟨by decide +kernel, by decide +kernel⟩
      · rw [e]; exact ⟨by decide +kernel, by decide +kernel⟩
    · rw [if_neg y]; exact hV.1.2.1 _ w hi hw
theorem v_set {y z v : Int32} (hV : vT S) (h : oSet S y z v S') : vT S' := by
  rcases h with ⟨-, -, rfl⟩ | ⟨k, hk, -, z1, z2, -, o1, o2, o3, o4⟩
  · exact hV
  · refine v_hist hV o3 ⟨by rw [o1]; exact hV.1.1, fun i w hi hw => by rw [o2]; exact hV.1.2.1 i w (by rw [o1] at hi; exact hi) hw, fun w hw => ?_⟩
    rw [o4 w hw]
    by_cases y : w = k
    · rw [if_pos y, y]
      obtain ⟨a, b⟩ := lb_b k hk
      rw [t_lt] at z1 z2
      unfold bnd
      omega
    · rw [if_neg y]; exact hV.1.2.2 w hw
theorem v_undo {v : Int32} (hV : vT S) (h : oUndo S v S') : vT S' := by
  rcases h with ⟨-, -, rfl⟩ | ⟨s, H, hH, -, o1, o2, o3, o4⟩
  · exact hV
  · have hs : vS s := hV.2 0 s (by rw [hH]; rfl)
    have h16 := hs.1
    refine ⟨⟨by omega, fun i w hi hw => by rw [o2] at hi; rw [o3 i w (by omega) hw]; exact hs.2.1 i w hi hw, fun w hw => by rw [o4 w hw]; exact hs.2.2 w hw⟩, ?_⟩
    rw [o1]
    intro u t hu
    exact hV.2 (u + 1) t (by rw [hH]; exact hu)
end VAL

