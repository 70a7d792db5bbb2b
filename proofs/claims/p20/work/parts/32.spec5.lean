/-! THE STEPS: what each of them answers and leaves -/
def bdI (n : Nat) (x : Int32) : Prop := x < 0 ∨ nI n ≤ x
theorem bd_no {n : Nat} {x : Int32} (hn : n < 1000) (h : ¬ bdI n x) : ∃ k, k < n ∧ x = nI k := by
  obtain ⟨j, hj, rfl⟩ := nI_of (fun q => h (Or.inl q))
  refine ⟨j, ?_, rfl⟩
  apply Classical.byContradiction
  intro q
  exact h (Or.inr ((nI_leI (by omega) hj).mpr (by omega)))
theorem bd_nI {n k : Nat} (hn : n < 1000) (hk : k < n) : ¬ bdI n (nI k) := by
  intro q
  rcases q with q | q
  · exact nI_pos (by omega) q
  · have := (nI_leI (by omega) (by omega)).mp q
    omega
def hS (S : sT) : List sS := (S.1 :: S.2.1).take 8
def oType (S : sT) (x v : Int32) (S' : sT) : Prop := (bdI 128 x ∧ v = -1002 ∧ S' = S) ∨ ∃ k, k < 128 ∧ x = nI k ∧ ((S.2.2.1 < 80 ∧ v = nI (S.2.2.1 + 1) ∧ S' = (S.1, S.2.1, (S.2.2.1 + 1, upd S.2.2.2 S.2.2.1 x))) ∨ (S.2.2.1 = 80 ∧ v = -1004 ∧ S' = S))
def oClear (S : sT) (v : Int32) (S' : sT) : Prop := v = nI S.2.2.1 ∧ S' = (S.1, S.2.1, (0, S.2.2.2))
def oInsert (S : sT) (x v : Int32) (S' : sT) : Prop := (bdI (S.1.1 + 1) x ∧ v = -1002 ∧ S' = S) ∨ ∃ it, it < S.1.1 + 1 ∧ x = nI it ∧ ((∃ f, f ≤ 80 ∧ (rdT S.2.2).1 = some f ∧ v = -2000 - nI f ∧ S' = S) ∨ ((rdT S.2.2).1 = none ∧ S.1.1 = 16 ∧ v = -1004 ∧ S' = S) ∨
  ((rdT S.2.2).1 = none ∧ S.1.1 < 16 ∧ v = nI (S.1.1 + 1) ∧ S'.1.1 = S.1.1 + 1 ∧ S'.1.2.2 = S.1.2.2 ∧ S'.2 = (hS S, S.2.2) ∧ ∀ i w, i < 16 → w < 11 → S'.1.2.1 i w = if mvI S.1.1 it i = S.1.1 then (if w < 10 then (rdT S.2.2).2 w else 0) else S.1.2.1 (mvI S.1.1 it i) w))
def oRemove (S : sT) (x v : Int32) (S' : sT) : Prop := (bdI S.1.1 x ∧ v = -1002 ∧ S' = S) ∨ ∃ it, it < S.1.1 ∧ x = nI it ∧ v = nI (S.1.1 - 1) ∧ S'.1.1 = S.1.1 - 1 ∧ S'.1.2.2 = S.1.2.2 ∧ S'.2 = (hS S, S.2.2) ∧ ∀ i w, i < 16 → w < 11 → S'.1.2.1 i w = S.1.2.1 (mvI it (S.1.1 - 1) i) w
def oMove (S : sT) (x y v : Int32) (S' : sT) : Prop := ((bdI S.1.1 x ∨ bdI S.1.1 y) ∧ v = -1002 ∧ S' = S) ∨ ∃ a b, a < S.1.1 ∧ b < S.1.1 ∧ x = nI a ∧ y = nI b ∧ v = plcS (sQ S'.1).2.2.2 b (sC S'.1) 0 ∧ S'.1.1 = S.1.1 ∧ S'.1.2.2 = S.1.2.2 ∧ S'.2 = (hS S, S.2.2) ∧ ∀ i w, i < 16 → w < 11 → S'.1.2.1 i w = S.1.2.1 (mvI a b i) w
def oChange (S : sT) (x y z v : Int32) (S' : sT) : Prop := ((bdI S.1.1 x ∨ bdI 10 y ∨ ∃ k, k < 10 ∧ y = nI k ∧ (z < lwt k ∨ hwt k < z)) ∧ v = -1002 ∧ S' = S) ∨ ∃ it k, it < S.1.1 ∧ x = nI it ∧ k < 10 ∧ y = nI k ∧ ¬ z < lwt k ∧ ¬ hwt k < z ∧ v = S.1.2.1 it k ∧ S'.1.1 = S.1.1 ∧ S'.1.2.2 = S.1.2.2 ∧ S'.2 = (hS S, S.2.2) ∧ ∀ i w, i < 16 → w < 11 → S'.1.2.1 i w = if i = it ∧ w = k then z else S.1.2.1 i w
def oHide (S : sT) (x v : Int32) (S' : sT) : Prop := (bdI S.1.1 x ∧ v = -1002 ∧ S' = S) ∨ ∃ it, it < S.1.1 ∧ x = nI it ∧ v = nI 1 - S.1.2.1 it 10 ∧ S'.1.1 = S.1.1 ∧ S'.1.2.2 = S.1.2.2 ∧ S'.2 = (hS S, S.2.2) ∧ ∀ i w, i < 16 → w < 11 → S'.1.2.1 i w = if i = it ∧ w = 10 then nI 1 - S.1.2.1 it 10 else S.1.2.1 i w
def lbt (w : Nat) : Int32 := (gst.getD 3 ("", [])).2.getD w 0
def hbt (w : Nat) : Int32 := (gst.getD 4 ("", [])).2.getD w 0
def oSet (S : sT) (y z v : Int32) (S' : sT) : Prop := ((bdI 7 y ∨ ∃ k, k < 7 ∧ y = nI k ∧ (z < lbt k ∨ hbt k < z)) ∧ v = -1002 ∧ S' = S) ∨ ∃ k, k < 7 ∧ y = nI k ∧ ¬ z < lbt k ∧ ¬ hbt k < z ∧ v = S.1.2.2 k ∧ S'.1.1 = S.1.1 ∧ S'.1.2.1 = S.1.2.1 ∧ S'.2 = (hS S, S.2.2) ∧ ∀ w, w < 7 → S'.1.2.2 w = if w = k then z else S.1.2.2 w
def oUndo (S : sT) (v : Int32) (S' : sT) : Prop := (S.2.1 = [] ∧ v = -1003 ∧ S' = S) ∨ ∃ s H, S.2.1 = s :: H ∧ v = nI H.length ∧ S'.2 = (H, S.2.2) ∧ S'.1.1 = s.1 ∧ (∀ i w, i < 16 → w < 11 → S'.1.2.1 i w = s.2.1 i w) ∧ ∀ w, w < 7 → S'.1.2.2 w = s.2.2 w
/-- what is told -/
def vItem (S : sT) (x y : Int32) (v : Int32) : Prop := ((bdI S.1.1 x ∨ bdI 12 y) ∧ v = -1002) ∨ ∃ it k, it < S.1.1 ∧ x = nI it ∧ k < 12 ∧ y = nI k ∧ v = if k = 11 then wsh S.1.2.1 it else S.1.2.1 it k
def liV (s : sS) (p : Nat) : Nat → Int32
  | 0 => nI (lin (sQ s) p)
  | 1 => nI p
  | 2 => lfQ (sQ s) (sC s) p
  | 3 => szQ (sQ s) (sC s) p
  | 4 => tpQ (sQ s) (sC s) p
  | 5 => tpQ (sQ s) (sC s) p + abv s.2.1 ((sQ s).2.2.2 p)
  | 6 => szQ (sQ s) (sC s) p - wsh s.2.1 ((sQ s).2.2.2 p)
  | _ => psQ (sQ s) (sC s) p
def lnV (s : sS) (l : Nat) : Nat → Int32
  | 0 => nI (frC (sQ s) (sC s) (l + 1) - frC (sQ s) (sC s) l)
  | 1 => nI (frC (sQ s) (sC s) l)
  | 2 => ltQ (sQ s) (sC s) l
  | 3 => lhA (lnA (sQ s) (sC s) l)
  | 4 => reL (lnA (sQ s) (sC s) l)
  | 5 => bI (grL (lnA (sQ s) (sC s) l))
  | 6 => nI (npL (lnA (sQ s) (sC s) l))
  | _ => lsm (sQ s) (frC (sQ s) (sC s) (l + 1) - 1)
def enV (s : sS) (p : Nat) : Int32 := lfQ (sQ s) (sC s) p + szQ (sQ s) (sC s) p
def geV (s : sS) : Nat → Int32
  | 0 => -1001
  | 1 => enV s 0
  | k + 2 => mx (geV s (k + 1)) (enV s (k + 1))
def cnV (S : sT) : Nat → Int32
  | 0 => nI S.1.1
  | 1 => nI (S.1.1 - sC S.1)
  | 2 => nI (nln (sQ S.1) (sC S.1))
  | 3 => htQ (sQ S.1) (sC S.1) (nln (sQ S.1) (sC S.1))
  | 4 => geV S.1 (sC S.1)
  | 5 => nI S.2.1.length
  | 6 => nI S.2.2.1
  | k + 7 => S.1.2.2 k
def vLies (S : sT) (x y : Int32) (v : Int32) : Prop := ((bdI S.1.1 x ∨ bdI 8 y) ∧ v = -1002) ∨ ∃ it k, it < S.1.1 ∧ x = nI it ∧ k < 8 ∧ y = nI k ∧ ((¬ S.1.2.1 it 10 = 0 ∧ v = -1003) ∨ (S.1.2.1 it 10 = 0 ∧ ∃ p, p < sC S.1 ∧ (sQ S.1).2.2.2 p = it ∧ v = liV S.1 p k))
def vOrdered (S : sT) (x : Int32) (v : Int32) : Prop := (x < 0 ∧ v = -1002) ∨ (¬ x < 0 ∧ bdI (sC S.1) x ∧ v = -1001) ∨ ∃ p, p < sC S.1 ∧ x = nI p ∧ v = nI ((sQ S.1).2.2.2 p)
def vLine (S : sT) (x y : Int32) (v : Int32) : Prop := ((x < 0 ∨ bdI 8 y) ∧ v = -1002) ∨ (¬ x < 0 ∧ ¬ bdI 8 y ∧ bdI (nln (sQ S.1) (sC S.1)) x ∧ v = -1001) ∨ ∃ l k, l < nln (sQ S.1) (sC S.1) ∧ x = nI l ∧ k < 8 ∧ y = nI k ∧ v = lnV S.1 l k
def coV (s : sS) (x y : Int32) (p : Nat) : Bool := decide ((lfQ (sQ s) (sC s) p ≤ x ∧ x < enV s p) ∧ tpQ (sQ s) (sC s) p ≤ y ∧ y < tpQ (sQ s) (sC s) p + s.2.1 ((sQ s).2.2.2 p) 7)
/-- the last of the first so many places that covers -/
def atV (s : sS) (x y : Int32) : Nat → Int32
  | 0 => -1001
  | p + 1 => if coV s x y p then nI ((sQ s).2.2.2 p) else atV s x y p
def bAt (x y : Int32) : Prop := x < -2000 ∨ 2000 < x ∨ y < 0 ∨ 5000 < y
def vAt (S : sT) (x y : Int32) (v : Int32) : Prop := (bAt x y ∧ v = -1002) ∨ (¬ bAt x y ∧ v = atV S.1 x y (sC S.1))
def sW (s : sS) (w : Int32) : lQ := (s.2.1, s.2.2, w, (ordS s.2.1 s.1).2)
/-- the least width: a for what is asked, k for how many lines -/
def ftV (s : sS) (a : Bool) (k w : Nat) : Bool := if a then decide (nln (sW s (nI w)) (sC s) ≤ k) else allR (sW s (nI w)) (sC s)
def lwV (s : sS) (a : Bool) (k : Nat) : Nat → Nat → Int32
  | 0, _ => -1001
  | d + 1, w => if ftV s a k w then nI w else lwV s a k d (w + 1)
def vLeast (S : sT) (x y : Int32) (v : Int32) : Prop := (∃ k, 1 ≤ k ∧ k ≤ 16 ∧ x = nI 0 ∧ y = nI k ∧ v = lwV S.1 true k 980 20) ∨ (x = nI 1 ∧ y = nI 0 ∧ v = lwV S.1 false 0 980 20) ∨ (¬ (x = nI 0 ∧ nI 1 ≤ y ∧ y ≤ nI 16) ∧ ¬ (x = nI 1 ∧ y = nI 0) ∧ v = -1002)
def vCount (S : sT) (x : Int32) (v : Int32) : Prop := (bdI 14 x ∧ v = -1002) ∨ ∃ k, k < 14 ∧ x = nI k ∧ v = cnV S k

