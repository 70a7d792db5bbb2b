/-! PLACES: along and across -/
def szA (A : lA) (p : Nat) : Int32 := (ztL A (npL A)).2 p
def shfW (v r : Int32) (k n : Nat) : Int32 := if v = nI 1 then r else if v = nI 2 then fdv r (nI 2) else if v = nI 3 then fdv (r * nI k) (nI (n - 1)) else if v = nI 4 then fdv (r * nI (2 * k + 1)) (nI (2 * n)) else if v = nI 5 then fdv (r * nI (k + 1)) (nI (n + 1)) else nI 0
def wayV (w r : Int32) (n : Nat) : Int32 := if nI 3 ≤ w ∧ (r < 0 ∨ n ≤ 1) then (if w = nI 3 then nI 0 else nI 2) else w
def shfS (w r : Int32) (k n : Nat) : Int32 := shfW (wayV w r n) r k n
def alN (A : lA) : Nat → Int32
  | 0 => nI 0
  | k + 1 => alN A k + (szA A (A.2.1 + k) + nI 2 * A.1.1 (A.1.2.2.2 (A.2.1 + k)) 5 + A.1.2.1 1)
def xA (A : lA) (k : Nat) : Int32 := alN A k + A.1.1 (A.1.2.2.2 (A.2.1 + k)) 5 + shfS (A.1.2.1 4) (reL A) k A.2.2
def lfA (A : lA) (p : Nat) : Int32 := if A.1.2.1 6 = nI 1 then A.1.2.2.1 - xA A (p - A.2.1) - szA A p else xA A (p - A.2.1)
def wyA (A : lA) (p : Nat) : Int32 := way A.1.1 A.1.2.1 (A.1.2.2.2 p)
def gtA (A : lA) : Nat → Int32
  | 0 => nI 0
  | k + 1 => mx (gtA A k) (A.1.1 (A.1.2.2.2 (A.2.1 + k)) 7)
def abA (A : lA) : Nat → Int32
  | 0 => -49
  | k + 1 => if wyA A (A.2.1 + k) = nI 3 then mx (abA A k) (abv A.1.1 (A.1.2.2.2 (A.2.1 + k))) else abA A k
def blA (A : lA) : Nat → Int32
  | 0 => nI 0
  | k + 1 => if wyA A (A.2.1 + k) = nI 3 then mx (blA A k) (A.1.1 (A.1.2.2.2 (A.2.1 + k)) 8) else blA A k
def lhA (A : lA) : Int32 := mx (gtA A A.2.2) (abA A A.2.2 + blA A A.2.2)
def loW (P : dP) (B : Nat → Int32) (i : Nat) (hi ab : Int32) : Int32 := if way P B i = nI 1 then hi - P i 7 else if way P B i = nI 2 then fdv (hi - P i 7) (nI 2) else if way P B i = nI 3 then ab - abv P i else nI 0
def loA (A : lA) (p : Nat) : Int32 := loW A.1.1 A.1.2.1 (A.1.2.2.2 p) (lhA A) (abA A A.2.2)
def ltQ (Q : lQ) (c : Nat) : Nat → Int32
  | 0 => nI 0
  | l + 1 => ltQ Q c l + lhA (lnA Q c l) + Q.2.1 2
def htQ (Q : lQ) (c : Nat) : Nat → Int32
  | 0 => nI 0
  | l + 1 => ltQ Q c l + lhA (lnA Q c l)
def lfQ (Q : lQ) (c p : Nat) : Int32 := lfA (lnA Q c (lin Q p)) p
def tpQ (Q : lQ) (c p : Nat) : Int32 := ltQ Q c (lin Q p) + loA (lnA Q c (lin Q p)) p
/-- the places as they are found -/
def xW (I : Nat → Nat → Int32) (Q : lQ) (c n : Nat) : Prop := I 27 0 = htQ Q c n ∧ (∀ l, l < n → I 30 l = ltQ Q c l ∧ I 31 l = lhA (lnA Q c l)) ∧ ∀ p, p < c → lin Q p < n → I 28 p = lfQ Q c p ∧ I 29 p = tpQ Q c p

