/-! NUMBERS: bounds -/
abbrev bnd (x : Int32) (a b : Int) : Prop := a ≤ x.toInt ∧ x.toInt ≤ b
theorem t_add {x y : Int32} (h1 : -2147483648 ≤ x.toInt + y.toInt) (h2 : x.toInt + y.toInt < 2147483648) : (x + y).toInt = x.toInt + y.toInt := by
  rw [Int32.toInt_add]
  exact Int.bmod_eq_of_le (by omega) (by omega)
theorem t_sub {x y : Int32} (h1 : -2147483648 ≤ x.toInt - y.toInt) (h2 : x.toInt - y.toInt < 2147483648) : (x - y).toInt = x.toInt - y.toInt := by
  rw [Int32.toInt_sub]
  exact Int.bmod_eq_of_le (by omega) (by omega)
theorem t_neg {x : Int32} (h : -2147483648 < x.toInt) : (-x).toInt = -x.toInt := by
  have := Int32.toInt_lt x
  rw [Int32.toInt_neg]
  exact Int.bmod_eq_of_le (by omega) (by omega)
theorem t_mul {x y : Int32} (h1 : -2147483648 ≤ x.toInt * y.toInt) (h2 : x.toInt * y.toInt < 2147483648) : (x * y).toInt = x.toInt * y.toInt := by
  rw [Int32.toInt_mul]
  exact Int.bmod_eq_of_le (by omega) (by omega)
theorem t_lt {x y : Int32} : x < y ↔ x.toInt < y.toInt := Int32.lt_iff_toInt_lt
theorem t_le {x y : Int32} : x ≤ y ↔ x.toInt ≤ y.toInt := Int32.le_iff_toInt_le
theorem t_eq {x y : Int32} : x = y ↔ x.toInt = y.toInt := ⟨fun h => by rw [h], fun h => Int32.toInt_inj.mp h⟩
theorem b_add {x y : Int32} {a b c d : Int} (hx : bnd x a b) (hy : bnd y c d) (h1 : -2147483648 ≤ a + c) (h2 : b + d < 2147483648) : bnd (x + y) (a + c) (b + d) := by
  unfold bnd at *
  rw [t_add (by omega) (by omega)]
  omega
theorem b_sub {x y : Int32} {a b c d : Int} (hx : bnd x a b) (hy : bnd y c d) (h1 : -2147483648 ≤ a - d) (h2 : b - c < 2147483648) : bnd (x - y) (a - d) (b - c) := by
  unfold bnd at *
  rw [t_sub (by omega) (by omega)]
  omega
theorem b_neg {x : Int32} {a b : Int} (hx : bnd x a b) (h1 : -2147483648 < a) : bnd (-x) (-b) (-a) := by
  unfold bnd at *
  rw [t_neg (by omega)]
  omega
theorem b_wk {x : Int32} {a b c d : Int} (hx : bnd x a b) (h1 : c ≤ a) (h2 : b ≤ d) : bnd x c d := ⟨by have := hx.1; omega, by have := hx.2; omega⟩
theorem b_nI {n : Nat} {a b : Int} (h : n < 2147483648) (h1 : a ≤ (n : Int)) (h2 : (n : Int) ≤ b) : bnd (nI n) a b := by
  unfold bnd
  rw [nI_toInt h]
  exact ⟨h1, h2⟩
/-- the product of two that are not negative -/
theorem b_mul {x y : Int32} {b d : Int} (hx : bnd x 0 b) (hy : bnd y 0 d) (h2 : b * d < 2147483648) : bnd (x * y) 0 (b * d) ∧ (x * y).toInt = x.toInt * y.toInt := by
  have h3 : 0 ≤ x.toInt * y.toInt := Int.mul_nonneg hx.1 hy.1
  have h4 : x.toInt * y.toInt ≤ b * d := Int.mul_le_mul hx.2 hy.2 hy.1 (Int.le_trans hx.1 hx.2)
  have h5 := t_mul (x := x) (y := y) (by omega) (by omega)
  unfold bnd
  rw [h5]
  exact ⟨⟨h3, h4⟩, rfl⟩
theorem b_mx {x y : Int32} {a b c : Int} (hx : bnd x a b) (hy : bnd y c b) : bnd (mx x y) a b := by
  unfold bnd at *
  rw [mx_toInt]
  omega
theorem b_mx2 {x y : Int32} {a b c : Int} (hx : bnd x a b) (hy : bnd y c b) : bnd (mx x y) c b := by
  unfold bnd at *
  rw [mx_toInt]
  omega
theorem b_mn {x y : Int32} {a b d : Int} (hx : bnd x a d) (hy : bnd y a b) : bnd (mn x y) a b := by
  unfold bnd at *
  rw [mn_toInt]
  omega
theorem mx_comm (x y : Int32) : mx x y = mx y x := by rw [t_eq, mx_toInt, mx_toInt]; omega
theorem smS_b {g : Nat → Int32} {lo : Nat} {a b : Int} (ha : -1000000 ≤ a) (ha0 : a ≤ 0) (hb0 : 0 ≤ b) (hb : b ≤ 1000000) : ∀ n, n ≤ 16 → (∀ p, lo ≤ p → p < lo + n → bnd (g p) a b) → bnd (smS g lo n) ((n : Int) * a) ((n : Int) * b)
  | 0, _, _ => by
    unfold smS
    rw [Int.natCast_zero, Int.zero_mul, Int.zero_mul]
    exact b_nI (by decide) (by decide) (by decide)
  | n + 1, hn, h => by
    have ih := smS_b ha ha0 hb0 hb n (by omega) (fun p h1 h2 => h p h1 (by omega))
    have hp := h (lo + n) (by omega) (by omega)
    have e1 : ((n + 1 : Nat) : Int) * a = (n : Int) * a + a := by rw [Int.natCast_add, Int.add_mul]; omega
    have e2 : ((n + 1 : Nat) : Int) * b = (n : Int) * b + b := by rw [Int.natCast_add, Int.add_mul]; omega
    have k1 : (16 : Int) * a ≤ (n : Int) * a := Int.mul_le_mul_of_nonpos_right (by omega) ha0
    have k2 : (n : Int) * b ≤ 16 * b := Int.mul_le_mul_of_nonneg_right (by omega) hb0
    rw [smS, e1, e2]
    exact b_add ih hp (by omega) (by omega)
theorem smS_b16 {g : Nat → Int32} {lo n : Nat} {a b : Int} (ha : -1000000 ≤ a) (ha0 : a ≤ 0) (hb0 : 0 ≤ b) (hb : b ≤ 1000000) (hn : n ≤ 16) (h : ∀ p, lo ≤ p → p < lo + n → bnd (g p) a b) : bnd (smS g lo n) (16 * a) (16 * b) := by
  have := smS_b ha ha0 hb0 hb n hn h
  have k1 : (16 : Int) * a ≤ (n : Int) * a := Int.mul_le_mul_of_nonpos_right (by omega) ha0
  have k2 : (n : Int) * b ≤ 16 * b := Int.mul_le_mul_of_nonneg_right (by omega) hb0
  exact b_wk this k1 k2
theorem sbS_eq (r : Int32) (g : Nat → Int32) (lo : Nat) : ∀ n, sbS r g lo n = r - smS g lo n
  | 0 => by rw [sbS, smS, nI_0, Int32.sub_zero]
  | n + 1 => by rw [sbS, smS, sbS_eq r g lo n, Int32.sub_sub]
theorem smS_mono {g : Nat → Int32} {lo : Nat} {b : Int} (hb0 : 0 ≤ b) (hb : b ≤ 1000000) : ∀ n m, n ≤ m → m ≤ 16 → (∀ p, lo ≤ p → p < lo + m → bnd (g p) 0 b) → (smS g lo n).toInt ≤ (smS g lo m).toInt
  | n, 0, h1, _, _ => by rw [Nat.le_zero.mp h1]; exact Int.le_refl _
  | n, m + 1, h1, h2, h => by
    by_cases q : n = m + 1
    · subst q; exact Int.le_refl _
    · have ih := smS_mono hb0 hb n m (by omega) (by omega) (fun p a c => h p a (by omega))
      have k := smS_b16 (n := m) (lo := lo) (g := g) (a := 0) (by omega) (Int.le_refl _) hb0 hb (by omega) (fun p a c => h p a (by omega))
      have hp := h (lo + m) (by omega) (by omega)
      rw [smS, t_add (by have := k.1; have := hp.1; omega) (by have := k.2; have := hp.2; omega)]
      have := hp.1
      omega
/-! division -/
theorem xI_xor (a b : Nat) : nI a ^^^ nI b = nI (a ^^^ b) := by
  apply Int32.toBitVec_inj.mp
  show BitVec.ofNat 32 a ^^^ BitVec.ofNat 32 b = BitVec.ofNat 32 (a ^^^ b)
  first
  | exact BitVec.ofNat_xor.symm
  | exact (BitVec.ofNat_xor _ _).symm
  | (apply BitVec.eq_of_getLsbD_eq
     intro i hi
     simp [BitVec.getLsbD_ofNat, hi])
theorem fdv_nat {a b : Nat} (ha : a < 2147483648) (h0 : 0 < b) (hb : b < 2147483648) : fdv (nI a) (nI b) = nI (a / b) := by
  unfold fdv
  have hx : a ^^^ b < 2147483648 := Nat.xor_lt_two_pow (n := 31) ha hb
  rw [if_neg (fun z => by rw [xI_xor] at z; exact nI_pos hx z.1), pk_div ha h0 hb]
theorem nn_of {x : Int32} {b : Int} (h : bnd x 0 b) (hb : b < 2147483648) : ∃ a : Nat, a < 2147483648 ∧ (a : Int) ≤ b ∧ x = nI a := by
  obtain ⟨a, ha, rfl⟩ := nI_of (x := x) (fun q => by rw [t_lt] at q; have := h.1; rw [show (0 : Int32).toInt = 0 by decide +kernel] at q; omega)
  refine ⟨a, ha, ?_, rfl⟩
  have := h.2
  rw [nI_toInt ha] at this
  exact this
theorem fdv_pos {x y : Int32} {b d : Int} (hx : bnd x 0 b) (hb : b < 2147483648) (hy : bnd y 1 d) (hd : d < 2147483648) : fdv x y = x / y := by
  obtain ⟨a, ha, -, rfl⟩ := nn_of hx hb
  obtain ⟨c, hc, -, rfl⟩ := nn_of (b_wk hy (by decide) (Int.le_refl _)) hd
  have h0 : 0 < c := by have := hy.1; rw [nI_toInt hc] at this; omega
  rw [fdv_nat ha h0 hc, pk_div ha h0 hc]
theorem down2a : ∀ a, a < 90 → ∀ b, b < 100 → (if nI (100 * a + b) - nI 8000 < 0 then -((nI 2 - nI 1 - (nI (100 * a + b) - nI 8000)) / nI 2) else (nI (100 * a + b) - nI 8000) / nI 2) = fdv (nI (100 * a + b) - nI 8000) (nI 2) ∧ -8000 ≤ (fdv (nI (100 * a + b) - nI 8000) (nI 2)).toInt ∧ (fdv (nI (100 * a + b) - nI 8000) (nI 2)).toInt ≤ 1000 := by decide +kernel
theorem down2 {x : Int32} (h : bnd x (-8000) 999) : (if x < 0 then -((nI 2 - nI 1 - x) / nI 2) else x / nI 2) = fdv x (nI 2) ∧ bnd (fdv x (nI 2)) (-8000) 1000 := by
  obtain ⟨h1, h2⟩ := h
  obtain ⟨k, hk⟩ : ∃ k : Nat, x.toInt + 8000 = k := ⟨(x.toInt + 8000).toNat, by omega⟩
  have e : x = nI k - nI 8000 := by
    rw [t_eq, pk_sub_toInt (by omega) (by decide)]
    omega
  have := down2a (k / 100) (by omega) (k % 100) (by omega)
  rw [show 100 * (k / 100) + k % 100 = k by omega, ← e] at this
  exact this

