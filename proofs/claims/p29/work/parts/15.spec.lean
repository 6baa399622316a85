/-! the numbers that both sides compute -/
def zabs (x : Int64) : Int64 := if 0 < x then x else -x
def zmax (x y : Int64) : Int64 := if y < x then x else y
/-- the quotient rounded down, for a divisor above 0 -/
def zfl (v n : Int64) : Int64 := if v < v / n * n then v / n - 1 else v / n
/-- the nearest whole number to a quotient -/
def zR (v n : Int64) : Int64 := if 2 * (v - zfl v n * n) < n then zfl v n else zfl v n + 1
abbrev zin (a b : Int) (s : Int32) : Prop := a ≤ s.toInt ∧ s.toInt ≤ b
abbrev zbN (P : Prop) [Decidable P] : Nat := if P then 1 else 0
theorem zin_nI {a k : Nat} (h : k ≤ a) (ha : a < 2147483648) : zin 0 (a : Int) (nI k) := by
  unfold zin
  rw [nI_toInt (by omega)]
  omega
theorem zin_nat {a : Nat} {s : Int32} (h : zin 0 (a : Int) s) : ∃ k, k ≤ a ∧ s = nI k := by
  obtain ⟨h1, h2⟩ := h
  have h3 : ¬ s < 0 := by
    rw [Int32.lt_iff_toInt_lt]
    show ¬ s.toInt < 0
    omega
  obtain ⟨j, hj, rfl⟩ := nI_of h3
  rw [nI_toInt hj] at h2
  exact ⟨j, by omega, rfl⟩
theorem zo0 {n l m : Int32} {a b : Int} (hl : l.toInt = a) (hm : m.toInt = b) (h : zin a b n) : 0 = zbN (n < l ∨ m < n) := by
  unfold zbN
  rw [if_neg]
  rw [Int32.lt_iff_toInt_lt, Int32.lt_iff_toInt_lt]
  obtain ⟨h1, h2⟩ := h
  omega
theorem zo1 {n l m : Int32} {a b : Int} (hl : l.toInt = a) (hm : m.toInt = b) (h : ¬ zin a b n) : 1 = zbN (n < l ∨ m < n) := by
  unfold zbN
  rw [if_pos]
  rw [Int32.lt_iff_toInt_lt, Int32.lt_iff_toInt_lt]
  unfold zin at h
  omega
theorem zn1 {n : Int32} {l m : Int64} {a b : Int} (hl : l.toInt = a) (hm : m.toInt = b) (h : zin a b n) : 1 = zbN (l ≤ n.toInt64 ∧ n.toInt64 ≤ m) := by
  unfold zbN
  rw [if_pos]
  rw [Int64.le_iff_toInt_le, Int64.le_iff_toInt_le, Int32.toInt_toInt64, hl, hm]
  exact h
theorem zn0 {n : Int32} {l m : Int64} {a b : Int} (hl : l.toInt = a) (hm : m.toInt = b) (h : ¬ zin a b n) : 0 = zbN (l ≤ n.toInt64 ∧ n.toInt64 ≤ m) := by
  unfold zbN
  rw [if_neg]
  rw [Int64.le_iff_toInt_le, Int64.le_iff_toInt_le, Int32.toInt_toInt64, hl, hm]
  exact h
/-- the value of a series: from the coefficient k down -/
def zclen (c : Nat → Int64) (x : Int64) : Nat → Int64 → Int64 → Int64
  | 0, b, d => c 0 + zR (x * b) 1048576 - d
  | k + 1, b, d => zclen c x k (c (k + 1) + zR (2 * x * b) 1048576 - d) b
def zval (c : Nat → Int64) (n : Nat) (x : Int64) : Int64 := zclen c x n 0 0
/-- the degree when the coefficients above n are cut off -/
def ztop (f : Nat → Int64) : Nat → Nat
  | 0 => 0
  | n + 1 => if f (n + 1) = 0 then ztop f n else n + 1
theorem ztop_le (f : Nat → Int64) (n : Nat) : ztop f n ≤ n := by
  induction n with
  | zero => exact Nat.le_refl _
  | succ n ih =>
    unfold ztop
    split
    · omega
    · omega
/-- is a coefficient below n too large -/
def zbig (f : Nat → Int64) : Nat → Bool
  | 0 => false
  | n + 1 => zbig f n || decide (268435456 < zabs (f n))
/-- what is in the way of a series -/
def zerr (f : Nat → Int64) (n m : Nat) : Int64 := if 24 < n then -9000000000000000002 else if zbig f m = true then -9000000000000000003 else 0
