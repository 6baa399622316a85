/-! basis functions: values, products, compositions, inner products -/
abbrev ztb (k : Nat) : Nat → Int64 := vp_updL (fun _ => 0) k 1048576
theorem ztb_at (k : Nat) : ztb k k = 1048576 := by unfold ztb vp_updL; rw [if_pos rfl]
theorem ztb_ne {k j : Nat} (h : ¬ j = k) : ztb k j = 0 := by unfold ztb vp_updL; rw [if_neg h]
theorem ztb_good (k : Nat) : zgood (ztb k) := zb_up (fun _ => Nat.zero_le _) (by unfold zb; decide)
theorem zbv_p : ∀ j, j < 25 → zval (ztb j) j 1048576 = 1048576 := by decide +kernel
theorem zbv_m : ∀ j, j < 25 → zval (ztb j) j (-1048576) = if j % 2 = 0 then 1048576 else -1048576 := by decide +kernel
theorem zbb : ∀ j, j < 25 → zbd (ztb j) 25 = 1048576 := by decide +kernel
theorem zin0 (a : Nat → Int64) : ∀ m (b : Nat → Int64), (∀ i, i ≤ m → a i * b i = 0) → 2 * a 0 * b 0 = 0 → zinn a b m = 0 := by
  intro m b
  induction m with
  | zero => intro _ h; exact h
  | succ m ih =>
    intro h h0
    unfold zinn
    rw [ih (fun i hi => h i (by omega)) h0, h (m + 1) (by omega)]
    rfl
theorem zinn_ne {j k : Nat} (h : ¬ j = k) : zinn (ztb j) (ztb k) 24 = 0 := by
  refine zin0 _ 24 _ (fun i _ => ?_) ?_
  · by_cases hi : i = j
    · rw [ztb_ne (k := k) (j := i) (by omega), Int64.mul_zero]
    · rw [ztb_ne (k := j) (j := i) hi, Int64.zero_mul]
  · by_cases hi : 0 = j
    · rw [ztb_ne (k := k) (j := 0) (by omega), Int64.mul_zero]
    · rw [ztb_ne (k := j) (j := 0) hi, Int64.mul_zero, Int64.zero_mul]
theorem zinn_eq : ∀ j, j < 25 → zR (zinn (ztb j) (ztb j) 24) 1048576 = if j = 0 then 2097152 else 1048576 := by decide +kernel
/-! products -/
theorem zpin_a0 {a b : Nat → Int64} {k i : Nat} {s : Int64} (ha : a i = 0) : ∀ m, zpin a b k i m s = s := by
  intro m
  induction m with
  | zero => rfl
  | succ m ih =>
    unfold zpin
    rw [ih, ha, Int64.zero_mul, ite_self, ite_self, Int64.add_zero, Int64.add_zero]
theorem zpin_b0 {a b : Nat → Int64} {k i : Nat} {s : Int64} : ∀ m, (∀ q, q < m → b q = 0) → zpin a b k i m s = s := by
  intro m
  induction m with
  | zero => intro _; rfl
  | succ m ih =>
    intro h
    unfold zpin
    rw [ih (fun q hq => h q (by omega)), h m (by omega), Int64.mul_zero, ite_self, ite_self, Int64.add_zero, Int64.add_zero]
theorem zpout_a0 {a b : Nat → Int64} {nb k : Nat} : ∀ r, (∀ q, q < r → a q = 0) → zpout a b nb k r = 0 := by
  intro r
  induction r with
  | zero => intro _; rfl
  | succ r ih =>
    intro h
    unfold zpout
    rw [ih (fun q hq => h q (by omega)), zpin_a0 (h r (by omega))]
theorem zprod_b {j : Nat} (b : Nat → Int64) (nb : Nat) (m : Nat) : zprod (ztb j) j b nb m = zR (zpin (ztb j) b m j (nb + 1) 0) 2097152 := by
  unfold zprod
  show zR (zpin (ztb j) b m j (nb + 1) (zpout (ztb j) b nb m j)) 2097152 = _
  rw [zpout_a0 j (fun q hq => ztb_ne (by omega))]
theorem zprod_bb (j k m : Nat) : zprod (ztb j) j (ztb k) k m = if j + k = m ∧ j - k + (k - j) = m then 1048576 else if j + k = m ∨ j - k + (k - j) = m then 524288 else 0 := by
  rw [zprod_b]
  show zR ((zpin (ztb j) (ztb k) m j k 0 + (if j + k = m then ztb j j * ztb k k else 0)) + (if j - k + (k - j) = m then ztb j j * ztb k k else 0)) 2097152 = _
  rw [zpin_b0 k (fun q hq => ztb_ne (by omega)), ztb_at, ztb_at]
  by_cases h1 : j + k = m <;> by_cases h2 : j - k + (k - j) = m <;> simp [h1, h2] <;> decide
theorem zprod_bb_top {j k : Nat} (h : j + k ≤ 48) : ztop (zprod (ztb j) j (ztb k) k) 48 = j + k := by
  rw [ztop_cut (d := j + k) 48 h (fun q hq => by rw [zprod_bb, if_neg (by omega), if_neg (by omega)])]
  refine ztop_ne ?_
  rw [zprod_bb]
  split
  · decide
  · rw [if_pos (Or.inl rfl)]; decide
theorem zprod_bb_good (j k : Nat) : zgood (zprod (ztb j) j (ztb k) k) := by
  intro m
  rw [zprod_bb]
  split
  · unfold zb; decide
  · split
    · unfold zb; decide
    · exact Nat.zero_le _
theorem zprod_bb_no {j k : Nat} (hj : j ≤ 24) (hk : k ≤ 24) (h : 24 < j + k) : zke (zprod (ztb j) j (ztb k) k) = -9000000000000000002 := by
  unfold zke zerr
  rw [zprod_bb_top (by omega), if_pos h]
theorem zprod_bb_ok {j k : Nat} (h : j + k ≤ 24) : zke (zprod (ztb j) j (ztb k) k) = 0 := zke_good (zprod_bb_good j k) (by rw [zprod_bb_top (by omega)]; exact h)
/-! compositions -/
/-- the coefficients of U(i) of T(k) -/
def zuu (k i : Nat) : Nat → Int64 := fun m =>
  if k = 0 then (if m = 0 then lN ((i + 1) * 1048576) else 0)
  else if m ≤ i * k ∧ m % k = 0 ∧ (m / k) % 2 = i % 2 then (if m = 0 then 1048576 else 2097152) else 0
/-- and of U(i - 1) -/
def zup (k i : Nat) : Nat → Int64 := if i = 0 then fun _ => 0 else zuu k (i - 1)
def zcj1 (k i : Nat) : Bool := (List.range 49).all (fun m => zst (fun q => zR (zpin (ztb k) (zuu k i) q k (i * k + 1) 0) 2097152) (zup k i) 2 0 m == zuu k (i + 1) m) && ztop (zuu k (i + 1)) 48 == (i + 1) * k && (zke (zuu k (i + 1)) == 0) && (zke (fun q => zR (zpin (ztb k) (zuu k i) q k (i * k + 1) 0) 2097152) == 0)
def zcj2 (k i : Nat) : Bool := (List.range 49).all (fun m => zst (fun q => zR (zpin (ztb k) (zuu k i) q k (i * k + 1) 0) 2097152) (zup k i) 1 0 m == ztb ((i + 1) * k) m) && (zke (fun q => zR (zpin (ztb k) (zuu k i) q k (i * k + 1) 0) 2097152) == 0)
theorem zcj1_0 : ∀ i, i < 24 → zcj1 0 i = true := by decide +kernel
theorem zcj1_1 : ∀ i, i < 24 → zcj1 1 i = true := by decide +kernel
theorem zcj1_k : ∀ k, k < 25 → ∀ i, i < 12 → (i + 1) * k ≤ 24 → zcj1 k i = true := by decide +kernel
theorem zcj2_0 : ∀ i, i < 24 → zcj2 0 i = true := by decide +kernel
theorem zcj2_1 : ∀ i, i < 24 → zcj2 1 i = true := by decide +kernel
theorem zcj2_k : ∀ k, k < 25 → ∀ i, i < 12 → (i + 1) * k ≤ 24 → zcj2 k i = true := by decide +kernel
