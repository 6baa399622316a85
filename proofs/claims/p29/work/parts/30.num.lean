/-! rounded quotients as whole numbers -/
theorem zR_int {v d : Int64} (hv : zb v 4611686018427387904) (hd : 1 ≤ d.toInt) (hd2 : d.toInt ≤ 1152921504606846976) : -d.toInt ≤ 2 * v.toInt - 2 * (d.toInt * (zR v d).toInt) ∧ 2 * v.toInt - 2 * (d.toInt * (zR v d).toInt) ≤ d.toInt := by
  have hd0 : (0 : Int64) < d := by
    rw [Int64.lt_iff_toInt_lt, show (0 : Int64).toInt = 0 from rfl]
    omega
  have hf := zfl_int (v := v) hd0
  unfold zb at hv
  have h1 := Int.mul_ediv_add_emod v.toInt d.toInt
  have h2 := Int.emod_nonneg v.toInt (b := d.toInt) (by omega)
  have h3 := Int.emod_lt_of_pos v.toInt (b := d.toInt) (by omega)
  have hp : (zfl v d * d).toInt = d.toInt * (v.toInt / d.toInt) := by
    rw [Int64.toInt_mul, hf, Int.mul_comm]
    apply Int.bmod_eq_of_le <;> omega
  have hs : (v - zfl v d * d).toInt = v.toInt - d.toInt * (v.toInt / d.toInt) := by
    rw [Int64.toInt_sub, hp]
    apply Int.bmod_eq_of_le <;> omega
  have h4 : (2 * (v - zfl v d * d)).toInt = 2 * (v.toInt - d.toInt * (v.toInt / d.toInt)) := by
    rw [Int64.toInt_mul, hs, show (2 : Int64).toInt = 2 from rfl]
    apply Int.bmod_eq_of_le <;> omega
  have hq : (v.toInt / d.toInt).natAbs ≤ 4611686018427387905 := by
    have a1 : v.toInt / d.toInt ≤ 4611686018427387905 := by
      rcases Int.lt_or_le 4611686018427387905 (v.toInt / d.toInt) with g | g
      · have g2 : 1 * (v.toInt / d.toInt) ≤ d.toInt * (v.toInt / d.toInt) := Int.mul_le_mul_of_nonneg_right hd (by omega)
        omega
      · exact g
    have a2 : -4611686018427387905 ≤ v.toInt / d.toInt := by
      rcases Int.lt_or_le (v.toInt / d.toInt) (-4611686018427387905) with g | g
      · exfalso
        have g2 : 1 * (-1 - v.toInt / d.toInt) ≤ d.toInt * (-1 - v.toInt / d.toInt) := Int.mul_le_mul_of_nonneg_right hd (by omega)
        have g3 : d.toInt * (-1 - v.toInt / d.toInt) = -d.toInt - d.toInt * (v.toInt / d.toInt) := by grind
        omega
      · exact g
    omega
  unfold zR
  split
  · rename_i hc
    rw [Int64.lt_iff_toInt_lt, h4] at hc
    rw [hf]
    omega
  · rename_i hc
    rw [Int64.lt_iff_toInt_lt, h4] at hc
    have e : (zfl v d + 1).toInt = v.toInt / d.toInt + 1 := by
      rw [Int64.toInt_add, hf, show (1 : Int64).toInt = 1 from rfl]
      apply Int.bmod_eq_of_le <;> omega
    rw [e]
    have g3 : d.toInt * (v.toInt / d.toInt + 1) = d.toInt * (v.toInt / d.toInt) + d.toInt := by grind
    omega
/-- for the divisor 2^20 -/
theorem zR_20 {v : Int64} (hv : zb v 4611686018427387904) : -1048576 ≤ 2 * v.toInt - 2097152 * (zR v 1048576).toInt ∧ 2 * v.toInt - 2097152 * (zR v 1048576).toInt ≤ 1048576 := by
  have h := zR_int (d := 1048576) hv (by decide) (by decide)
  rw [show (1048576 : Int64).toInt = 1048576 from rfl] at h
  omega
theorem zt_add {x y : Int64} (h : (x.toInt + y.toInt).natAbs < 9223372036854775808) : (x + y).toInt = x.toInt + y.toInt := by
  rw [Int64.toInt_add]
  apply Int.bmod_eq_of_le <;> omega
theorem zt_sub {x y : Int64} (h : (x.toInt - y.toInt).natAbs < 9223372036854775808) : (x - y).toInt = x.toInt - y.toInt := by
  rw [Int64.toInt_sub]
  apply Int.bmod_eq_of_le <;> omega
theorem zt_neg {x : Int64} (h : x.toInt.natAbs < 9223372036854775808) : (-x).toInt = -x.toInt := by
  rw [Int64.toInt_neg]
  apply Int.bmod_eq_of_le <;> omega
theorem zt_mul {x y : Int64} (h : (x.toInt * y.toInt).natAbs < 9223372036854775808) : (x * y).toInt = x.toInt * y.toInt := by
  rw [Int64.toInt_mul]
  apply Int.bmod_eq_of_le <;> omega
theorem zt_abs {x : Int64} (h : x.toInt.natAbs < 9223372036854775808) : (zabs x).toInt = (x.toInt.natAbs : Int) := by
  unfold zabs
  split
  · rename_i h1
    rw [Int64.lt_iff_toInt_lt, show (0 : Int64).toInt = 0 from rfl] at h1
    omega
  · rename_i h1
    rw [Int64.lt_iff_toInt_lt, show (0 : Int64).toInt = 0 from rfl] at h1
    rw [zt_neg h]
    omega
theorem zt_lN {n : Nat} (h : n < 2147483648) : (lN n).toInt = n := lN_toInt (by omega)
theorem zt_eq {x y : Int64} (h : x.toInt = y.toInt) : x = y := Int64.toInt_inj.mp h
/-- sums -/
def zis (f : Nat → Int) : Nat → Int
  | 0 => 0
  | m + 1 => zis f m + f m
theorem zis_le {f g : Nat → Int} : ∀ m, (∀ i, i < m → f i ≤ g i) → zis f m ≤ zis g m := by
  intro m
  induction m with
  | zero => intro _; exact Int.le_refl _
  | succ m ih =>
    intro h
    have h1 := ih (fun i hi => h i (by omega))
    have h2 := h m (by omega)
    unfold zis
    omega
theorem zis_eq {f g : Nat → Int} : ∀ m, (∀ i, i < m → f i = g i) → zis f m = zis g m := by
  intro m
  induction m with
  | zero => intro _; rfl
  | succ m ih =>
    intro h
    unfold zis
    rw [ih (fun i hi => h i (by omega)), h m (by omega)]
theorem zis_add (f g : Nat → Int) : ∀ m, zis (fun i => f i + g i) m = zis f m + zis g m := by
  intro m
  induction m with
  | zero => rfl
  | succ m ih => unfold zis; rw [ih]; omega
theorem zis_mul (a : Int) (f : Nat → Int) : ∀ m, zis (fun i => a * f i) m = a * zis f m := by
  intro m
  induction m with
  | zero => exact (Int.mul_zero a).symm
  | succ m ih => unfold zis; rw [ih, Int.mul_add]
theorem zis_const (a : Int) : ∀ m, zis (fun _ => a) m = m * a := by
  intro m
  induction m with
  | zero => exact (Int.zero_mul a).symm
  | succ m ih => unfold zis; rw [ih]; grind
theorem zis_0 : ∀ m, zis (fun _ => 0) m = 0 := by
  intro m
  rw [zis_const, Int.mul_zero]
theorem zis_ext {f : Nat → Int} {m : Nat} : ∀ k, (∀ i, m ≤ i → i < m + k → f i = 0) → zis f (m + k) = zis f m := by
  intro k
  induction k with
  | zero => intro _; rfl
  | succ k ih =>
    intro h
    show zis f (m + k) + f (m + k) = _
    rw [ih (fun i h1 h2 => h i h1 (by omega)), h (m + k) (by omega) (by omega), Int.add_zero]
theorem zis_swap (F : Nat → Nat → Int) (n : Nat) : ∀ m, zis (fun j => zis (F j) n) m = zis (fun i => zis (fun j => F j i) m) n := by
  intro m
  induction m with
  | zero => exact (zis_0 n).symm
  | succ m ih =>
    show zis (fun j => zis (F j) n) m + zis (F m) n = _
    rw [ih, ← zis_add]
    exact zis_eq n (fun i _ => rfl)
/-- the sum of absolute values -/
theorem zbd_int {c : Nat → Int64} (hc : zgood c) : ∀ m, m ≤ 49 → (zbd c m).toInt = zis (fun i => ((c i).toInt.natAbs : Int)) m ∧ 0 ≤ (zbd c m).toInt ∧ (zbd c m).toInt ≤ m * 268435456 := by
  intro m
  induction m with
  | zero => intro _; exact ⟨rfl, by show (0 : Int) ≤ 0; omega, by show (0 : Int) ≤ ((0 : Nat) : Int) * 268435456; omega⟩
  | succ m ih =>
    intro hm
    obtain ⟨h1, h2, h3⟩ := ih (by omega)
    have h4 := hc m
    unfold zb at h4
    have h5 := zt_abs (x := c m) (by omega)
    unfold zbd
    have h6 : (zbd c m + zabs (c m)).toInt = (zbd c m).toInt + (zabs (c m)).toInt := zt_add (by omega)
    rw [h6, h5, h1]
    refine ⟨rfl, ?_, ?_⟩
    · omega
    · omega
