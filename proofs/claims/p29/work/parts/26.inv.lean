/-! what stays true of the series -/
def zb (x : Int64) (A : Nat) : Prop := x.toInt.natAbs ≤ A
theorem zb_le {x : Int64} {A B : Nat} (h : zb x A) (hAB : A ≤ B) : zb x B := Nat.le_trans h hAB
theorem zb_0 : zb 0 0 := by unfold zb; decide
theorem zb_add {x y : Int64} {A B : Nat} (hx : zb x A) (hy : zb y B) (h : A + B < 9223372036854775808) : zb (x + y) (A + B) ∧ (x + y).toInt = x.toInt + y.toInt := by
  unfold zb at *
  have e : (x + y).toInt = x.toInt + y.toInt := by
    rw [Int64.toInt_add]
    apply Int.bmod_eq_of_le <;> omega
  rw [e]
  exact ⟨by omega, rfl⟩
theorem zb_sub {x y : Int64} {A B : Nat} (hx : zb x A) (hy : zb y B) (h : A + B < 9223372036854775808) : zb (x - y) (A + B) ∧ (x - y).toInt = x.toInt - y.toInt := by
  unfold zb at *
  have e : (x - y).toInt = x.toInt - y.toInt := by
    rw [Int64.toInt_sub]
    apply Int.bmod_eq_of_le <;> omega
  rw [e]
  exact ⟨by omega, rfl⟩
theorem zb_mul {x y : Int64} {A B : Nat} (hx : zb x A) (hy : zb y B) (h : A * B < 9223372036854775808) : zb (x * y) (A * B) ∧ (x * y).toInt = x.toInt * y.toInt := by
  unfold zb at *
  have h1 : (x.toInt * y.toInt).natAbs ≤ A * B := by rw [Int.natAbs_mul]; exact Nat.mul_le_mul hx hy
  have e : (x * y).toInt = x.toInt * y.toInt := by
    rw [Int64.toInt_mul]
    generalize x.toInt * y.toInt = z at *
    generalize A * B = w at *
    apply Int.bmod_eq_of_le <;> omega
  rw [e]
  exact ⟨h1, rfl⟩
theorem zb_div {v d : Int64} (h : 2 ≤ d.toInt) : zb (v / d) 4611686018427387904 := by
  unfold zb
  have hv := v.le_toInt
  have hv2 := v.toInt_lt
  have e : (v / d).toInt = v.toInt.tdiv d.toInt := by
    rw [Int64.toInt_div]
    have h1 : (v.toInt.tdiv d.toInt).natAbs = v.toInt.natAbs / d.toInt.natAbs := Int.natAbs_tdiv _ _
    have h2 : v.toInt.natAbs / d.toInt.natAbs ≤ v.toInt.natAbs / 2 := Nat.div_le_div_left (by omega) (by decide)
    apply Int.bmod_eq_of_le <;> omega
  have e3 : (v.toInt.tdiv d.toInt).natAbs = v.toInt.natAbs / d.toInt.natAbs := Int.natAbs_tdiv _ _
  rw [e, e3]
  have h2 : v.toInt.natAbs / d.toInt.natAbs ≤ v.toInt.natAbs / 2 := Nat.div_le_div_left (by omega) (by decide)
  omega
theorem zb_R {v d : Int64} (h : 2 ≤ d.toInt) : zb (zR v d) 4611686018427387906 := by
  have h1 := zb_div (v := v) h
  have h0 : zb 1 1 := by unfold zb; decide
  have hf : zb (zfl v d) 4611686018427387905 := by
    unfold zfl
    split
    · exact zb_le (zb_sub h1 h0 (by decide)).1 (by decide)
    · exact zb_le h1 (by decide)
  unfold zR
  split
  · exact zb_le hf (by decide)
  · exact zb_le (zb_add hf h0 (by decide)).1 (by decide)
theorem zb_up {f : Nat → Int64} {k : Nat} {x : Int64} {A : Nat} (hf : ∀ j, zb (f j) A) (hx : zb x A) : ∀ j, zb (vp_updL f k x j) A := by
  intro j
  unfold vp_updL
  split
  · exact hx
  · exact hf j
/-- small: not the least number of all -/
theorem zb_abs {x : Int64} {B : Nat} (h : zabs x ≤ 268435456) (hb : zb x B) (hB : B < 9223372036854775808) : zb x 268435456 := by
  unfold zabs at h
  unfold zb at *
  have e : (268435456 : Int64).toInt = 268435456 := rfl
  have e0 : (0 : Int64).toInt = 0 := rfl
  split at h
  · rename_i h1
    rw [Int64.le_iff_toInt_le, e] at h
    rw [Int64.lt_iff_toInt_lt, e0] at h1
    omega
  · rename_i h1
    rw [Int64.lt_iff_toInt_lt, e0] at h1
    have e2 : (-x).toInt = -x.toInt := by
      rw [Int64.toInt_neg]
      apply Int.bmod_eq_of_le <;> omega
    rw [Int64.le_iff_toInt_le, e, e2] at h
    omega
theorem zabs_b {x : Int64} (hb : zb x 268435456) : zabs x ≤ 268435456 := by
  unfold zabs
  unfold zb at hb
  have e : (268435456 : Int64).toInt = 268435456 := rfl
  have e0 : (0 : Int64).toInt = 0 := rfl
  split
  · rename_i h1
    rw [Int64.le_iff_toInt_le, e]
    omega
  · rename_i h1
    rw [Int64.lt_iff_toInt_lt, e0] at h1
    have e2 : (-x).toInt = -x.toInt := by
      rw [Int64.toInt_neg]
      apply Int.bmod_eq_of_le <;> omega
    rw [Int64.le_iff_toInt_le, e, e2]
    omega
def zgood (f : Nat → Int64) : Prop := ∀ j, zb (f j) 268435456
def zInv (P : Nat → Nat → Int64) (n : Nat → Nat) : Prop := ∀ i, i < 8 → n i ≤ 24 ∧ (∀ j, n i < j → P i j = 0) ∧ zgood (P i) ∧ (n i = 0 ∨ ¬ P i (n i) = 0)
theorem zInv_0 : zInv (fun _ _ => 0) (fun _ => 0) := fun _ _ => ⟨Nat.zero_le _, fun _ _ => rfl, fun _ => Nat.zero_le _, Or.inl rfl⟩
theorem zInv_up {P : Nat → Nat → Int64} {n : Nat → Nat} (h : zInv P n) {t : Nat} {f : Nat → Int64} {d : Nat} (hd : d ≤ 24) (hz : ∀ j, d < j → f j = 0) (hg : zgood f) (ht : d = 0 ∨ ¬ f d = 0) : zInv (va_up P t f) (va_up n t d) := by
  intro i hi
  by_cases e : i = t
  · subst e
    rw [va_up_eq, va_up_eq]
    exact ⟨hd, hz, hg, ht⟩
  · rw [zup8 _ _ e, zup8 _ _ e]
    exact h i hi
theorem ztop_nz (f : Nat → Int64) : ∀ N, ztop f N = 0 ∨ ¬ f (ztop f N) = 0 := by
  intro N
  induction N with
  | zero => exact Or.inl rfl
  | succ N ih =>
    unfold ztop
    split
    · exact ih
    · rename_i h
      exact Or.inr h
theorem zke_abs {f : Nat → Int64} (h : zke f = 0) : ∀ j, j < 49 → zabs (f j) ≤ 268435456 := by
  intro j hj
  unfold zke zerr at h
  split at h
  · exact absurd h (by decide)
  · split at h
    · exact absurd h (by decide)
    · rename_i h2
      rcases Int64.lt_or_le 268435456 (zabs (f j)) with h3 | h3
      · exact absurd (zbig_of h3 49 hj) h2
      · exact h3
theorem zbig_no {f : Nat → Int64} (h : zgood f) : ∀ k, zbig f k = false := by
  intro k
  induction k with
  | zero => rfl
  | succ k ih => exact zbig_s ih (zabs_b (h k))
theorem zke_good {f : Nat → Int64} (h : zgood f) (ht : ztop f 48 ≤ 24) : zke f = 0 := by
  unfold zke zerr
  rw [if_neg (by omega), if_neg (by rw [zbig_no h]; decide)]
theorem zke_or {f : Nat → Int64} (ht : ztop f 48 ≤ 24) : zke f = 0 ∨ zke f = -9000000000000000003 := by
  unfold zke zerr
  rw [if_neg (by omega)]
  split
  · exact Or.inr rfl
  · exact Or.inl rfl
theorem zgood_k {f : Nat → Int64} (hk : zke f = 0) (hz : ∀ j, 48 < j → f j = 0) (hb : ∀ j, j < 49 → zb (f j) 9223372036854775807) : zgood f := by
  intro j
  rcases Nat.lt_or_ge 48 j with h | h
  · rw [hz j h]; exact Nat.zero_le _
  · exact zb_abs (zke_abs hk j (by omega)) (hb j (by omega)) (by decide)
theorem zabove {f : Nat → Int64} (hz : ∀ j, 48 < j → f j = 0) : ∀ j, ztop f 48 < j → f j = 0 := by
  intro j hj
  rcases Nat.lt_or_ge 48 j with h | h
  · exact hz j h
  · exact ztop_above j hj h
theorem zInv_k {P : Nat → Nat → Int64} {n : Nat → Nat} (h : zInv P n) (t : Nat) {f : Nat → Int64} (hz : ∀ j, 48 < j → f j = 0) (hb : zke f = 0 → ∀ j, j < 49 → zb (f j) 9223372036854775807) : zInv (zkP P t f) (zkN n t f) := by
  unfold zkP zkN
  split
  · rename_i hk
    exact zInv_up h (zke_24 hk) (zabove hz) (zgood_k hk hz (hb hk)) (ztop_nz f 48)
  · exact h
