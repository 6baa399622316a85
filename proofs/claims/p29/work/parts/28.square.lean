/-! a value of a series is not too large: the sum that Clenshaw's steps keep -/
theorem zq_id (N X B D : Int) : N * N * (B * B) - 2 * (N * X) * (B * D) + N * N * (D * D) = (X * B - N * D) * (X * B - N * D) + (N * N - X * X) * (B * B) := by grind
theorem zq_id2 (N X B D E e : Int) (h : N * E = 2 * (X * B) - N * D + e) : N * N * (E * E) - 2 * (N * X) * (E * B) + N * N * (B * B) = (X * B - N * D + e) * (X * B - N * D + e) + (N * N - X * X) * (B * B) := by grind
theorem zsq_le {h R : Int} (hR : 0 ≤ R) (hh : h * h ≤ R * R) : -R ≤ h ∧ h ≤ R := by
  have key : ∀ k : Int, k * k ≤ R * R → k ≤ R := by
    intro k hk
    rcases Int.lt_or_le R k with h1 | h1
    · exfalso
      have a1 : R * R ≤ R * k := Int.mul_le_mul_of_nonneg_left (Int.le_of_lt h1) hR
      have a2 : R * k < k * k := Int.mul_lt_mul_of_pos_right h1 (by omega)
      omega
    · exact h1
  have h2 := key h hh
  have h3 := key (-h) (by rw [Int.neg_mul_neg]; exact hh)
  exact ⟨by omega, h2⟩
theorem zq_step {N X B D E e R S : Int} (hQ : N * N * (B * B) - 2 * (N * X) * (B * D) + N * N * (D * D) ≤ R * R) (hX : X * X ≤ N * N) (hR : 0 ≤ R) (hS : 0 ≤ S) (he : -S ≤ e ∧ e ≤ S) (h : N * E = 2 * (X * B) - N * D + e) :
    N * N * (E * E) - 2 * (N * X) * (E * B) + N * N * (B * B) ≤ (R + S) * (R + S) ∧ (-(R + S) ≤ N * E - X * B ∧ N * E - X * B ≤ R + S) := by
  rw [zq_id] at hQ
  have hp : 0 ≤ (N * N - X * X) * (B * B) := Int.mul_nonneg (by omega) (by rcases Int.le_total 0 B with h | h; exact Int.mul_nonneg h h; exact Int.mul_nonneg_of_nonpos_of_nonpos h h)
  have hh := zsq_le (h := X * B - N * D) hR (by omega)
  have e1 : N * E - X * B = X * B - N * D + e := by grind
  refine ⟨?_, by rw [e1]; omega⟩
  rw [zq_id2 N X B D E e h]
  generalize hu : X * B - N * D = u at hQ hh ⊢
  have h1 : u * e ≤ R * S := by
    have h2 : (u * e).natAbs ≤ R.natAbs * S.natAbs := by rw [Int.natAbs_mul]; exact Nat.mul_le_mul (by omega) (by omega)
    have h3 : ((R.natAbs * S.natAbs : Nat) : Int) = R * S := by rw [Int.natCast_mul, Int.natAbs_of_nonneg hR, Int.natAbs_of_nonneg hS]
    omega
  have h2 : e * e ≤ S * S := by
    have h2 : (e * e).natAbs ≤ S.natAbs * S.natAbs := by rw [Int.natAbs_mul]; exact Nat.mul_le_mul (by omega) (by omega)
    have h3 : ((S.natAbs * S.natAbs : Nat) : Int) = S * S := by rw [Int.natCast_mul, Int.natAbs_of_nonneg hS]
    omega
  have e2 : (u + e) * (u + e) = u * u + 2 * (u * e) + e * e := by grind
  have e3 : (R + S) * (R + S) = R * R + 2 * (R * S) + S * S := by grind
  rw [e2, e3]
  omega
/-- how far a rounded quotient is from the quotient -/
theorem zR_near {v : Int64} {A : Nat} (hv : zb v A) (hA : A ≤ 4611686018427387904) : -1048576 ≤ 1048576 * (zR v 1048576).toInt - v.toInt ∧ 1048576 * (zR v 1048576).toInt - v.toInt ≤ 1048576 := by
  unfold zb at hv
  have ed : (v / 1048576).toInt = v.toInt.tdiv 1048576 := by
    rw [Int64.toInt_div, show (1048576 : Int64).toInt = 1048576 from rfl]
    have h1 : (v.toInt.tdiv 1048576).natAbs = v.toInt.natAbs / 1048576 := Int.natAbs_tdiv _ _
    apply Int.bmod_eq_of_le <;> omega
  have h1 : (v.toInt.tdiv 1048576).natAbs = v.toInt.natAbs / 1048576 := Int.natAbs_tdiv _ _
  have hm := Int.mul_tdiv_add_tmod v.toInt 1048576
  have hm2 : (v.toInt.tmod 1048576).natAbs < 1048576 := by
    rw [Int.natAbs_tmod]; exact Nat.mod_lt _ (by decide)
  have hq : zb (v / 1048576) 4398046511104 := by unfold zb; rw [ed]; omega
  have hmul : zb (v / 1048576 * 1048576) 4611686018427387904 ∧ (v / 1048576 * 1048576).toInt = (v / 1048576).toInt * 1048576 := by
    have := zb_mul (y := 1048576) (B := 1048576) hq (by unfold zb; decide) (by decide)
    exact this
  have hsg : 0 ≤ v.toInt → 0 ≤ v.toInt.tmod 1048576 := fun h => Int.tmod_nonneg _ h
  have hzf : (zfl v 1048576).toInt * 1048576 ≤ v.toInt ∧ v.toInt < (zfl v 1048576).toInt * 1048576 + 1048576 ∧ zb (zfl v 1048576) 4398046511105 := by
    unfold zfl
    split
    · rename_i hlt
      rw [Int64.lt_iff_toInt_lt, hmul.2, ed] at hlt
      have hs := zb_sub (y := 1) (B := 1) hq (by unfold zb; decide) (by decide)
      rw [hs.2, ed, show (1 : Int64).toInt = 1 from rfl]
      refine ⟨by omega, by omega, hs.1⟩
    · rename_i hlt
      rw [Int64.lt_iff_toInt_lt, hmul.2, ed] at hlt
      rw [ed]
      refine ⟨by omega, by omega, zb_le hq (by decide)⟩
  unfold zR
  split
  · omega
  · have hs := zb_add (y := 1) (B := 1) hzf.2.2 (by unfold zb; decide) (by decide)
    rw [hs.2, show (1 : Int64).toInt = 1 from rfl]
    omega
/-- the steps' bounds -/
def zJ (X : Int) (t : Nat) (b d : Int64) : Prop := zb b (t * t * 269484034) ∧ zb d (t * t * 269484034) ∧ 1048576 * 1048576 * (b.toInt * b.toInt) - 2 * (1048576 * X) * (b.toInt * d.toInt) + 1048576 * 1048576 * (d.toInt * d.toInt) ≤ ((t * 282574488338432 : Nat) : Int) * ((t * 282574488338432 : Nat) : Int)
