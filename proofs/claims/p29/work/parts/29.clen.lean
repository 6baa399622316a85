/-! a value of a series is small: the steps -/
theorem zJ_step {x c b d : Int64} {t : Nat} (ht : t ≤ 24) (hx : zb x 1048576) (hc : zb c 268435456) (h : zJ x.toInt t b d) : zJ x.toInt (t + 1) (c + zR (2 * x * b) 1048576 - d) b := by
  obtain ⟨h1, h2, h3⟩ := h
  have hT : t * t ≤ 576 := Nat.mul_le_mul ht ht
  have hT2 : (t + 1) * (t + 1) = t * t + 2 * t + 1 := by grind
  unfold zJ
  rw [hT2]
  generalize t * t = T2 at *
  have hB : zb b 155222803584 := zb_le h1 (by omega)
  have hD : zb d 155222803584 := zb_le h2 (by omega)
  have m1 := zb_mul (x := 2) (y := x) (A := 2) (by unfold zb; decide) hx (by decide)
  have m2 := zb_mul m1.1 hB (by decide)
  have near := zR_near m2.1 (by decide)
  rw [m2.2, m1.2, show (2 : Int64).toInt = 2 from rfl] at near
  have hr := zb_R (v := 2 * x * b) (d := 1048576) (by decide)
  have a1 := zb_add hc hr (by decide)
  have a2 := zb_sub a1.1 hD (by decide)
  have hE : (c + zR (2 * x * b) 1048576 - d).toInt = c.toInt + (zR (2 * x * b) 1048576).toInt - d.toInt := by rw [a2.2, a1.2]
  have hX : x.toInt * x.toInt ≤ 1048576 * 1048576 := by
    have h2 : (x.toInt * x.toInt).natAbs ≤ 1048576 * 1048576 := by
      rw [Int.natAbs_mul]
      exact Nat.mul_le_mul (show x.toInt.natAbs ≤ 1048576 from hx) (show x.toInt.natAbs ≤ 1048576 from hx)
    omega
  have hc2 : -268435456 ≤ c.toInt ∧ c.toInt ≤ 268435456 := by unfold zb at hc; omega
  have hXB : (x.toInt * b.toInt).natAbs ≤ 1048576 * (T2 * 269484034) := by rw [Int.natAbs_mul]; exact Nat.mul_le_mul (show x.toInt.natAbs ≤ 1048576 from hx) (show b.toInt.natAbs ≤ T2 * 269484034 from h1)
  have hne : 2 * x.toInt * b.toInt = 2 * (x.toInt * b.toInt) := by grind
  rw [hne] at near
  have hRS : ((t * 282574488338432 : Nat) : Int) + 282574488338432 = (((t + 1) * 282574488338432 : Nat) : Int) := by omega
  have hbe : -282574488338432 ≤ 1048576 * c.toInt + (1048576 * (zR (2 * x * b) 1048576).toInt - 2 * (x.toInt * b.toInt)) ∧ 1048576 * c.toInt + (1048576 * (zR (2 * x * b) 1048576).toInt - 2 * (x.toInt * b.toInt)) ≤ 282574488338432 := by
    clear hE a2 a1 hr m1 m2 h3 hX
    omega
  have hee : 1048576 * (c + zR (2 * x * b) 1048576 - d).toInt = 2 * (x.toInt * b.toInt) - 1048576 * d.toInt + (1048576 * c.toInt + (1048576 * (zR (2 * x * b) 1048576).toInt - 2 * (x.toInt * b.toInt))) := by
    rw [hE]
    clear hbe hE a2 a1 hr m1 m2 h3 hX near
    omega
  have st := zq_step (N := 1048576) (X := x.toInt) (B := b.toInt) (D := d.toInt) (E := (c + zR (2 * x * b) 1048576 - d).toInt) (e := 1048576 * c.toInt + (1048576 * (zR (2 * x * b) 1048576).toInt - 2 * (x.toInt * b.toInt))) (R := ((t * 282574488338432 : Nat) : Int)) (S := 282574488338432) h3 hX (Int.natCast_nonneg _) (by decide) hbe hee
  rw [hRS] at st
  refine ⟨?_, zb_le h1 (by omega), st.1⟩
  have s2 := st.2
  unfold zb
  generalize (c + zR (2 * x * b) 1048576 - d).toInt = E at s2 ⊢
  generalize x.toInt * b.toInt = XB at s2 hXB
  omega
theorem zJ_0 (X : Int) : zJ X 0 0 0 := by
  refine ⟨Nat.zero_le _, Nat.zero_le _, ?_⟩
  rw [show (0 : Int64).toInt = 0 from rfl]
  omega
theorem zb_clen {c : Nat → Int64} {x : Int64} (hx : zb x 1048576) (hc : zgood c) : ∀ (k : Nat) (b d : Int64) (t : Nat), t + k ≤ 24 → zJ x.toInt t b d → zb (zclen c x k b d) 9223372036854775806 := by
  intro k
  induction k with
  | zero =>
    intro b d t ht h
    have hT : t * t ≤ 576 := Nat.mul_le_mul (show t ≤ 24 by omega) (show t ≤ 24 by omega)
    have h1 := h.1
    have h2 := h.2.1
    generalize t * t = T2 at hT h1 h2
    have hB : zb b 155222803584 := zb_le h1 (by omega)
    have hD : zb d 155222803584 := zb_le h2 (by omega)
    have m1 := zb_mul hx hB (by decide)
    have r1 := zb_R2 (d := 1048576) m1.1 (by decide) (by decide)
    unfold zclen
    exact zb_le (zb_sub (zb_add (hc 0) r1 (by decide)).1 hD (by decide)).1 (by decide)
  | succ k ih =>
    intro b d t ht h
    unfold zclen
    exact ih _ _ (t + 1) (by omega) (zJ_step (by omega) hx (hc (k + 1)) h)
theorem zb_val {c : Nat → Int64} {d : Nat} {x : Int64} (hx : zb x 1048576) (hc : zgood c) (hd : d ≤ 24) : zb (zval c d x) 9223372036854775806 := zb_clen hx hc d 0 0 0 (by omega) (zJ_0 _)
theorem zcosb (k : Nat) : zb (zcosv k).toInt64 1048576 := by
  have hz : ∀ j, 0 ≤ (zcos j).toInt ∧ (zcos j).toInt ≤ 1048576 := by
    intro j
    unfold zcos
    (repeat' split) <;> decide
  unfold zcosv
  split
  · exact zb_I (A := 1048576) (by have := hz (zhalf k); omega)
  · have h1 := hz (16 - zhalf k)
    have e : (-zcos (16 - zhalf k)).toInt = -(zcos (16 - zhalf k)).toInt := by
      rw [Int32.toInt_neg]
      apply Int.bmod_eq_of_le <;> omega
    exact zb_I (A := 1048576) (by rw [e]; omega)
theorem zsm {P : Nat → Nat → Int64} {n : Nat → Nat} (hI : zInv P n) : ∀ a q j, a ≤ 7 → q ≤ 4 → j ≤ 2 ^ q → zabs (zsv (P a) (n a) q j) ≤ 134217728 → (zsv (P a) (n a) q j).toInt32.toInt64 = zsv (P a) (n a) q j := by
  intro a q j ha _ _ h
  obtain ⟨h1, _, h3, _⟩ := zI_good hI ha
  have hb : zb (zsv (P a) (n a) q j) 9223372036854775806 := zb_val (zcosb _) h3 h1
  generalize zsv (P a) (n a) q j = z at h hb
  have h2 := zb_abs (Int64.le_trans h (by decide)) hb (by decide)
  unfold zb at h2
  apply Int64.toInt_inj.mp
  rw [Int32.toInt_toInt64, Int64.toInt_toInt32]
  apply Int.bmod_eq_of_le <;> omega
