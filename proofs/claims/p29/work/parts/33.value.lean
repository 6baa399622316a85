/-! two values beside each other: how far they lie apart -/
theorem zt_near {x b : Int64} {A : Nat} (hx : zb x 1048576) (hb : zb b A) (hA : A ≤ 155222803584) : -1048576 ≤ 1048576 * (zR (x * b) 1048576).toInt - x.toInt * b.toInt ∧ 1048576 * (zR (x * b) 1048576).toInt - x.toInt * b.toInt ≤ 1048576 ∧ zb (zR (x * b) 1048576) 4611686018427387906 := by
  have hB := zb_le hb hA
  have m1 := zb_mul hx hB (by decide)
  have near := zR_near m1.1 (by decide)
  rw [m1.2] at near
  exact ⟨near.1, near.2, zb_R (by decide)⟩
def zQle (X B D R : Int) : Prop := 1048576 * 1048576 * (B * B) - 2 * (1048576 * X) * (B * D) + 1048576 * 1048576 * (D * D) ≤ R * R
def zXle (X : Int) : Prop := X * X ≤ 1048576 * 1048576
theorem zXle_of {x : Int64} (hx : zb x 1048576) : zXle x.toInt := by
  unfold zXle
  have h2 : (x.toInt * x.toInt).natAbs ≤ 1048576 * 1048576 := by
    rw [Int.natAbs_mul]
    exact Nat.mul_le_mul (show x.toInt.natAbs ≤ 1048576 from hx) (show x.toInt.natAbs ≤ 1048576 from hx)
  omega
theorem zQ_h {X B D R : Int} (hX : zXle X) (hR : 0 ≤ R) (hQ : zQle X B D R) : -R ≤ X * B - 1048576 * D ∧ X * B - 1048576 * D ≤ R := by
  unfold zQle at hQ
  unfold zXle at hX
  rw [zq_id] at hQ
  have h1 : 0 ≤ 1048576 * 1048576 - X * X := by omega
  have hp : 0 ≤ (1048576 * 1048576 - X * X) * (B * B) := Int.mul_nonneg h1 (by rcases Int.le_total 0 B with h | h; exact Int.mul_nonneg h h; exact Int.mul_nonneg_of_nonpos_of_nonpos h h)
  refine zsq_le (h := X * B - 1048576 * D) hR ?_
  generalize (1048576 * 1048576 - X * X) * (B * B) = u at *
  generalize (X * B - 1048576 * D) * (X * B - 1048576 * D) = w at *
  generalize R * R = y at *
  clear hX h1
  omega
theorem zQ_s {X B D E R S : Int} (hX : zXle X) (hR : 0 ≤ R) (hS : 0 ≤ S) (hQ : zQle X B D R) (he : -S ≤ 1048576 * E - 2 * (X * B) + 1048576 * D ∧ 1048576 * E - 2 * (X * B) + 1048576 * D ≤ S) : zQle X E B (R + S) := by
  have hee : 1048576 * E = 2 * (X * B) - 1048576 * D + (1048576 * E - 2 * (X * B) + 1048576 * D) := by
    generalize X * B = u
    clear he hQ hX
    omega
  exact (zq_step (N := 1048576) hQ hX hR hS he hee).1
theorem zc_base {R g c0 c1 r r' d d' q q' : Int} (hh : -R ≤ q - q' - 1048576 * (d - d') ∧ q - q' - 1048576 * (d - d') ≤ R) (n1 : -1048576 ≤ 1048576 * r - q ∧ 1048576 * r - q ≤ 1048576) (n2 : -1048576 ≤ 1048576 * r' - q' ∧ 1048576 * r' - q' ≤ 1048576) (g0 : -g ≤ c0 - c1 ∧ c0 - c1 ≤ g) : -(R + (0 + (1048576 * g + 2097152))) ≤ 1048576 * (c0 + r - d - (c1 + r' - d')) ∧ 1048576 * (c0 + r - d - (c1 + r' - d')) ≤ R + (0 + (1048576 * g + 2097152)) := by omega
theorem zc_e {g c0 c1 r r' d d' q q' : Int} (n1 : -1048576 ≤ 1048576 * r - 2 * q ∧ 1048576 * r - 2 * q ≤ 1048576) (n2 : -1048576 ≤ 1048576 * r' - 2 * q' ∧ 1048576 * r' - 2 * q' ≤ 1048576) (g0 : -g ≤ c0 - c1 ∧ c0 - c1 ≤ g) : -(1048576 * g + 2097152) ≤ 1048576 * (c0 + r - d - (c1 + r' - d')) - 2 * (q - q') + 1048576 * (d - d') ∧ 1048576 * (c0 + r - d - (c1 + r' - d')) - 2 * (q - q') + 1048576 * (d - d') ≤ 1048576 * g + 2097152 := by omega
theorem zT2 {t : Nat} (h : t ≤ 24) : t * t * 269484034 ≤ 155222803584 := by
  have := Nat.mul_le_mul h h
  omega
theorem zt_near2 {x b : Int64} (hx : zb x 1048576) (hb : zb b 155222803584) : -1048576 ≤ 1048576 * (zR (2 * x * b) 1048576).toInt - 2 * (x.toInt * b.toInt) ∧ 1048576 * (zR (2 * x * b) 1048576).toInt - 2 * (x.toInt * b.toInt) ≤ 1048576 := by
  have m1 := zb_mul (x := 2) (y := x) (A := 2) (by unfold zb; decide) hx (by decide)
  have m2 := zb_mul m1.1 hb (by decide)
  have nr := zR_near m2.1 (by decide)
  rw [m2.2, m1.2, show (2 : Int64).toInt = 2 from rfl, Int.mul_assoc] at nr
  exact nr
theorem zt_st {c r d : Int64} (hc : zb c 268435456) (hr : zb r 4611686018427387906) (hd : zb d 155222803584) : (c + r - d).toInt = c.toInt + r.toInt - d.toInt := by
  have a1 := zb_add hc hr (by decide)
  rw [(zb_sub a1.1 hd (by decide)).2, a1.2]
/-- the sums of the differences -/
theorem zclen_cmp {c c' : Nat → Int64} {x : Int64} {g : Nat → Int} (hx : zb x 1048576) (hc : zgood c) (hc' : zgood c') : ∀ (k : Nat) (b d b' d' : Int64) (t : Nat) (R : Int), t + k ≤ 24 → (∀ i, i ≤ k → -(g i) ≤ (c i).toInt - (c' i).toInt ∧ (c i).toInt - (c' i).toInt ≤ g i) → zJ x.toInt t b d → zJ x.toInt t b' d' → 0 ≤ R → zQle x.toInt (b.toInt - b'.toInt) (d.toInt - d'.toInt) R →
    -(R + zis (fun i => 1048576 * g i + 2097152) (k + 1)) ≤ 1048576 * ((zclen c x k b d).toInt - (zclen c' x k b' d').toInt) ∧ 1048576 * ((zclen c x k b d).toInt - (zclen c' x k b' d').toInt) ≤ R + zis (fun i => 1048576 * g i + 2097152) (k + 1) := by
  have hX := zXle_of hx
  intro k
  induction k with
  | zero =>
    intro b d b' d' t R ht hg h h' hR hQ
    have hh := zQ_h hX hR hQ
    rw [Int.mul_sub] at hh
    have ht' : t ≤ 24 := ht
    have bb := zb_le h.1 (zT2 ht')
    have bd := zb_le h.2.1 (zT2 ht')
    have bb' := zb_le h'.1 (zT2 ht')
    have bd' := zb_le h'.2.1 (zT2 ht')
    have n1 := zt_near hx bb (Nat.le_refl _)
    have n2 := zt_near hx bb' (Nat.le_refl _)
    have v1 : (zclen c x 0 b d).toInt = (c 0).toInt + (zR (x * b) 1048576).toInt - d.toInt := zt_st (hc 0) n1.2.2 bd
    have v2 : (zclen c' x 0 b' d').toInt = (c' 0).toInt + (zR (x * b') 1048576).toInt - d'.toInt := zt_st (hc' 0) n2.2.2 bd'
    rw [v1, v2]
    exact zc_base hh ⟨n1.1, n1.2.1⟩ ⟨n2.1, n2.2.1⟩ (hg 0 (Nat.le_refl _))
  | succ k ih =>
    intro b d b' d' t R ht hg h h' hR hQ
    have ht' : t ≤ 24 := by omega
    have htk : t + 1 + k ≤ 24 := by omega
    have bb := zb_le h.1 (zT2 ht')
    have bd := zb_le h.2.1 (zT2 ht')
    have bb' := zb_le h'.1 (zT2 ht')
    have bd' := zb_le h'.2.1 (zT2 ht')
    have n1 := zt_near2 hx bb
    have n2 := zt_near2 hx bb'
    have E1 : (c (k + 1) + zR (2 * x * b) 1048576 - d).toInt = (c (k + 1)).toInt + (zR (2 * x * b) 1048576).toInt - d.toInt := zt_st (hc (k + 1)) (zb_R (by decide)) bd
    have E2 : (c' (k + 1) + zR (2 * x * b') 1048576 - d').toInt = (c' (k + 1)).toInt + (zR (2 * x * b') 1048576).toInt - d'.toInt := zt_st (hc' (k + 1)) (zb_R (by decide)) bd'
    have J1 := zJ_step ht' hx (hc (k + 1)) h
    have J2 := zJ_step ht' hx (hc' (k + 1)) h'
    have gk := hg (k + 1) (Nat.le_refl _)
    have hg0 : 0 ≤ 1048576 * g (k + 1) + 2097152 := by
      generalize (c (k + 1)).toInt - (c' (k + 1)).toInt = u at gk
      generalize g (k + 1) = w at gk
      clear E1 E2 n1 n2
      omega
    have st : zQle x.toInt ((c (k + 1) + zR (2 * x * b) 1048576 - d).toInt - (c' (k + 1) + zR (2 * x * b') 1048576 - d').toInt) (b.toInt - b'.toInt) (R + (1048576 * g (k + 1) + 2097152)) := by
      refine zQ_s hX hR hg0 hQ ?_
      rw [E1, E2, Int.mul_sub x.toInt]
      exact zc_e n1 n2 gk
    have r := ih _ _ _ _ (t + 1) (R + (1048576 * g (k + 1) + 2097152)) htk (fun i hi => hg i (Nat.le_succ_of_le hi)) J1 J2 (Int.add_nonneg hR hg0) st
    rw [Int.add_assoc, Int.add_comm (1048576 * g (k + 1) + 2097152)] at r
    exact r
theorem zval_cmp {c c' : Nat → Int64} {x : Int64} {g : Nat → Int} (hx : zb x 1048576) (hc : zgood c) (hc' : zgood c') {n : Nat} (hn : n ≤ 24) (hg : ∀ i, i ≤ n → -(g i) ≤ (c i).toInt - (c' i).toInt ∧ (c i).toInt - (c' i).toInt ≤ g i) : -(zis g (n + 1) + 2 * (n + 1)) ≤ (zval c n x).toInt - (zval c' n x).toInt ∧ (zval c n x).toInt - (zval c' n x).toInt ≤ zis g (n + 1) + 2 * (n + 1) := by
  have h := zclen_cmp hx hc hc' n 0 0 0 0 0 0 (by omega) hg (zJ_0 _) (zJ_0 _) (Int.le_refl 0) (by unfold zQle; rw [show (0 : Int64).toInt - (0 : Int64).toInt = 0 from rfl]; omega)
  have e : zis (fun i => 1048576 * g i + 2097152) (n + 1) = 1048576 * zis g (n + 1) + (n + 1 : Nat) * 2097152 := by
    rw [zis_add (fun i => 1048576 * g i) (fun _ => 2097152), zis_mul, zis_const]
  rw [e] at h
  unfold zval
  generalize (zclen c x n 0 0).toInt - (zclen c' x n 0 0).toInt = u at h ⊢
  generalize zis g (n + 1) = w at h ⊢
  clear e
  omega
theorem zclen_z (x : Int64) : ∀ k, zclen (fun _ => 0) x k 0 0 = 0 := by
  intro k
  induction k with
  | zero => unfold zclen; rw [Int64.mul_zero]; decide
  | succ k ih =>
    unfold zclen
    rw [Int64.mul_zero, show (0 + zR 0 1048576 - 0 : Int64) = 0 from by decide]
    exact ih
theorem zval_ext {c : Nat → Int64} {x : Int64} {m : Nat} : ∀ k, (∀ i, m < i → i ≤ m + k → c i = 0) → zval c (m + k) x = zval c m x := by
  intro k
  induction k with
  | zero => intro _; rfl
  | succ k ih =>
    intro h
    rw [← ih (fun i h1 h2 => h i h1 (by omega))]
    unfold zval
    show zclen c x (m + k) (c (m + k + 1) + zR (2 * x * 0) 1048576 - 0) 0 = _
    rw [h (m + k + 1) (by omega) (by omega), Int64.mul_zero, show (0 + zR 0 1048576 - 0 : Int64) = 0 from by decide]
/-- a value is no more than the sum of the coefficients, and some rounding -/
theorem zval_bd {c : Nat → Int64} {x : Int64} (hx : zb x 1048576) (hc : zgood c) {n : Nat} (hn : n ≤ 24) : -(zis (fun i => ((c i).toInt.natAbs : Int)) (n + 1) + 2 * (n + 1)) ≤ (zval c n x).toInt ∧ (zval c n x).toInt ≤ zis (fun i => ((c i).toInt.natAbs : Int)) (n + 1) + 2 * (n + 1) := by
  have h := zval_cmp (c := c) (c' := fun _ => 0) (x := x) (g := fun i => ((c i).toInt.natAbs : Int)) hx hc (fun _ => Nat.zero_le _) hn (fun i _ => by
    show -((c i).toInt.natAbs : Int) ≤ (c i).toInt - (0 : Int64).toInt ∧ (c i).toInt - (0 : Int64).toInt ≤ ((c i).toInt.natAbs : Int)
    rw [show (0 : Int64).toInt = 0 from rfl]
    omega)
  rw [show zval (fun _ => 0) n x = 0 from zclen_z x n, show (0 : Int64).toInt = 0 from rfl] at h
  omega
