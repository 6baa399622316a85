/-! a series through its own values at extreme points -/
abbrev zC (m : Nat) : Int := (zcosv m).toInt
theorem zC_64 (m : Nat) : (zcosv m).toInt64.toInt = zC m := Int32.toInt_toInt64 _
theorem zC_b (m : Nat) : -1048576 ≤ zC m ∧ zC m ≤ 1048576 := by
  have h := zb_i (zcosb m)
  rw [zC_64] at h
  omega
theorem zC_r : ∀ m, m < 17 → ∀ i, i < 16 → -3145728 ≤ 1048576 * zC ((i + 2) * m) - 2 * zC m * zC ((i + 1) * m) + 1048576 * zC (i * m) ∧ 1048576 * zC ((i + 2) * m) - 2 * zC m * zC ((i + 1) * m) + 1048576 * zC (i * m) ≤ 3145728 := by decide +kernel
theorem zC_0 : zC 0 = 1048576 := by decide +kernel
def zeE : Nat → Nat → Int
  | 0, _ => 1048576
  | k + 1, t => 1048576 + 900003 * (t * t) + zeE k (t + 1)
theorem zeE_ok : ∀ d, d < 17 → zeE d 0 ≤ 1134000000 := by decide +kernel
theorem zW_b {x b d c z e : Int} {t : Nat} (hx : -1048576 ≤ x ∧ x ≤ 1048576) (hb : b.natAbs ≤ t * t * 300001) (hc : -300000 ≤ c ∧ c ≤ 300000) (hz : -1048576 ≤ 1048576 * z - 2 * (x * b) ∧ 1048576 * z - 2 * (x * b) ≤ 1048576) (hh : -((t : Int) * 314573848576) ≤ x * b - 1048576 * d ∧ x * b - 1048576 * d ≤ (t : Int) * 314573848576) (he : e = c + z - d) : e.natAbs ≤ (t + 1) * (t + 1) * 300001 := by
  have h1 : (x * b).natAbs ≤ 1048576 * (t * t * 300001) := by
    rw [Int.natAbs_mul]
    exact Nat.mul_le_mul (by omega) hb
  have h2 : (t + 1) * (t + 1) = t * t + 2 * t + 1 := by grind
  rw [h2]
  generalize t * t = T at *
  generalize x * b = w at *
  clear h2 hb hx
  omega
theorem zW_e {c z d q : Int} (hc : -300000 ≤ c ∧ c ≤ 300000) (hz : -1048576 ≤ 1048576 * z - 2 * q ∧ 1048576 * z - 2 * q ≤ 1048576) : -314573848576 ≤ 1048576 * (c + z - d) - 2 * q + 1048576 * d ∧ 1048576 * (c + z - d) - 2 * q + 1048576 * d ≤ 314573848576 := by omega
/-- one step of the sum beside the table -/
theorem zW_s {x b d c z C0 C1 C2 T : Int} (hC : -1048576 ≤ C1 ∧ C1 ≤ 1048576) (hr : -3145728 ≤ 1048576 * C2 - 2 * x * C1 + 1048576 * C0 ∧ 1048576 * C2 - 2 * x * C1 + 1048576 * C0 ≤ 3145728) (hb : (b.natAbs : Int) ≤ T * 300001) (hz : -1048576 ≤ 1048576 * z - 2 * (x * b) ∧ 1048576 * z - 2 * (x * b) ≤ 1048576) :
    -(1048576 + 900003 * T) ≤ ((c + z - d) * C1 - b * C0) - (c * C1 + b * C2 - d * C1) ∧ ((c + z - d) * C1 - b * C0) - (c * C1 + b * C2 - d * C1) ≤ 1048576 + 900003 * T := by
  have e : 1048576 * (((c + z - d) * C1 - b * C0) - (c * C1 + b * C2 - d * C1)) = (1048576 * z - 2 * (x * b)) * C1 - b * (1048576 * C2 - 2 * x * C1 + 1048576 * C0) := by grind
  have h1 : ((1048576 * z - 2 * (x * b)) * C1).natAbs ≤ 1048576 * 1048576 := by
    rw [Int.natAbs_mul]
    exact Nat.mul_le_mul (by omega) (by omega)
  have h2 : (b * (1048576 * C2 - 2 * x * C1 + 1048576 * C0)).natAbs ≤ b.natAbs * 3145728 := by
    rw [Int.natAbs_mul]
    exact Nat.mul_le_mul (Nat.le_refl _) (by omega)
  generalize ((c + z - d) * C1 - b * C0) - (c * C1 + b * C2 - d * C1) = w at *
  generalize (1048576 * z - 2 * (x * b)) * C1 = u at *
  generalize b * (1048576 * C2 - 2 * x * C1 + 1048576 * C0) = v at *
  clear hr hz hC
  omega
theorem zW_0 {x b d c z : Int} (hz : -1048576 ≤ 1048576 * z - x * b ∧ 1048576 * z - x * b ≤ 1048576) : -1048576 ≤ 1048576 * (c + z - d) - (0 + c * 1048576 + b * x - d * 1048576) ∧ 1048576 * (c + z - d) - (0 + c * 1048576 + b * x - d * 1048576) ≤ 1048576 := by
  rw [Int.mul_comm b x]
  generalize x * b = w at *
  omega
theorem zW_f {Z T V A u1 u2 u3 u4 u5 : Int} (r : -Z ≤ 1048576 * V - (A + u1 - u5) ∧ 1048576 * V - (A + u1 - u5) ≤ Z) (s : -(1048576 + 900003 * T) ≤ u1 - u5 - (u2 + u3 - u4) ∧ u1 - u5 - (u2 + u3 - u4) ≤ 1048576 + 900003 * T) : -(1048576 + 900003 * T + Z) ≤ 1048576 * V - (A + u2 + u3 - u4) ∧ 1048576 * V - (A + u2 + u3 - u4) ≤ 1048576 + 900003 * T + Z := by omega
theorem zt16 {t : Nat} (h : t ≤ 16) : t * t * 300001 ≤ 155222803584 := by
  have := Nat.mul_le_mul h h
  omega
theorem zclen_W {f : Nat → Int64} {m : Nat} (hf : ∀ j, zb (f j) 300000) (hm : m < 17) : ∀ (k : Nat) (b d : Int64) (t : Nat), t + k ≤ 16 → zb b (t * t * 300001) → zb d (t * t * 300001) → zQle (zC m) b.toInt d.toInt ((t : Int) * 314573848576) →
    -(zeE k t) ≤ 1048576 * (zclen f (zcosv m).toInt64 k b d).toInt - (zis (fun i => (f i).toInt * zC (i * m)) (k + 1) + b.toInt * zC ((k + 1) * m) - d.toInt * zC (k * m)) ∧ 1048576 * (zclen f (zcosv m).toInt64 k b d).toInt - (zis (fun i => (f i).toInt * zC (i * m)) (k + 1) + b.toInt * zC ((k + 1) * m) - d.toInt * zC (k * m)) ≤ zeE k t := by
  have hx := zcosb m
  have hX := zXle_of hx
  have ex := zC_64 m
  rw [ex] at hX
  have hCm := zC_b m
  intro k
  induction k with
  | zero =>
    intro b d t ht hb hd hQ
    have ht' : t ≤ 16 := ht
    have bb := zb_le hb (zt16 ht')
    have bd := zb_le hd (zt16 ht')
    have n1 := zt_near hx bb (Nat.le_refl _)
    have v1 : (zclen f (zcosv m).toInt64 0 b d).toInt = (f 0).toInt + (zR ((zcosv m).toInt64 * b) 1048576).toInt - d.toInt := zt_st (zb_le (hf 0) (by decide)) n1.2.2 bd
    rw [v1, Nat.zero_mul, Nat.zero_add, Nat.one_mul, zC_0]
    show -(1048576 : Int) ≤ _ - (0 + (f 0).toInt * zC (0 * m) + b.toInt * zC m - d.toInt * 1048576) ∧ _ - (0 + (f 0).toInt * zC (0 * m) + b.toInt * zC m - d.toInt * 1048576) ≤ 1048576
    rw [Nat.zero_mul, zC_0]
    rw [ex] at n1
    exact zW_0 ⟨n1.1, n1.2.1⟩
  | succ k ih =>
    intro b d t ht hb hd hQ
    have ht' : t ≤ 16 := by omega
    have htk : t + 1 + k ≤ 16 := by omega
    have bb := zb_le hb (zt16 ht')
    have bd := zb_le hd (zt16 ht')
    have n1 := zt_near2 hx bb
    rw [ex] at n1
    have hc := zb_i (hf (k + 1))
    have E1 : (f (k + 1) + zR (2 * (zcosv m).toInt64 * b) 1048576 - d).toInt = (f (k + 1)).toInt + (zR (2 * (zcosv m).toInt64 * b) 1048576).toInt - d.toInt := zt_st (zb_le (hf (k + 1)) (by decide)) (zb_R (by decide)) bd
    have hR0 : (0 : Int) ≤ (t : Int) * 314573848576 := by omega
    have hh := zQ_h hX hR0 hQ
    have hb2 : zb (f (k + 1) + zR (2 * (zcosv m).toInt64 * b) 1048576 - d) ((t + 1) * (t + 1) * 300001) := zW_b hCm hb hc n1 hh E1
    have hd2 : zb b ((t + 1) * (t + 1) * 300001) := zb_le hb (Nat.mul_le_mul_right _ (Nat.mul_le_mul (Nat.le_succ t) (Nat.le_succ t)))
    have hQ2 : zQle (zC m) (f (k + 1) + zR (2 * (zcosv m).toInt64 * b) 1048576 - d).toInt b.toInt (((t + 1 : Nat) : Int) * 314573848576) := by
      have e : ((t + 1 : Nat) : Int) * 314573848576 = (t : Int) * 314573848576 + 314573848576 := by omega
      rw [e, E1]
      exact zQ_s hX hR0 (by decide) hQ (zW_e hc n1)
    have r := ih _ _ (t + 1) htk hb2 hd2 hQ2
    have s := zW_s (c := (f (k + 1)).toInt) (d := d.toInt) (T := ((t * t : Nat) : Int)) (zC_b ((k + 1) * m)) (zC_r m hm k (by omega)) (by unfold zb at hb; omega) n1
    rw [E1] at r
    show -(1048576 + 900003 * ((t : Int) * (t : Int)) + zeE k (t + 1)) ≤ 1048576 * (zclen f (zcosv m).toInt64 k (f (k + 1) + zR (2 * (zcosv m).toInt64 * b) 1048576 - d) b).toInt - (zis (fun i => (f i).toInt * zC (i * m)) (k + 1) + (f (k + 1)).toInt * zC ((k + 1) * m) + b.toInt * zC ((k + 1 + 1) * m) - d.toInt * zC ((k + 1) * m)) ∧ 1048576 * (zclen f (zcosv m).toInt64 k (f (k + 1) + zR (2 * (zcosv m).toInt64 * b) 1048576 - d) b).toInt - (zis (fun i => (f i).toInt * zC (i * m)) (k + 1) + (f (k + 1)).toInt * zC ((k + 1) * m) + b.toInt * zC ((k + 1 + 1) * m) - d.toInt * zC ((k + 1) * m)) ≤ 1048576 + 900003 * ((t : Int) * (t : Int)) + zeE k (t + 1)
    rw [Int.natCast_mul] at s
    generalize zis (fun i => (f i).toInt * zC (i * m)) (k + 1) = A at *
    generalize ((f (k + 1)).toInt + (zR (2 * (zcosv m).toInt64 * b) 1048576).toInt - d.toInt) * zC ((k + 1) * m) = u1 at *
    generalize (f (k + 1)).toInt * zC ((k + 1) * m) = u2 at *
    generalize b.toInt * zC ((k + 1 + 1) * m) = u3 at *
    generalize d.toInt * zC ((k + 1) * m) = u4 at *
    generalize b.toInt * zC (k * m) = u5 at *
    generalize (zclen f (zcosv m).toInt64 k (f (k + 1) + zR (2 * (zcosv m).toInt64 * b) 1048576 - d) b).toInt = V at *
    generalize zeE k (t + 1) = Z at *
    generalize (t : Int) * (t : Int) = T at *
    clear hh hR0 E1 n1 hc hX ex hCm hQ hQ2 hb hd hb2 hd2 bb bd
    exact zW_f r s
