/-! a series through its own values at extreme points -/
abbrev zC (m : Nat) : Int := (zcosv m).toInt
theorem zC_64 (m : Nat) : (zcosv m).toInt64.toInt = zC m := Int32.toInt_toInt64 _
theorem zC_b (m : Nat) : -1048576 ≤ zC m ∧ zC m ≤ 1048576 := by
  have h := zb_i (zcosb m)
  rw [zC_64] at h
  omega
theorem zC_r : ∀ m, m < 17 → ∀ i, i < 16 → -3145728 ≤ 1048576 * zC ((i + 2) * m) - 2 * zC m * zC ((i + 1) * m) + 1048576 * zC (i * m) ∧ 1048576 * zC ((i + 2) * m) - 2 * zC m * zC ((i + 1) * m) + 1048576 * zC (i * m) ≤ 3145728 := by decide +kernel
theorem zC_0 : zC 0 = 1048576 := by decide +kernel
def zeE : Nat → Nat → Int
  | 0, _ => 1048576
  | k + 1, t => 1048576 + 900003 * (t * t) + zeE k (t + 1)
theorem zeE_ok : ∀ d, d < 17 → zeE d 0 ≤ 1134000000 := by decide +kernel
theorem zW_b {x b d c z e : Int} {t : Nat} (hx : -1048576 ≤ x ∧ x ≤ 1048576) (hb : b.natAbs ≤ t * t * 300001) (hc : -300000 ≤ c ∧ c ≤ 300000) (hz : -1048576 ≤ 1048576 * z - 2 * (x * b) ∧ 1048576 * z - 2 * (x * b) ≤ 1048576) (hh : -((t : Int) * 314573848576) ≤ x * b - 1048576 * d ∧ x * b - 1048576 * d ≤ (t : Int) * 314573848576) (he : e = c + z - d) : e.natAbs ≤ (t + 1) * (t + 1) * 300001 := by
  have h1 : (x * b).natAbs ≤ 1048576 * (t * t * 300001) := by
    rw [Int.natAbs_mul]
    exact Nat.mul_le_mul (by omega) hb
  have h2 : (t + 1) * (t + 1) = t * t + 2 * t + 1 := by grind
  rw [h2]
  generalize t * t = T at *
  generalize x * b = w at *
  clear h2 hb hx
  omega
theorem zW_e {c z d q : Int} (hc : -300000 ≤ c ∧ c ≤ 300000) (hz : -1048576 ≤ 1048576 * z - 2 * q ∧ 1048576 * z - 2 * q ≤ 1048576) : -314573848576 ≤ 1048576 * (c + z - d) - 2 * q + 1048576 * d ∧ 1048576 * (c + z - d) - 2 * q + 1048576 * d ≤ 314573848576 := by omega
/-- one step of the sum beside the table -/
theorem zW_s {x b d c z C0 C1 C2 T : Int} (hC : -1048576 ≤ C1 ∧ C1 ≤ 1048576) (hr : -3145728 ≤ 1048576 * C2 - 2 * x * C1 + 1048576 * C0 ∧ 1048576 * C2 - 2 * x * C1 + 1048576 * C0 ≤ 3145728) (hb : (b.natAbs : Int) ≤ T * 300001) (hz : -1048576 ≤ 1048576 * z - 2 * (x * b) ∧ 1048576 * z - 2 * (x * b) ≤ 1048576) :
    -(1048576 + 900003 * T) ≤ ((c + z - d) * C1 - b * C0) - (c * C1 + b * C2 - d * C1) ∧ ((c + z - d) * C1 - b * C0) - (c * C1 + b * C2 - d * C1) ≤ 1048576 + 900003 * T := by
  have e : 1048576 * (((c + z - d) * C1 - b * C0) - (c * C1 + b * C2 - d * C1)) = (1048576 * z - 2 * (x * b)) * C1 - b * (1048576 * C2 - 2 * x * C1 + 1048576 * C0) := by grind
  have h1 : ((1048576 * z - 2 * (x * b)) * C1).natAbs ≤ 1048576 * 1048576 := by
    rw [Int.natAbs_mul]
    exact Nat.mul_le_mul (by omega) (by omega)
  have h2 : (b * (1048576 * C2 - 2 * x * C1 + 1048576 * C0)).natAbs ≤ b.natAbs * 3145728 := by
    rw [Int.natAbs_mul]
    exact Nat.mul_le_mul (Nat.le_refl _) (by omega)
  generalize ((c + z - d) * C1 - b * C0) - (c * C1 + b * C2 - d * C1) = w at *
  generalize (1048576 * z - 2 * (x * b)) * C1 = u at *
  generalize b * (1048576 * C2 - 2 * x * C1 + 1048576 * C0) = v at *
  clear hr hz hC
  omega
theorem zW_0 {x b d c z : Int} (hz : -1048576 ≤ 1048576 * z - x * b ∧ 1048576 * z - x * b ≤ 1048576) : -1048576 ≤ 1048576 * (c + z - d) - (0 + c * 1048576 + b * x - d * 1048576) ∧ 1048576 * (c + z - d) - (0 + c * 1048576 + b * x - d * 1048576) ≤ 1048576 := by
  rw [Int.mul_comm b x]
  generalize x * b = w at *
  omega
theorem zW_f {Z T V A u1 u2 u3 u4 u5 : Int} (r : -Z ≤ 1048576 * V - (A + u1 - u5) ∧ 1048576 * V - (A + u1 - u5) ≤ Z) (s : -(1048576 + 900003 * T) ≤ u1 - u5 - (u2 + u3 - u4) ∧ u1 - u5 - (u2 + u3 - u4) ≤ 1048576 + 900003 * T) : -(1048576 + 900003 * T + Z) ≤ 1048576 * V - (A + u2 + u3 - u4) ∧ 1048576 * V - (A + u2 + u3 - u4) ≤ 1048576 + 900003 * T + Z := by omega
theorem zt16 {t : Nat} (h : t ≤ 16) : t * t * 300001 ≤ 155222803584 := by
  have := Nat.mul_le_mul h h
  omega
theorem zclen_W {f : Nat → Int64} {m : Nat} (hf : ∀ j, zb (f j) 300000) (hm : m < 17) : ∀ (k : Nat) (b d : Int64) (t : Nat), t + k ≤ 16 → zb b (t * t * 300001) → zb d (t * t * 300001) → zQle (zC m) b.toInt d.toInt ((t : Int) * 314573848576) →
    -(zeE k t) ≤ 1048576 * (zclen f (zcosv m).toInt64 k b d).toInt - (zis (fun i => (f i).toInt * zC (i * m)) (k + 1) + b.toInt * zC ((k + 1) * m) - d.toInt * zC (k * m)) ∧ 1048576 * (zclen f (zcosv m).toInt64 k b d).toInt - (zis (fun i => (f i).toInt * zC (i * m)) (k + 1) + b.toInt * zC ((k + 1) * m) - d.toInt * zC (k * m)) ≤ zeE k t := by
  have hx := zcosb m
  have hX := zXle_of hx
  have ex := zC_64 m
  rw [ex] at hX
  have hCm := zC_b m
  intro k
  induction k with
  | zero =>
    intro b d t ht hb hd hQ
    have ht' : t ≤ 16 := ht
    have bb := zb_le hb (zt16 ht')
    have bd := zb_le hd (zt16 ht')
    have n1 := zt_near hx bb (Nat.le_refl _)
    have v1 : (zclen f (zcosv m).toInt64 0 b d).toInt = (f 0).toInt + (zR ((zcosv m).toInt64 * b) 1048576).toInt - d.toInt := zt_st (zb_le (hf 0) (by decide)) n1.2.2 bd
    rw [v1, Nat.zero_mul, Nat.zero_add, Nat.one_mul, zC_0]
    show -(1048576 : Int) ≤ _ - (0 + (f 0).toInt * zC (0 * m) + b.toInt * zC m - d.toInt * 1048576) ∧ _ - (0 + (f 0).toInt * zC (0 * m) + b.toInt * zC m - d.toInt * 1048576) ≤ 1048576
    rw [Nat.zero_mul, zC_0]
    rw [ex] at n1
    exact zW_0 ⟨n1.1, n1.2.1⟩
  | succ k ih =>
    intro b d t ht hb hd hQ
    have ht' : t ≤ 16 := by omega
    have htk : t + 1 + k ≤ 16 := by omega
    have bb := zb_le hb (zt16 ht')
    have bd := zb_le hd (zt16 ht')
    have n1 := zt_near2 hx bb
    rw [ex] at n1
    have hc := zb_i (hf (k + 1))
    have E1 : (f (k + 1) + zR (2 * (zcosv m).toInt64 * b) 1048576 - d).toInt = (f (k + 1)).toInt + (zR (2 * (zcosv m).toInt64 * b) 1048576).toInt - d.toInt := zt_st (zb_le (hf (k + 1)) (by decide)) (zb_R (by decide)) bd
    have hR0 : (0 : Int) ≤ (t : Int) * 314573848576 := by omega
    have hh := zQ_h hX hR0 hQ
    have hb2 : zb (f (k + 1) + zR (2 * (zcosv m).toInt64 * b) 1048576 - d) ((t + 1) * (t + 1) * 300001) := zW_b hCm hb hc n1 hh E1
    have hd2 : zb b ((t + 1) * (t + 1) * 300001) := zb_le hb (Nat.mul_le_mul_right _ (Nat.mul_le_mul (Nat.le_succ t) (Nat.le_succ t)))
    have hQ2 : zQle (zC m) (f (k + 1) + zR (2 * (zcosv m).toInt64 * b) 1048576 - d).toInt b.toInt (((t + 1 : Nat) : Int) * 314573848576) := by
      have e : ((t + 1 : Nat) : Int) * 314573848576 = (t : Int) * 314573848576 + 314573848576 := by omega
      rw [e, E1]
      exact zQ_s hX hR0 (by decide) hQ (zW_e hc n1)
    have r := ih _ _ (t + 1) htk hb2 hd2 hQ2
    have s := zW_s (c := (f (k + 1)).toInt) (d := d.toInt) (T := ((t * t : Nat) : Int)) (zC_b ((k + 1) * m)) (zC_r m hm k (by omega)) (by unfold zb at hb; omega) n1
    rw [E1] at r
    show -(1048576 + 900003 * ((t : Int) * (t : Int)) + zeE k (t + 1)) ≤ 1048576 * (zclen f (zcosv m).toInt64 k (f (k + 1) + zR (2 * (zcosv m).toInt64 * b) 1048576 - d) b).toInt - (zis (fun i => (f i).toInt * zC (i * m)) (k + 1) + (f (k + 1)).toInt * zC ((k + 1) * m) + b.toInt * zC ((k + 1 + 1) * m) - d.toInt * zC ((k + 1) * m)) ∧ 1048576 * (zclen f (zcosv m).toInt64 k (f (k + 1) + zR (2 * (zcosv m).toInt64 * b) 1048576 - d) b).toInt - (zis (fun i => (f i).toInt * zC (i * m)) (k + 1) + (f (k + 1)).toInt * zC ((k + 1) * m) + b.toInt * zC ((k + 1 + 1) * m) - d.toInt * zC ((k + 1) * m)) ≤ 1048576 + 900003 * ((t : Int) * (t : Int)) + zeE k (t + 1)
    rw [Int.natCast_mul] at s
    generalize zis (fun i => (f i).toInt * zC (i * m)) (k + 1) = A at *
    generalize ((f (k + 1)).toInt + (zR (2 * (zcosv m).toInt64 * b) 1048576).toInt - d.toInt) * zC ((k + 1) * m) = u1 at *
    generalize (f (k + 1)).toInt * zC ((k + 1) * m) = u2 at *
    generalize b.toInt * zC ((k + 1 + 1) * m) = u3 at *
    generalize d.toInt * zC ((k + 1) * m) = u4 at *
    generalize b.toInt * zC (k * m) = u5 at *
    generalize (zclen f (zcosv m).toInt64 k (f (k + 1) + zR (2 * (zcosv m).toInt64 * b) 1048576 - d) b).toInt = V at *
    generalize zeE k (t + 1) = Z at *
    generalize (t : Int) * (t : Int) = T at *
    clear hh hR0 E1 n1 hc hX ex hCm hQ hQ2 hb hd hb2 hd2 bb bd
    exact zW_f r s
/-- a value at an extreme point, told by the table -/
theorem zV_ok {f : Nat → Int64} {d m : Nat} (hf : ∀ j, zb (f j) 300000) (hd : d ≤ 16) (hm : m < 17) : -1134000000 ≤ 1048576 * (zval f d (zcosv m).toInt64).toInt - zis (fun i => (f i).toInt * zC (i * m)) (d + 1) ∧ 1048576 * (zval f d (zcosv m).toInt64).toInt - zis (fun i => (f i).toInt * zC (i * m)) (d + 1) ≤ 1134000000 := by
  have h := zclen_W hf hm d 0 0 0 (by omega) (Nat.zero_le _) (Nat.zero_le _) (by unfold zQle; rw [show (0 : Int64).toInt = 0 from rfl]; omega)
  have hE := zeE_ok d (by omega)
  rw [show (0 : Int64).toInt = 0 from rfl, Int.zero_mul, Int.zero_mul] at h
  unfold zval
  omega
theorem zis_bd {f : Nat → Int} {B : Int} : ∀ m : Nat, (∀ i, i < m → -B ≤ f i ∧ f i ≤ B) → -(m * B) ≤ zis f m ∧ zis f m ≤ m * B := by
  intro m
  induction m with
  | zero => intro _; show -((0 : Nat) * B) ≤ (0 : Int) ∧ (0 : Int) ≤ (0 : Nat) * B; rw [show ((0 : Nat) : Int) = 0 from rfl, Int.zero_mul]; omega
  | succ m ih =>
    intro h
    have h1 := ih (fun i hi => h i (by omega))
    have h2 := h m (by omega)
    have e : ((m + 1 : Nat) : Int) * B = m * B + B := by rw [Int.natCast_add, Int.add_mul]; omega
    rw [e]
    unfold zis
    generalize (m : Int) * B = w at *
    omega
theorem zis_one {D : Int} {k : Nat} (c : Nat → Int) : ∀ m, k < m → zis (fun i => c i * (if k = i then D else 0)) m = c k * D := by
  intro m
  induction m with
  | zero => intro h; omega
  | succ m ih =>
    intro h
    unfold zis
    by_cases e : k = m
    · subst e
      rw [if_pos rfl, zis_eq (g := fun _ => 0) k (fun i hi => by rw [if_neg (by omega), Int.mul_zero]), zis_0]
      omega
    · rw [if_neg e, ih (by omega)]
      omega
def zwt (p j : Nat) : Int := if j = 0 ∨ j = 2 ^ p then 1 else 2
def zwk (p k : Nat) : Int := if k = 0 ∨ k = 2 ^ p then 1 else 2
def zG (p k i : Nat) : Int := zwk p k * zis (fun j => zwt p j * zC (j * k * 2 ^ (4 - p)) * zC (i * (j * 2 ^ (4 - p)))) (2 ^ p + 1)
theorem zG_ok : ∀ p, p < 5 → ∀ k, k < 2 ^ p + 1 → ∀ i, i < 2 ^ p + 1 → -(8388608 * 2 ^ p) ≤ zG p k i - (if k = i then 2199023255552 * 2 ^ p else 0) ∧ zG p k i - (if k = i then 2199023255552 * 2 ^ p else 0) ≤ 8388608 * 2 ^ p := by decide +kernel
theorem zwt_b (p j : Nat) : zwt p j = 1 ∨ zwt p j = 2 := by unfold zwt; split <;> simp
theorem zwk_b (p j : Nat) : zwk p j = 1 ∨ zwk p j = 2 := by unfold zwk; split <;> simp
theorem zint_w {w N X : Int} (hw : w = 1 ∨ w = 2) (hN : 0 ≤ N) (h : -(1189085184000000 * (2 * N)) ≤ X ∧ X ≤ 1189085184000000 * (2 * N)) : -(4 * N * 1048576 * 1134000000) ≤ w * X ∧ w * X ≤ 4 * N * 1048576 * 1134000000 := by
  rcases hw with rfl | rfl <;> omega
/-- the sum of an interpolation, in whole numbers -/
theorem zcs_int {pv : Nat → Int64} {p k : Nat} (hv : ∀ j, j < 2 ^ p + 1 → zb (pv j) 8000000) : ∀ m, m ≤ 2 ^ p + 1 → m ≤ 17 → (zcs pv p k m).toInt = zis (fun j => zwt p j * (pv j).toInt * zC (j * k * 2 ^ (4 - p))) m ∧ zb (zcs pv p k m) (m * 16777216000000) := by
  intro m
  induction m with
  | zero => intro _ _; exact ⟨rfl, Nat.zero_le _⟩
  | succ m ih =>
    intro hm hm2
    obtain ⟨h1, h2⟩ := ih (by omega) (by omega)
    have hw : zb (if m = 0 ∨ m = 2 ^ p then 1 else 2 : Int64) 2 ∧ (if m = 0 ∨ m = 2 ^ p then 1 else 2 : Int64).toInt = zwt p m := by
      unfold zwt
      split
      · exact ⟨by unfold zb; decide, rfl⟩
      · exact ⟨by unfold zb; decide, rfl⟩
    have m1 := zb_mul hw.1 (hv m (by omega)) (by decide)
    have m2 := zb_mul m1.1 (zcosb (m * k * 2 ^ (4 - p))) (by decide)
    have a := zb_add h2 m2.1 (by omega)
    unfold zcs
    rw [a.2, m2.2, m1.2, hw.2, zC_64, h1]
    exact ⟨rfl, zb_le a.1 (by omega)⟩
theorem zint_arith {N Z a f E G1 : Int} (hN : N = 1 ∨ N = 2 ∨ N = 4 ∨ N = 8 ∨ N = 16) (ha : -(2097152 * N) ≤ 2 * Z - 2 * (2097152 * N * a) ∧ 2 * Z - 2 * (2097152 * N * a) ≤ 2097152 * N) (hZ : 1048576 * Z = G1 + f * (2199023255552 * N) + E) (hG : -(17 * (300000 * (8388608 * N))) ≤ G1 ∧ G1 ≤ 17 * (300000 * (8388608 * N))) (hE : -(4 * N * 1048576 * 1134000000) ≤ E ∧ E ≤ 4 * N * 1048576 * 1134000000) : -3000 ≤ a - f ∧ a - f ≤ 3000 := by
  rcases hN with rfl | rfl | rfl | rfl | rfl <;> omega
theorem zp5 {p : Nat} (hp : p ≤ 4) : 2 ^ p = 1 ∨ 2 ^ p = 2 ∨ 2 ^ p = 4 ∨ 2 ^ p = 8 ∨ 2 ^ p = 16 := by
  have h : p = 0 ∨ p = 1 ∨ p = 2 ∨ p = 3 ∨ p = 4 := by omega
  rcases h with rfl | rfl | rfl | rfl | rfl <;> decide
theorem zm_b {a b : Int} {A B : Nat} (ha : a.natAbs ≤ A) (hb : b.natAbs ≤ B) : -((A * B : Nat) : Int) ≤ a * b ∧ a * b ≤ ((A * B : Nat) : Int) := by
  have h : (a * b).natAbs ≤ A * B := by rw [Int.natAbs_mul]; exact Nat.mul_le_mul ha hb
  omega
theorem zis_wt {w y : Nat → Int} {B : Int} (hB : 0 ≤ B) : ∀ m, (∀ i, i < m → (w i = 1 ∨ w i = 2) ∧ -B ≤ y i ∧ y i ≤ B) → -(B * zis w m) ≤ zis (fun i => w i * y i) m ∧ zis (fun i => w i * y i) m ≤ B * zis w m := by
  intro m
  induction m with
  | zero => intro _; show -(B * 0) ≤ (0 : Int) ∧ (0 : Int) ≤ B * 0; rw [Int.mul_zero]; omega
  | succ m ih =>
    intro h
    have h1 := ih (fun i hi => h i (by omega))
    obtain ⟨h2, h3, h4⟩ := h m (by omega)
    unfold zis
    rw [Int.mul_add]
    generalize B * zis w m = u at *
    rcases h2 with e | e <;> rw [e] <;> omega
theorem zwt_sum : ∀ p, p < 5 → zis (zwt p) (2 ^ p + 1) = 2 * 2 ^ p := by decide +kernel
theorem zj_m {p j : Nat} (hp : p ≤ 4) (hj : j < 2 ^ p + 1) : j * 2 ^ (4 - p) < 17 := by
  have h : p = 0 ∨ p = 1 ∨ p = 2 ∨ p = 3 ∨ p = 4 := by omega
  rcases h with rfl | rfl | rfl | rfl | rfl <;> (simp only [Nat.reducePow, Nat.reduceSub, Nat.reduceAdd] at *; omega)
theorem zint_sum {F V : Nat → Int} (p k n : Nat) : 1048576 * zis (fun j => zwt p j * V j * zC (j * k * 2 ^ (4 - p))) n = zis (fun i => F i * zis (fun j => zwt p j * zC (j * k * 2 ^ (4 - p)) * zC (i * (j * 2 ^ (4 - p)))) n) n + zis (fun j => zwt p j * (zC (j * k * 2 ^ (4 - p)) * (1048576 * V j - zis (fun i => F i * zC (i * (j * 2 ^ (4 - p)))) n))) n := by
  have e1 : zis (fun i => F i * zis (fun j => zwt p j * zC (j * k * 2 ^ (4 - p)) * zC (i * (j * 2 ^ (4 - p)))) n) n = zis (fun j => zwt p j * (zC (j * k * 2 ^ (4 - p)) * zis (fun i => F i * zC (i * (j * 2 ^ (4 - p)))) n)) n := by
    have s := zis_swap (fun j i => F i * (zwt p j * zC (j * k * 2 ^ (4 - p)) * zC (i * (j * 2 ^ (4 - p))))) n n
    have l : zis (fun i => zis (fun j => F i * (zwt p j * zC (j * k * 2 ^ (4 - p)) * zC (i * (j * 2 ^ (4 - p))))) n) n = zis (fun i => F i * zis (fun j => zwt p j * zC (j * k * 2 ^ (4 - p)) * zC (i * (j * 2 ^ (4 - p)))) n) n := zis_eq n (fun i _ => zis_mul (F i) _ n)
    rw [← l, ← s]
    refine zis_eq n (fun j _ => ?_)
    rw [← Int.mul_assoc, ← zis_mul]
    refine zis_eq n (fun i _ => ?_)
    grind
  rw [e1, ← zis_add, ← zis_mul]
  refine zis_eq n (fun j _ => ?_)
  generalize zis (fun i => F i * zC (i * (j * 2 ^ (4 - p)))) n = u
  grind
theorem zint_near {f pv : Nat → Int64} {d p k : Nat} (hf : ∀ j, zb (f j) 300000) (hz : ∀ j, d < j → f j = 0) (hp : p ≤ 4) (hd : d ≤ 2 ^ p) (hpv : ∀ j, j < 2 ^ p + 1 → pv j = zsv f d p j) (hk : k ≤ 2 ^ p) : -3000 ≤ (zint pv p k).toInt - (f k).toInt ∧ (zint pv p k).toInt - (f k).toInt ≤ 3000 := by
  have h5 := zp5 hp
  have h16 : 2 ^ p ≤ 16 := by omega
  have hN : ((2 ^ p : Nat) : Int) = (2 : Int) ^ p := by push_cast; rfl
  have hvb : ∀ j, j < 2 ^ p + 1 → zb (pv j) 8000000 := fun j hj => by
    rw [hpv j hj]
    exact (zval_bb hf (by omega) hz (zcosb _)).2.2
  have hV : ∀ j, j < 2 ^ p + 1 → -1134000000 ≤ 1048576 * (pv j).toInt - zis (fun i => (f i).toInt * zC (i * (j * 2 ^ (4 - p)))) (2 ^ p + 1) ∧ 1048576 * (pv j).toInt - zis (fun i => (f i).toInt * zC (i * (j * 2 ^ (4 - p)))) (2 ^ p + 1) ≤ 1134000000 := fun j hj => by
    have h := zV_ok (m := j * 2 ^ (4 - p)) hf (show d ≤ 16 by omega) (zj_m hp hj)
    have e := zis_ext (f := fun i => (f i).toInt * zC (i * (j * 2 ^ (4 - p)))) (m := d + 1) (2 ^ p - d) (fun i h1 _ => by rw [hz i (by omega), show (0 : Int64).toInt = 0 from rfl, Int.zero_mul])
    rw [show d + 1 + (2 ^ p - d) = 2 ^ p + 1 by omega] at e
    rw [hpv j hj, e]
    exact h
  obtain ⟨c1, c2⟩ := zcs_int (k := k) hvb (2 ^ p + 1) (Nat.le_refl _) (by omega)
  have hw : zb (if k = 0 ∨ k = 2 ^ p then 1 else 2 : Int64) 2 ∧ (if k = 0 ∨ k = 2 ^ p then 1 else 2 : Int64).toInt = zwk p k := by
    unfold zwk
    split
    · exact ⟨by unfold zb; decide, rfl⟩
    · exact ⟨by unfold zb; decide, rfl⟩
  have m1 := zb_mul hw.1 (zb_le c2 (show (2 ^ p + 1) * 16777216000000 ≤ 285212672000000 by omega)) (by decide)
  have hdv : (2 * lN (2 ^ p) * 1048576).toInt = 2097152 * ((2 ^ p : Nat) : Int) := by
    have a1 : (2 * lN (2 ^ p)).toInt = 2 * ((2 ^ p : Nat) : Int) := z2lN (by omega)
    rw [zt_mul (by rw [a1, show (1048576 : Int64).toInt = 1048576 from rfl]; omega), a1, show (1048576 : Int64).toInt = 1048576 from rfl]
    omega
  have hR := zR_int (d := 2 * lN (2 ^ p) * 1048576) (zb_le m1.1 (by decide)) (by rw [hdv]; omega) (by rw [hdv]; omega)
  rw [hdv, m1.2, hw.2, c1] at hR
  have hG := zG_ok p (by omega) k (by omega)
  have hs := zint_sum (F := fun i => (f i).toInt) (V := fun j => (pv j).toInt) p k (2 ^ p + 1)
  have hE := zis_wt (w := zwt p) (y := fun j => zC (j * k * 2 ^ (4 - p)) * (1048576 * (pv j).toInt - zis (fun i => (f i).toInt * zC (i * (j * 2 ^ (4 - p)))) (2 ^ p + 1))) (B := 1189085184000000) (by decide) (2 ^ p + 1) (fun j hj => ⟨zwt_b p j, by
    have hc := zC_b (j * k * 2 ^ (4 - p))
    have hv := hV j hj
    have := zm_b (A := 1048576) (B := 1134000000) (a := zC (j * k * 2 ^ (4 - p))) (b := 1048576 * (pv j).toInt - zis (fun i => (f i).toInt * zC (i * (j * 2 ^ (4 - p)))) (2 ^ p + 1)) (by omega) (by omega)
    exact this⟩)
  rw [zwt_sum p (by omega)] at hE
  have hG1 := zis_bd (f := fun i => (f i).toInt * (zG p k i - (if k = i then 2199023255552 * 2 ^ p else 0))) (B := ((300000 * (8388608 * 2 ^ p) : Nat) : Int)) (2 ^ p + 1) (fun i hi => by
    have g := hG i hi
    have hb := zb_i (hf i)
    refine zm_b (by omega) ?_
    have e : ((8388608 * 2 ^ p : Nat) : Int) = 8388608 * 2 ^ p := by rw [← hN]; omega
    omega)
  have hone := zis_one (D := 2199023255552 * 2 ^ p) (k := k) (fun i => (f i).toInt) (2 ^ p + 1) (by omega)
  have hsplit : zwk p k * zis (fun i => (f i).toInt * zis (fun j => zwt p j * zC (j * k * 2 ^ (4 - p)) * zC (i * (j * 2 ^ (4 - p)))) (2 ^ p + 1)) (2 ^ p + 1) = zis (fun i => (f i).toInt * (zG p k i - (if k = i then 2199023255552 * 2 ^ p else 0))) (2 ^ p + 1) + (f k).toInt * (2199023255552 * 2 ^ p) := by
    rw [← hone, ← zis_add, ← zis_mul]
    refine zis_eq _ (fun i _ => ?_)
    unfold zG
    generalize zis (fun j => zwt p j * zC (j * k * 2 ^ (4 - p)) * zC (i * (j * 2 ^ (4 - p)))) (2 ^ p + 1) = u
    generalize (if k = i then (2199023255552 * 2 ^ p : Int) else 0) = v
    grind
  unfold zint
  rw [if_pos hk]
  generalize (zR ((if k = 0 ∨ k = 2 ^ p then 1 else 2 : Int64) * zcs pv p k (2 ^ p + 1)) (2 * lN (2 ^ p) * 1048576)).toInt = a at *
  have hmul : 1048576 * (zwk p k * zis (fun j => zwt p j * (pv j).toInt * zC (j * k * 2 ^ (4 - p))) (2 ^ p + 1)) = zwk p k * (1048576 * zis (fun j => zwt p j * (pv j).toInt * zC (j * k * 2 ^ (4 - p))) (2 ^ p + 1)) := Int.mul_left_comm _ _ _
  rw [hs, Int.mul_add, hsplit] at hmul
  rw [hN] at hR
  refine zint_arith (N := (2 : Int) ^ p) (Z := zwk p k * zis (fun j => zwt p j * (pv j).toInt * zC (j * k * 2 ^ (4 - p))) (2 ^ p + 1)) ?_ hR hmul ?_ ?_
  · rw [← hN]; omega
  · have e : (((2 ^ p + 1 : Nat) : Int) * ((300000 * (8388608 * 2 ^ p) : Nat) : Int)) ≤ 17 * (300000 * (8388608 * (2 : Int) ^ p)) := by
      have e1 : ((300000 * (8388608 * 2 ^ p) : Nat) : Int) = 300000 * (8388608 * (2 : Int) ^ p) := by rw [← hN]; omega
      rw [e1]
      refine Int.mul_le_mul_of_nonneg_right (by omega) (by rw [← hN]; omega)
    generalize (((2 ^ p + 1 : Nat) : Int) * ((300000 * (8388608 * 2 ^ p) : Nat) : Int)) = x at *
    exact ⟨Int.le_trans (Int.neg_le_neg e) hG1.1, Int.le_trans hG1.2 e⟩
  · exact zint_w (zwk_b p k) (by rw [← hN]; omega) hE
