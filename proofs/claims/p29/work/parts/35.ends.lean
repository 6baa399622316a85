/-! values at the ends; the integral -/
theorem zR_x {v : Int64} {q : Int} (hv : v.toInt = 1048576 * q) (hq : -4000000000000 ≤ q ∧ q ≤ 4000000000000) : (zR v 1048576).toInt = q := by
  have h := zR_20 (v := v) (by unfold zb; omega)
  rw [hv] at h
  omega
theorem zclen_p {c : Nat → Int64} (hc : zgood c) : ∀ (k : Nat) (b d : Int64) (t : Nat), t + k ≤ 24 → zJ 1048576 t b d → (zclen c 1048576 k b d).toInt = zis (fun i => (c i).toInt) (k + 1) + b.toInt - d.toInt := by
  have hx : zb (1048576 : Int64) 1048576 := by unfold zb; decide
  intro k
  induction k with
  | zero =>
    intro b d t ht h
    have bb := zb_le h.1 (zT2 (show t ≤ 24 from ht))
    have bd := zb_le h.2.1 (zT2 (show t ≤ 24 from ht))
    have n1 := zt_near hx bb (Nat.le_refl _)
    have m1 := zb_mul hx bb (by decide)
    have hb := zb_i bb
    have e1 := zR_x (v := 1048576 * b) (q := b.toInt) m1.2 (by omega)
    have v1 : (zclen c 1048576 0 b d).toInt = (c 0).toInt + (zR (1048576 * b) 1048576).toInt - d.toInt := zt_st (hc 0) n1.2.2 bd
    rw [v1, e1]
    show _ = (0 + (c 0).toInt) + b.toInt - d.toInt
    omega
  | succ k ih =>
    intro b d t ht h
    have ht' : t ≤ 24 := by omega
    have bb := zb_le h.1 (zT2 ht')
    have bd := zb_le h.2.1 (zT2 ht')
    have m1 := zb_mul (x := 2) (y := 1048576) (A := 2) (by unfold zb; decide) hx (by decide)
    have m2 := zb_mul m1.1 bb (by decide)
    have hb := zb_i bb
    have e1 := zR_x (v := 2 * 1048576 * b) (q := 2 * b.toInt) (by rw [m2.2, m1.2, show (2 : Int64).toInt = 2 from rfl, show (1048576 : Int64).toInt = 1048576 from rfl]; omega) (by omega)
    have E1 : (c (k + 1) + zR (2 * 1048576 * b) 1048576 - d).toInt = (c (k + 1)).toInt + (zR (2 * 1048576 * b) 1048576).toInt - d.toInt := zt_st (hc (k + 1)) (zb_R (by decide)) bd
    have J1 := zJ_step (x := 1048576) ht' hx (hc (k + 1)) h
    have r := ih _ _ (t + 1) (by omega) J1
    unfold zclen
    rw [r, E1, e1]
    show _ = (zis (fun i => (c i).toInt) (k + 1) + (c (k + 1)).toInt) + b.toInt - d.toInt
    omega
theorem zclen_m {c : Nat → Int64} (hc : zgood c) : ∀ (k : Nat) (b d : Int64) (t : Nat), t + k ≤ 24 → zJ (-1048576) t b d → (zclen c (-1048576) k b d).toInt = zis (fun i => if i % 2 = 0 then (c i).toInt else -(c i).toInt) (k + 1) + (if k % 2 = 0 then -b.toInt - d.toInt else b.toInt + d.toInt) := by
  have hx : zb (-1048576 : Int64) 1048576 := by unfold zb; decide
  intro k
  induction k with
  | zero =>
    intro b d t ht h
    have bb := zb_le h.1 (zT2 (show t ≤ 24 from ht))
    have bd := zb_le h.2.1 (zT2 (show t ≤ 24 from ht))
    have n1 := zt_near hx bb (Nat.le_refl _)
    have m1 := zb_mul hx bb (by decide)
    have hb := zb_i bb
    have e1 := zR_x (v := -1048576 * b) (q := -b.toInt) (by rw [m1.2, show (-1048576 : Int64).toInt = -1048576 from rfl]; omega) (by omega)
    have v1 : (zclen c (-1048576) 0 b d).toInt = (c 0).toInt + (zR (-1048576 * b) 1048576).toInt - d.toInt := zt_st (hc 0) n1.2.2 bd
    rw [v1, e1]
    show _ = (0 + (c 0).toInt) + (-b.toInt - d.toInt)
    omega
  | succ k ih =>
    intro b d t ht h
    have ht' : t ≤ 24 := by omega
    have bb := zb_le h.1 (zT2 ht')
    have bd := zb_le h.2.1 (zT2 ht')
    have m1 := zb_mul (x := 2) (y := -1048576) (A := 2) (by unfold zb; decide) hx (by decide)
    have m2 := zb_mul m1.1 bb (by decide)
    have hb := zb_i bb
    have e1 := zR_x (v := 2 * -1048576 * b) (q := -(2 * b.toInt)) (by rw [m2.2, m1.2, show (2 : Int64).toInt = 2 from rfl, show (-1048576 : Int64).toInt = -1048576 from rfl]; omega) (by omega)
    have E1 : (c (k + 1) + zR (2 * -1048576 * b) 1048576 - d).toInt = (c (k + 1)).toInt + (zR (2 * -1048576 * b) 1048576).toInt - d.toInt := zt_st (hc (k + 1)) (zb_R (by decide)) bd
    have J1 := zJ_step (x := -1048576) ht' hx (hc (k + 1)) h
    have r := ih _ _ (t + 1) (by omega) J1
    unfold zclen
    rw [r, E1, e1]
    show _ = (zis (fun i => if i % 2 = 0 then (c i).toInt else -(c i).toInt) (k + 1) + (if (k + 1) % 2 = 0 then (c (k + 1)).toInt else -(c (k + 1)).toInt)) + _
    by_cases hk : k % 2 = 0
    · have hk2 : ¬ (k + 1) % 2 = 0 := by omega
      rw [if_pos hk, if_neg hk2, if_neg hk2]
      omega
    · have hk2 : (k + 1) % 2 = 0 := by omega
      rw [if_neg hk, if_pos hk2, if_pos hk2]
      omega
theorem zval_p {c : Nat → Int64} (hc : zgood c) {n : Nat} (hn : n ≤ 24) : (zval c n 1048576).toInt = zis (fun i => (c i).toInt) (n + 1) := by
  unfold zval
  rw [zclen_p hc n 0 0 0 (by omega) (zJ_0 _), show (0 : Int64).toInt = 0 from rfl]
  omega
theorem zval_m {c : Nat → Int64} (hc : zgood c) {n : Nat} (hn : n ≤ 24) : (zval c n (-1048576)).toInt = zis (fun i => if i % 2 = 0 then (c i).toInt else -(c i).toInt) (n + 1) := by
  unfold zval
  rw [zclen_m hc n 0 0 0 (by omega) (zJ_0 _), show (0 : Int64).toInt = 0 from rfl]
  split <;> omega
theorem zant_in {f : Nat → Int64} {n i : Nat} (h : i < n + 1) : zant f n (i + 1) = ztm f (i + 1) := by
  unfold zant
  rw [if_neg (by omega), if_pos (by omega)]
/-- at -1 the antiderivative is 0 -/
theorem zant_m {f : Nat → Int64} {n : Nat} (hf : ∀ j, zb (f j) 400000) (hn : n ≤ 11) (hz : ∀ j, n < j → f j = 0) : (zval (zant f n) (ztop (zant f n) 48) (-1048576)).toInt = 0 := by
  obtain ⟨hg, e0⟩ := zant_good hf hn hz
  have ht := zant_top (f := f) (n := n)
  have e : zis (fun i => if (i + 1) % 2 = 0 then (zant f n (i + 1)).toInt else -(zant f n (i + 1)).toInt) (n + 1) = zis (zsI f) (n + 1) := zis_eq (n + 1) (fun i hi => by
    unfold zsI ztI
    rw [zant_in hi])
  rw [zval_m hg (by omega), ← zis_ext (m := ztop (zant f n) 48 + 1) (n + 1 - ztop (zant f n) 48) (fun i h1 h2 => by
    rw [zabove (f := zant f n) (fun q hq => zant_hi (n := n) (by omega)) i (by omega), show (0 : Int64).toInt = 0 from rfl]
    split <;> rfl), show ztop (zant f n) 48 + 1 + (n + 1 - ztop (zant f n) 48) = n + 1 + 1 by omega, zis_shift, if_pos (by omega), e0, e]
  omega
/-- at 1 it is the sum of its coefficients -/
theorem zant_p {f : Nat → Int64} {n : Nat} (hf : ∀ j, zb (f j) 400000) (hn : n ≤ 11) (hz : ∀ j, n < j → f j = 0) : (zval (zant f n) (ztop (zant f n) 48) 1048576).toInt = zis (ztI f) (n + 1) - zis (zsI f) (n + 1) := by
  obtain ⟨hg, e0⟩ := zant_good hf hn hz
  have ht := zant_top (f := f) (n := n)
  have e : zis (fun i => (zant f n (i + 1)).toInt) (n + 1) = zis (ztI f) (n + 1) := zis_eq (n + 1) (fun i hi => by
    unfold ztI
    rw [zant_in hi])
  rw [zval_p hg (by omega), ← zis_ext (m := ztop (zant f n) 48 + 1) (n + 1 - ztop (zant f n) 48) (fun i h1 h2 => by
    rw [zabove (f := zant f n) (fun q hq => zant_hi (n := n) (by omega)) i (by omega), show (0 : Int64).toInt = 0 from rfl]), show ztop (zant f n) 48 + 1 + (n + 1 - ztop (zant f n) 48) = n + 1 + 1 by omega, zis_shift, e0, e]
  omega
theorem zYs {f2 f4 Y t r : Int} {m : Nat} (hm : m ≤ 4) (hY : -((2 * m + 1 : Int) * (2 * m + 2)) ≤ (2 * m + 1 : Int) * Y + f2 ∧ (2 * m + 1 : Int) * Y + f2 ≤ (2 * m + 1 : Int) * (2 * m + 2)) (ht : -((2 * m + 3 : Int)) ≤ f2 - f4 - 2 * ((2 * m + 3 : Int) * t) ∧ f2 - f4 - 2 * ((2 * m + 3 : Int) * t) ≤ (2 * m + 3 : Int))
    (hr : -((2 * m + 1 : Int) * (2 * m + 3)) ≤ 2 * (-2 * f2) - 2 * ((2 * m + 1 : Int) * (2 * m + 3) * r) ∧ 2 * (-2 * f2) - 2 * ((2 * m + 1 : Int) * (2 * m + 3) * r) ≤ (2 * m + 1 : Int) * (2 * m + 3)) :
    -((2 * m + 3 : Int) * (2 * m + 4)) ≤ (2 * m + 3 : Int) * (Y + 2 * t - r) + f4 ∧ (2 * m + 3 : Int) * (Y + 2 * t - r) + f4 ≤ (2 * m + 3 : Int) * (2 * m + 4) := by
  have h : m = 0 ∨ m = 1 ∨ m = 2 ∨ m = 3 ∨ m = 4 := by omega
  rcases h with rfl | rfl | rfl | rfl | rfl <;> omega
theorem zD_int {m : Nat} (hm : m ≤ 12) : (lN (2 * m + 2) * lN (2 * m + 2) - 1).toInt = (2 * m + 1 : Int) * (2 * m + 3) := by
  have h1 : (2 * m + 2) * (2 * m + 2) ≤ 26 * 26 := Nat.mul_le_mul (by omega) (by omega)
  have h2 : 2 * 2 ≤ (2 * m + 2) * (2 * m + 2) := Nat.mul_le_mul (by omega) (by omega)
  rw [lN_mul, show (1 : Int64) = lN 1 from rfl, lN_sub (by omega), zt_lN (by omega)]
  have e : (2 * m + 2) * (2 * m + 2) - 1 = (2 * m + 1) * (2 * m + 3) := by
    have : (2 * m + 2) * (2 * m + 2) = (2 * m + 1) * (2 * m + 3) + 1 := by grind
    omega
  rw [e]
  push_cast
  rfl
theorem zig_s {f : Nat → Int64} (hf : ∀ j, zb (f j) 400000) {m : Nat} (hm : m ≤ 12) : (-((2 * m + 1 : Int) * (2 * m + 3)) ≤ 2 * (-2 * (f (2 * m + 2)).toInt) - 2 * ((2 * m + 1 : Int) * (2 * m + 3) * (zR (-2 * f (2 * m + 2)) (lN (2 * m + 2) * lN (2 * m + 2) - 1)).toInt) ∧ 2 * (-2 * (f (2 * m + 2)).toInt) - 2 * ((2 * m + 1 : Int) * (2 * m + 3) * (zR (-2 * f (2 * m + 2)) (lN (2 * m + 2) * lN (2 * m + 2) - 1)).toInt) ≤ (2 * m + 1 : Int) * (2 * m + 3)) ∧ zb (zR (-2 * f (2 * m + 2)) (lN (2 * m + 2) * lN (2 * m + 2) - 1)) 800002 := by
  have hd := zD_int hm
  have hb := zb_mul (x := -2) (A := 2) (by unfold zb; decide) (hf (2 * m + 2)) (by decide)
  have hp : 3 ≤ (2 * m + 1 : Int) * (2 * m + 3) ∧ (2 * m + 1 : Int) * (2 * m + 3) ≤ 675 := by
    have h1 : (2 * m + 1) * (2 * m + 3) ≤ 25 * 27 := Nat.mul_le_mul (by omega) (by omega)
    have h2 : 1 * 3 ≤ (2 * m + 1) * (2 * m + 3) := Nat.mul_le_mul (by omega) (by omega)
    have e : (((2 * m + 1) * (2 * m + 3) : Nat) : Int) = (2 * m + 1 : Int) * (2 * m + 3) := by push_cast; rfl
    omega
  have h := zR_int (v := -2 * f (2 * m + 2)) (d := lN (2 * m + 2) * lN (2 * m + 2) - 1) (zb_le hb.1 (by decide)) (by rw [hd]; omega) (by rw [hd]; omega)
  rw [hd, hb.2, show (-2 : Int64).toInt = -2 from rfl] at h
  exact ⟨h, zb_R2 hb.1 (by rw [hd]; omega) (by decide)⟩
theorem zig_int {f : Nat → Int64} (hf : ∀ j, zb (f j) 400000) : ∀ m, m ≤ 12 → zb (zig f m) ((m + 1) * 800002) := by
  intro m
  induction m with
  | zero => intro _; unfold zig; exact zb_le (zb_mul (x := 2) (A := 2) (by unfold zb; decide) (hf 0) (by decide)).1 (by decide)
  | succ m ih =>
    intro hm
    have h := ih (by omega)
    have h2 := (zig_s hf (m := m) (by omega)).2
    unfold zig
    exact zb_le (zb_add h h2 (by omega)).1 (by omega)
theorem zY_all {f : Nat → Int64} (hf : ∀ j, zb (f j) 400000) : ∀ m : Nat, m ≤ 5 → -((2 * m + 1 : Int) * (2 * m + 2)) ≤ (2 * m + 1 : Int) * (zis (ztI f) (2 * m + 1) - zis (zsI f) (2 * m + 1) - (zig f m).toInt) + (f (2 * m + 2)).toInt ∧ (2 * m + 1 : Int) * (zis (ztI f) (2 * m + 1) - zis (zsI f) (2 * m + 1) - (zig f m).toInt) + (f (2 * m + 2)).toInt ≤ (2 * m + 1 : Int) * (2 * m + 2) := by
  intro m
  induction m with
  | zero =>
    intro _
    have h := (ztm_int hf (k := 1) (by omega) (by omega)).1
    have h0 := zb_mul (x := 2) (A := 2) (by unfold zb; decide) (hf 0) (by decide)
    have e1 : zis (ztI f) (2 * 0 + 1) = (ztm f 1).toInt := by show 0 + (ztm f 1).toInt = _; omega
    have e2 : zis (zsI f) (2 * 0 + 1) = -(ztm f 1).toInt := by
      have e9 : zsI f 0 = -(ztm f 1).toInt := by
        unfold zsI
        rw [if_neg (by omega)]
        rfl
      show 0 + zsI f 0 = _
      rw [e9]
      omega
    have e3 : (zig f 0).toInt = 2 * (f 0).toInt := by unfold zig; rw [h0.2]; rfl
    have e4 : zfu f (1 - 1) = 2 * (f 0).toInt := rfl
    rw [e1, e2, e3]
    rw [e4] at h
    show _ ≤ _ + (f 2).toInt ∧ _ + (f 2).toInt ≤ _
    have h2 : -(1 : Int) ≤ 2 * (f 0).toInt - (f 2).toInt - 2 * ((1 : Int) * (ztm f 1).toInt) ∧ 2 * (f 0).toInt - (f 2).toInt - 2 * ((1 : Int) * (ztm f 1).toInt) ≤ 1 := h
    clear h e1 e2 e3 e4
    omega
  | succ m ih =>
    intro hm
    have hY := ih (by omega)
    have ht := (ztm_int hf (k := 2 * m + 3) (by omega) (by omega)).1
    have hr := zig_s hf (m := m) (by omega)
    have hg := zig_int hf m (by omega)
    have s := zYs (m := m) (f2 := (f (2 * m + 2)).toInt) (f4 := (f (2 * m + 4)).toInt) (t := (ztm f (2 * m + 3)).toInt) (by omega) hY (by
      have e4 : zfu f (2 * m + 3 - 1) = (f (2 * m + 2)).toInt := by unfold zfu; rw [if_neg (by omega)]; rfl
      rw [e4] at ht
      have e5 : ((2 * m + 3 : Nat) : Int) = 2 * (m : Int) + 3 := by omega
      rw [e5] at ht
      exact ht) hr.1
    have hz : (zig f (m + 1)).toInt = (zig f m).toInt + (zR (-2 * f (2 * m + 2)) (lN (2 * m + 2) * lN (2 * m + 2) - 1)).toInt := by
      unfold zig
      have a := zb_add hg hr.2 (by omega)
      rw [a.2]
      cases m <;> rfl
    have e1 : zis (ztI f) (2 * (m + 1) + 1) = zis (ztI f) (2 * m + 1) + (ztm f (2 * m + 2)).toInt + (ztm f (2 * m + 3)).toInt := rfl
    have e2 : zis (zsI f) (2 * (m + 1) + 1) = zis (zsI f) (2 * m + 1) + (ztm f (2 * m + 2)).toInt - (ztm f (2 * m + 3)).toInt := by
      show zis (zsI f) (2 * m + 1) + zsI f (2 * m + 1) + zsI f (2 * m + 2) = _
      unfold zsI
      rw [if_pos (by omega), if_neg (by omega)]
      unfold ztI
      rfl
    rw [hz, e1, e2]
    show _ ≤ _ + (f (2 * m + 4)).toInt ∧ _ + (f (2 * m + 4)).toInt ≤ _
    have c1 : (2 * ((m + 1 : Nat) : Int) + 1) = 2 * (m : Int) + 3 := by omega
    have c2 : (2 * ((m + 1 : Nat) : Int) + 2) = 2 * (m : Int) + 4 := by omega
    rw [c1, c2]
    generalize zis (ztI f) (2 * m + 1) = A at *
    generalize zis (zsI f) (2 * m + 1) = B at *
    generalize (zig f m).toInt = C at *
    generalize (ztm f (2 * m + 2)).toInt = u at *
    generalize (ztm f (2 * m + 3)).toInt = t at *
    generalize (zR (-2 * f (2 * m + 2)) (lN (2 * m + 2) * lN (2 * m + 2) - 1)).toInt = r at *
    have e : A + u + t - (B + u - t) - (C + r) = A - B - C + 2 * t - r := by omega
    rw [e]
    exact s
/-- the integral is near the antiderivative's value at 1 -/
theorem zant_int {f : Nat → Int64} {n : Nat} (hf : ∀ j, zb (f j) 400000) (hn : n ≤ 11) (hz : ∀ j, n < j → f j = 0) : -20 ≤ (zval (zant f n) (ztop (zant f n) 48) 1048576).toInt - (zig f (n / 2)).toInt ∧ (zval (zant f n) (ztop (zant f n) 48) 1048576).toInt - (zig f (n / 2)).toInt ≤ 20 := by
  have h := zY_all hf (n / 2) (by omega)
  rw [hz (2 * (n / 2) + 2) (by omega), show (0 : Int64).toInt = 0 from rfl] at h
  rw [zant_p hf hn hz]
  have e : zis (ztI f) (n + 1) - zis (zsI f) (n + 1) = zis (ztI f) (2 * (n / 2) + 1) - zis (zsI f) (2 * (n / 2) + 1) := by
    by_cases hp : n % 2 = 0
    · rw [show 2 * (n / 2) + 1 = n + 1 by omega]
    · rw [show n + 1 = 2 * (n / 2) + 1 + 1 by omega]
      show zis (ztI f) (2 * (n / 2) + 1) + ztI f (2 * (n / 2) + 1) - (zis (zsI f) (2 * (n / 2) + 1) + zsI f (2 * (n / 2) + 1)) = _
      unfold zsI
      rw [if_pos (by omega)]
      omega
  rw [e]
  generalize zis (ztI f) (2 * (n / 2) + 1) - zis (zsI f) (2 * (n / 2) + 1) = A at *
  generalize (zig f (n / 2)).toInt = C at *
  have hm : n / 2 = 0 ∨ n / 2 = 1 ∨ n / 2 = 2 ∨ n / 2 = 3 ∨ n / 2 = 4 ∨ n / 2 = 5 := by omega
  generalize n / 2 = m at *
  clear e hz
  rcases hm with rfl | rfl | rfl | rfl | rfl | rfl <;> omega
