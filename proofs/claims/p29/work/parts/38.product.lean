/-! the product of x - r and 1 + q x, and its quotient by x - r -/
abbrev zqx (q : Int64) : Nat → Int64 := vp_updL (ztb 0) 1 q
theorem zqx_0 (q : Int64) : zqx q 0 = 1048576 := by unfold zqx vp_updL; rw [if_neg (by omega)]; exact ztb_at 0
theorem zqx_1 (q : Int64) : zqx q 1 = q := by unfold zqx vp_updL; rw [if_pos rfl]
theorem zqx_hi (q : Int64) {j : Nat} (h : 1 < j) : zqx q j = 0 := by unfold zqx vp_updL; rw [if_neg (by omega)]; exact ztb_ne (by omega)
theorem zqx_good {q : Int64} (hq : zb q 500000) : zgood (zqx q) := zb_up (ztb_good 0) (zb_le hq (by decide))
theorem zqx_top {q : Int64} (h : ¬ q = 0) : ztop (zqx q) 48 = 1 := ztop_is (by omega) (fun j hj => zqx_hi q hj) (Or.inr (by rw [zqx_1]; exact h))
theorem zpp (r q : Int64) (k : Nat) : zpout (zxr r) (zqx q) 1 k 2 = zpin (zxr r) (zqx q) k 1 2 (zpin (zxr r) (zqx q) k 0 2 0) := rfl
theorem zpp2 (r q : Int64) (k i : Nat) (s : Int64) : zpin (zxr r) (zqx q) k i 2 s = (((s + (if i + 0 = k then zxr r i * zqx q 0 else 0)) + (if i - 0 + (0 - i) = k then zxr r i * zqx q 0 else 0)) + (if i + 1 = k then zxr r i * zqx q 1 else 0)) + (if i - 1 + (1 - i) = k then zxr r i * zqx q 1 else 0) := rfl
theorem zp_0 (r q : Int64) : zprod (zxr r) 1 (zqx q) 1 0 = zR (-r * 1048576 + -r * 1048576 + 1048576 * q) 2097152 := by
  unfold zprod
  rw [zpp, zpp2, zpp2, zxr_0, zxr_1, zqx_0, zqx_1]
  simp
theorem zp_1 (r q : Int64) : zprod (zxr r) 1 (zqx q) 1 1 = zR (-r * q + -r * q + 1048576 * 1048576 + 1048576 * 1048576) 2097152 := by
  unfold zprod
  rw [zpp, zpp2, zpp2, zxr_0, zxr_1, zqx_0, zqx_1]
  simp
theorem zp_2 (r q : Int64) : zprod (zxr r) 1 (zqx q) 1 2 = zR (1048576 * q) 2097152 := by
  unfold zprod
  rw [zpp, zpp2, zpp2, zxr_0, zxr_1, zqx_0, zqx_1]
  simp
theorem zp_hi (r q : Int64) {j : Nat} (h : 2 < j) : zprod (zxr r) 1 (zqx q) 1 j = 0 := zprod_0 (by omega)
/-- the nearest, and of two the greater -/
theorem zR_lt {v d : Int64} (hv : zb v 4611686018427387904) (hd : 1 ≤ d.toInt) (hd2 : d.toInt ≤ 1152921504606846976) : 2 * v.toInt - 2 * (d.toInt * (zR v d).toInt) < d.toInt := by
  have hd0 : (0 : Int64) < d := by
    rw [Int64.lt_iff_toInt_lt, show (0 : Int64).toInt = 0 from rfl]
    omega
  have hf := zfl_int (v := v) hd0
  unfold zb at hv
  have h1 := Int.mul_ediv_add_emod v.toInt d.toInt
  have h2 := Int.emod_nonneg v.toInt (b := d.toInt) (by omega)
  have h3 := Int.emod_lt_of_pos v.toInt (b := d.toInt) (by omega)
  have hp : (zfl v d * d).toInt = d.toInt * (v.toInt / d.toInt) := by
    rw [Int64.toInt_mul, hf, Int.mul_comm]
    apply Int.bmod_eq_of_le <;> omega
  have hs : (v - zfl v d * d).toInt = v.toInt - d.toInt * (v.toInt / d.toInt) := by
    rw [Int64.toInt_sub, hp]
    apply Int.bmod_eq_of_le <;> omega
  have h4 : (2 * (v - zfl v d * d)).toInt = 2 * (v.toInt - d.toInt * (v.toInt / d.toInt)) := by
    rw [Int64.toInt_mul, hs, show (2 : Int64).toInt = 2 from rfl]
    apply Int.bmod_eq_of_le <;> omega
  have hq : (v.toInt / d.toInt).natAbs ≤ 4611686018427387905 := by
    have a1 : v.toInt / d.toInt ≤ 4611686018427387905 := by
      rcases Int.lt_or_le 4611686018427387905 (v.toInt / d.toInt) with g | g
      · have g2 : 1 * (v.toInt / d.toInt) ≤ d.toInt * (v.toInt / d.toInt) := Int.mul_le_mul_of_nonneg_right hd (by omega)
        omega
      · exact g
    have a2 : -4611686018427387905 ≤ v.toInt / d.toInt := by
      rcases Int.lt_or_le (v.toInt / d.toInt) (-4611686018427387905) with g | g
      · exfalso
        have g2 : 1 * (-1 - v.toInt / d.toInt) ≤ d.toInt * (-1 - v.toInt / d.toInt) := Int.mul_le_mul_of_nonneg_right hd (by omega)
        have g3 : d.toInt * (-1 - v.toInt / d.toInt) = -d.toInt - d.toInt * (v.toInt / d.toInt) := by grind
        omega
      · exact g
    omega
  unfold zR
  split
  · rename_i hc
    rw [Int64.lt_iff_toInt_lt, h4] at hc
    rw [hf]
    omega
  · rename_i hc
    rw [Int64.lt_iff_toInt_lt, h4] at hc
    have e : (zfl v d + 1).toInt = v.toInt / d.toInt + 1 := by
      rw [Int64.toInt_add, hf, show (1 : Int64).toInt = 1 from rfl]
      apply Int.bmod_eq_of_le <;> omega
    rw [e]
    have g3 : d.toInt * (v.toInt / d.toInt + 1) = d.toInt * (v.toInt / d.toInt) + d.toInt := by grind
    omega
/-- what is known of the product's coefficients -/
theorem zp_all {r q : Int64} (hr : zb r 950000) (hq1 : 1 ≤ q.toInt) (hq2 : q.toInt ≤ 500000) :
    (-1 ≤ -2 * r.toInt + q.toInt - 2 * (zprod (zxr r) 1 (zqx q) 1 0).toInt ∧ -2 * r.toInt + q.toInt - 2 * (zprod (zxr r) 1 (zqx q) 1 0).toInt ≤ 1) ∧ (-1048576 ≤ -2 * (r.toInt * q.toInt) + 2199023255552 - 2097152 * (zprod (zxr r) 1 (zqx q) 1 1).toInt ∧ -2 * (r.toInt * q.toInt) + 2199023255552 - 2097152 * (zprod (zxr r) 1 (zqx q) 1 1).toInt ≤ 1048576) ∧ (-1 ≤ q.toInt - 2 * (zprod (zxr r) 1 (zqx q) 1 2).toInt ∧ q.toInt - 2 * (zprod (zxr r) 1 (zqx q) 1 2).toInt ≤ 1) ∧ (zprod (zxr r) 1 (zqx q) 1 2).toInt ≥ 1 := by
  have hrb := zb_i hr
  have hrq : (r.toInt * q.toInt).natAbs ≤ 950000 * 500000 := by
    rw [Int.natAbs_mul]
    exact Nat.mul_le_mul hr (by omega)
  have hn : (-r).toInt = -r.toInt := zt_neg (by omega)
  have eS : (1048576 : Int64).toInt = 1048576 := rfl
  have a1 : (-r * 1048576).toInt = -1048576 * r.toInt := by rw [zt_mul (by rw [hn, eS]; omega), hn, eS]; omega
  have a2 : (1048576 * q).toInt = 1048576 * q.toInt := by rw [zt_mul (by rw [eS]; omega), eS]
  have a3 : (-r * q).toInt = -(r.toInt * q.toInt) := by rw [zt_mul (by rw [hn, Int.neg_mul]; omega), hn, Int.neg_mul]
  have a4 : (1048576 * 1048576 : Int64).toInt = 1099511627776 := by decide
  have eD : (2097152 : Int64).toInt = 2097152 := rfl
  have b0 : (-r * 1048576 + -r * 1048576 + 1048576 * q).toInt = -2097152 * r.toInt + 1048576 * q.toInt := by
    have c1 : (-r * 1048576 + -r * 1048576).toInt = -2097152 * r.toInt := by rw [zt_add (by rw [a1]; omega), a1]; omega
    rw [zt_add (by rw [c1, a2]; omega), c1, a2]
  have b1 : (-r * q + -r * q + 1048576 * 1048576 + 1048576 * 1048576).toInt = -2 * (r.toInt * q.toInt) + 2199023255552 := by
    generalize r.toInt * q.toInt = w at *
    have c1 : (-r * q + -r * q).toInt = -2 * w := by rw [zt_add (by rw [a3]; omega), a3]; omega
    have c2 : (-r * q + -r * q + 1048576 * 1048576).toInt = -2 * w + 1099511627776 := by rw [zt_add (by rw [c1, a4]; omega), c1, a4]
    rw [zt_add (by rw [c2, a4]; omega), c2, a4]
    omega
  rw [zp_0, zp_1, zp_2]
  have d0 := zR_int (v := -r * 1048576 + -r * 1048576 + 1048576 * q) (d := 2097152) (by unfold zb; rw [b0]; omega) (by decide) (by decide)
  have d1 := zR_int (v := -r * q + -r * q + 1048576 * 1048576 + 1048576 * 1048576) (d := 2097152) (by unfold zb; rw [b1]; generalize r.toInt * q.toInt = w at *; omega) (by decide) (by decide)
  have d2 := zR_int (v := 1048576 * q) (d := 2097152) (by unfold zb; rw [a2]; omega) (by decide) (by decide)
  rw [b0, eD] at d0
  rw [b1, eD] at d1
  rw [a2, eD] at d2
  have d3 := zR_lt (v := 1048576 * q) (d := 2097152) (by unfold zb; rw [a2]; omega) (by decide) (by decide)
  rw [a2, eD] at d3
  generalize (zR (-r * 1048576 + -r * 1048576 + 1048576 * q) 2097152).toInt = p0 at *
  generalize (zR (-r * q + -r * q + 1048576 * 1048576 + 1048576 * 1048576) 2097152).toInt = p1 at *
  generalize (zR (1048576 * q) 2097152).toInt = p2 at *
  generalize r.toInt * q.toInt = w at *
  clear b0 b1 a1 a2 a3 a4 hn eS eD hr
  refine ⟨by omega, by omega, by omega, by omega⟩
theorem zp_good {r q : Int64} (hr : zb r 950000) (hq1 : 1 ≤ q.toInt) (hq2 : q.toInt ≤ 500000) : zgood (zprod (zxr r) 1 (zqx q) 1) := by
  obtain ⟨h0, h1, h2, h3⟩ := zp_all hr hq1 hq2
  have hrb := zb_i hr
  have hrq : (r.toInt * q.toInt).natAbs ≤ 950000 * 500000 := by
    rw [Int.natAbs_mul]
    exact Nat.mul_le_mul hr (by omega)
  generalize r.toInt * q.toInt = w at *
  intro j
  by_cases e0 : j = 0
  · subst e0; exact zb_o (by omega) (by omega)
  by_cases e1 : j = 1
  · subst e1; exact zb_o (by omega) (by omega)
  by_cases e2 : j = 2
  · subst e2; exact zb_o (by omega) (by omega)
  rw [zp_hi r q (by omega)]
  exact Nat.zero_le _
theorem zp_top {r q : Int64} (hr : zb r 950000) (hq1 : 1 ≤ q.toInt) (hq2 : q.toInt ≤ 500000) : ztop (zprod (zxr r) 1 (zqx q) 1) 48 = 2 := by
  refine ztop_is (by omega) (fun j hj => zp_hi r q hj) (Or.inr (fun h => ?_))
  have h3 := (zp_all hr hq1 hq2).2.2.2
  rw [h, show (0 : Int64).toInt = 0 from rfl] at h3
  omega
theorem zp_arith {S r q p0 p1 p2 t u e w wp : Int} (hS : S = 1048576) (hr : -950000 ≤ r ∧ r ≤ 950000) (h0 : -1 ≤ -2 * r + q - 2 * p0 ∧ -2 * r + q - 2 * p0 ≤ 1) (h1 : -1048576 ≤ -2 * w + 2199023255552 - 2097152 * p1 ∧ -2 * w + 2199023255552 - 2097152 * p1 ≤ 1048576) (h2 : q = 2 * p2 + e) (he : e = -1 ∨ e = 0 ∨ e = 1) (hw : w = 2 * wp + r * e) (ht : -1048576 ≤ 2 * (2 * wp) - 2097152 * t ∧ 2 * (2 * wp) - 2097152 * t ≤ 1048576) : p1 + t - S = -1 ∨ p1 + t - S = 0 ∨ p1 + t - S = 1 := by
  subst hS
  rcases he with rfl | rfl | rfl <;> omega
theorem zp_arith2 {r q p0 p2 u B e : Int} (hr : -950000 ≤ r ∧ r ≤ 950000) (h0 : -1 ≤ -2 * r + q - 2 * p0 ∧ -2 * r + q - 2 * p0 ≤ 1) (h2 : q = 2 * p2 + e) (he : e = -1 ∨ e = 0 ∨ e = 1) (hB : B = -1 ∨ B = 0 ∨ B = 1) (hu : -1048576 ≤ 2 * (1048576 * r + r * B) - 2097152 * u ∧ 2 * (1048576 * r + r * B) - 2097152 * u ≤ 1048576) : -8 ≤ p0 + u - p2 ∧ p0 + u - p2 ≤ 8 := by
  rcases he with rfl | rfl | rfl <;> rcases hB with rfl | rfl | rfl <;> omega
theorem zp_h1 {x y : Int64} {B : Int} (h : x.toInt + y.toInt - 1048576 = B) (hB : B = -1 ∨ B = 0 ∨ B = 1) : (x + y).toInt = 1048576 + B := by
  rw [zt_add (by omega)]
  omega
theorem zp_h2 {x y z : Int64} (h : -8 ≤ x.toInt + y.toInt - z.toInt ∧ x.toInt + y.toInt - z.toInt ≤ 8) (hz : 0 ≤ z.toInt ∧ z.toInt ≤ 300000) : (x + y - z).toInt = x.toInt + y.toInt - z.toInt := by
  have k1 : (x + y).toInt = x.toInt + y.toInt := zt_add (by omega)
  rw [zt_sub (by rw [k1]; omega), k1]
theorem zp_h3 {r y : Int64} {B : Int} (hr : zb r 950000) (hy : y.toInt = 1048576 + B) (hB : B = -1 ∨ B = 0 ∨ B = 1) : (r * y).toInt = 1048576 * r.toInt + r.toInt * B ∧ zb (r * y) 4611686018427387904 := by
  have hm := zb_mul (y := y) (B := 1048577) hr (zb_o (by omega) (by omega)) (by decide)
  refine ⟨?_, zb_le hm.1 (by decide)⟩
  rw [hm.2, hy, Int.mul_add, Int.mul_comm r.toInt 1048576]
theorem zp_h4 {r y : Int64} (hr : zb r 950000) (hy : zb y 250001) : (2 * r * y).toInt = 2 * (r.toInt * y.toInt) ∧ zb (2 * r * y) 4611686018427387904 := by
  have m1 := zb_mul (x := 2) (y := r) (A := 2) (by unfold zb; decide) hr (by decide)
  have m2 := zb_mul m1.1 hy (by decide)
  refine ⟨?_, zb_le m2.1 (by decide)⟩
  rw [m2.2, m1.2, show (2 : Int64).toInt = 2 from rfl, Int.mul_assoc]
theorem zp_h5 {q p : Int} (h2 : -1 ≤ q - 2 * p ∧ q - 2 * p ≤ 1) : ∃ e : Int, q = 2 * p + e ∧ (e = -1 ∨ e = 0 ∨ e = 1) := ⟨q - 2 * p, by omega, by omega⟩
theorem zclen_3 (p : Nat → Int64) (r : Int64) : zval p 2 r = p 0 + zR (r * (p 1 + zR (2 * r * p 2) 1048576)) 1048576 - p 2 := by
  unfold zval
  show p 0 + zR (r * (p 1 + zR (2 * r * (p 2 + zR (2 * r * 0) 1048576 - 0)) 1048576 - 0)) 1048576 - (p 2 + zR (2 * r * 0) 1048576 - 0) = _
  rw [Int64.mul_zero, show zR 0 1048576 = 0 from by decide, Int64.add_zero, Int64.sub_zero, Int64.sub_zero]
theorem zp_rest2 {p : Nat → Int64} {r q : Int64} (hr : zb r 950000) (hq1 : 1 ≤ q.toInt) (hq2 : q.toInt ≤ 500000) (h0 : -1 ≤ -2 * r.toInt + q.toInt - 2 * (p 0).toInt ∧ -2 * r.toInt + q.toInt - 2 * (p 0).toInt ≤ 1) (h1 : -1048576 ≤ -2 * (r.toInt * q.toInt) + 2199023255552 - 2097152 * (p 1).toInt ∧ -2 * (r.toInt * q.toInt) + 2199023255552 - 2097152 * (p 1).toInt ≤ 1048576) (h2 : -1 ≤ q.toInt - 2 * (p 2).toInt ∧ q.toInt - 2 * (p 2).toInt ≤ 1) (h3 : (p 2).toInt ≥ 1) : -8 ≤ (zval p 2 r).toInt ∧ (zval p 2 r).toInt ≤ 8 := by
  have hrb := zb_i hr
  have hp2 : 0 ≤ (p 2).toInt ∧ (p 2).toInt ≤ 250001 := by
    clear h0 h1 hrb hr
    omega
  obtain ⟨vt, vtb⟩ := zp_h4 (y := p 2) hr (zb_o (by omega) (by omega))
  have dt := zR_20 vtb
  rw [vt] at dt
  obtain ⟨ee, hee, hE⟩ := zp_h5 h2
  have hw : r.toInt * q.toInt = 2 * (r.toInt * (p 2).toInt) + r.toInt * ee := by rw [hee, Int.mul_add, Int.mul_left_comm]
  have hB := zp_arith (S := 1048576) (u := 0) rfl hrb h0 h1 hee hE hw dt
  rw [zclen_3]
  generalize zR (2 * r * p 2) 1048576 = t at *
  obtain ⟨B, hBe⟩ : ∃ B : Int, (p 1).toInt + t.toInt - 1048576 = B := ⟨_, rfl⟩
  rw [hBe] at hB
  obtain ⟨vu, vub⟩ := zp_h3 hr (zp_h1 hBe hB) hB
  have du := zR_20 vub
  rw [vu] at du
  have fin := zp_arith2 hrb h0 hee hE hB du
  rw [zp_h2 fin ⟨hp2.1, Int.le_trans hp2.2 (by decide)⟩]
  exact fin
theorem zp_rest {r q : Int64} (hr : zb r 950000) (hq1 : 1 ≤ q.toInt) (hq2 : q.toInt ≤ 500000) : -8 ≤ (zval (zprod (zxr r) 1 (zqx q) 1) 2 r).toInt ∧ (zval (zprod (zxr r) 1 (zqx q) 1) 2 r).toInt ≤ 8 := by
  obtain ⟨h0, h1, h2, h3⟩ := zp_all hr hq1 hq2
  exact zp_rest2 hr hq1 hq2 h0 h1 h2 h3
theorem zp_quo1 (r q : Int64) : zquo (zprod (zxr r) 1 (zqx q) 1) 2 r 1 = 2 * zprod (zxr r) 1 (zqx q) 1 2 := by
  unfold zquo vp_updL
  rw [if_neg (by omega)]
  show vp_updL (fun _ => 0) 1 (2 * zprod (zxr r) 1 (zqx q) 1 2 + zR (2 * r * 0) 1048576 - 0) 1 = _
  unfold vp_updL
  rw [if_pos rfl, Int64.mul_zero, show zR 0 1048576 = 0 from by decide, Int64.add_zero, Int64.sub_zero]
theorem zp_quo0 (r q : Int64) : zquo (zprod (zxr r) 1 (zqx q) 1) 2 r 0 = zprod (zxr r) 1 (zqx q) 1 1 + zR (r * (2 * zprod (zxr r) 1 (zqx q) 1 2)) 1048576 := by
  have e : zquoF (zprod (zxr r) 1 (zqx q) 1) r 2 (fun _ => 0) = vp_updL (fun _ => 0) 1 (2 * zprod (zxr r) 1 (zqx q) 1 2) := by
    show vp_updL (fun _ => 0) 1 (2 * zprod (zxr r) 1 (zqx q) 1 2 + zR (2 * r * 0) 1048576 - 0) = _
    rw [Int64.mul_zero, show zR 0 1048576 = 0 from by decide, Int64.add_zero, Int64.sub_zero]
  unfold zquo
  rw [e]
  show zprod (zxr r) 1 (zqx q) 1 1 + zR (r * (2 * zprod (zxr r) 1 (zqx q) 1 2)) 1048576 - zR 0 2 = _
  rw [show zR 0 2 = 0 from by decide, Int64.sub_zero]
theorem zp_quoh (r q : Int64) {j : Nat} (h : 1 < j) : zquo (zprod (zxr r) 1 (zqx q) 1) 2 r j = 0 := by
  unfold zquo vp_updL
  rw [if_neg (by omega)]
  show vp_updL (fun _ => 0) 1 _ j = 0
  unfold vp_updL
  rw [if_neg (by omega)]
theorem zp_h6 {r q p0 p1 p2 w : Int} (hrb : -950000 ≤ r ∧ r ≤ 950000) (hw : w.natAbs ≤ 950000 * 500000) (hq : 1 ≤ q ∧ q ≤ 500000) (h0 : -1 ≤ -2 * r + q - 2 * p0 ∧ -2 * r + q - 2 * p0 ≤ 1) (h1 : -1048576 ≤ -2 * w + 2199023255552 - 2097152 * p1 ∧ -2 * w + 2199023255552 - 2097152 * p1 ≤ 1048576) (h2 : -1 ≤ q - 2 * p2 ∧ q - 2 * p2 ≤ 1) (h3 : p2 ≥ 1) : -3000000 ≤ p1 ∧ p1 ≤ 3000000 ∧ 1 ≤ p2 ∧ p2 ≤ 250001 := by omega
theorem zp_h7 {v : Int} {y : Int64} (hv : -((950000 * (2 * 250001) : Nat) : Int) ≤ v ∧ v ≤ ((950000 * (2 * 250001) : Nat) : Int)) (h : -1048576 ≤ 1048576 * y.toInt - v ∧ 1048576 * y.toInt - v ≤ 1048576) : zb y 500000 := zb_o (by omega) (by omega)
theorem zb_le_i {v : Int} (h : -((950000 * 500000 : Nat) : Int) ≤ v ∧ v ≤ ((950000 * 500000 : Nat) : Int)) : -((950000 * (2 * 250001) : Nat) : Int) ≤ v ∧ v ≤ ((950000 * (2 * 250001) : Nat) : Int) := by omega
theorem zp_q {r q : Int64} (hr : zb r 950000) (hq1 : 1 ≤ q.toInt) (hq2 : q.toInt ≤ 500000) : zgood (zquo (zprod (zxr r) 1 (zqx q) 1) 2 r) ∧ ztop (zquo (zprod (zxr r) 1 (zqx q) 1) 2 r) 48 ≤ 24 ∧ -8 ≤ (zquo (zprod (zxr r) 1 (zqx q) 1) 2 r 1).toInt - q.toInt ∧ (zquo (zprod (zxr r) 1 (zqx q) 1) 2 r 1).toInt - q.toInt ≤ 8 := by
  obtain ⟨h0, h1, h2, h3⟩ := zp_all hr hq1 hq2
  have hrq : (r.toInt * q.toInt).natAbs ≤ 950000 * 500000 := by
    rw [Int.natAbs_mul]
    exact Nat.mul_le_mul hr (by omega)
  have hb := zp_h6 (zb_i hr) hrq ⟨hq1, hq2⟩ h0 h1 h2 h3
  clear h0 h1 hrq
  have q1 := zp_quo1 r q
  have q0 := zp_quo0 r q
  have hp2 : zb (zprod (zxr r) 1 (zqx q) 1 2) 250001 := zb_o (by omega) (by omega)
  have hp1 : zb (zprod (zxr r) 1 (zqx q) 1 1) 3000000 := zb_o (by omega) (by omega)
  have m2 := zb_mul (x := 2) (A := 2) (by unfold zb; decide) hp2 (by decide)
  have m3 := zb_mul hr m2.1 (by decide)
  have r3 := zR_near (zb_le m3.1 (by decide)) (by decide : (4611686018427387904 : Nat) ≤ 4611686018427387904)
  refine ⟨fun j => ?_, ztop_of 48 (fun j hj _ => zp_quoh r q (by omega)), ?_⟩
  · by_cases e0 : j = 0
    · subst e0
      rw [q0]
      have m3b := zb_i m3.1
      exact zb_le (zb_add hp1 (zp_h7 m3b r3) (by decide)).1 (by decide)
    by_cases e1 : j = 1
    · subst e1; rw [q1]; exact zb_le m2.1 (by decide)
    rw [zp_quoh r q (by omega)]
    exact Nat.zero_le _
  · rw [q1, m2.2, show (2 : Int64).toInt = 2 from rfl]
    clear r3 m3 m2 hp1 q0 q1
    omega
theorem zqx_quo (r q : Int64) : zquo (zqx q) 1 r = vp_updL (fun _ => 0) 0 q := by
  unfold zquo
  show vp_updL (fun _ => 0) 0 (zqx q 1 + zR (r * 0) 1048576 - zR 0 2) = _
  rw [Int64.mul_zero, zqx_1, show zR 0 1048576 = 0 from by decide, show zR 0 2 = 0 from by decide, Int64.add_zero, Int64.sub_zero]
theorem zq1_top (q : Int64) : ztop (vp_updL (fun _ => 0) 0 q) 48 = 0 := Nat.le_zero.mp (ztop_of 48 (fun j hj _ => by unfold vp_updL; rw [if_neg (by omega)]))
theorem zq1_ke {q : Int64} (hq : zb q 500000) : zke (vp_updL (fun _ => 0) 0 q) = 0 := zke_good (zb_up (fun _ => Nat.zero_le _) (zb_le hq (by decide))) (by rw [zq1_top]; omega)
theorem zqx_val {r q : Int64} (hr : zb r 950000) (hq : zb q 500000) : -900000000 ≤ (zval (zqx q) 1 r).toInt := by
  have hm := zb_mul hr hq (by decide)
  have h3 := zR_near (zb_le hm.1 (by decide)) (by decide : (4611686018427387904 : Nat) ≤ 4611686018427387904)
  have h4 := zp_h7 (zb_le_i (zb_i hm.1)) h3
  unfold zval
  show _ ≤ (zqx q 0 + zR (r * (zqx q 1 + zR (2 * r * 0) 1048576 - 0)) 1048576 - 0).toInt
  rw [Int64.mul_zero, zqx_0, zqx_1, show zR 0 1048576 = 0 from by decide, Int64.add_zero, Int64.sub_zero, Int64.sub_zero]
  have hs := zb_add (x := 1048576) (A := 1048576) (by unfold zb; decide) h4 (by decide)
  have := zb_i hs.1
  omega
