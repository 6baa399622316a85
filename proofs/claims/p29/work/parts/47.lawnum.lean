/-! comparisons, as the law makes them -/
theorem znlt {x y : Int64} (h : x ≤ y) : ¬ y < x := by
  rw [Int64.lt_iff_toInt_lt]
  rw [Int64.le_iff_toInt_le] at h
  omega
theorem zn_lt {x y : Int64} (h : y.toInt ≤ x.toInt) : ¬ x < y := by
  rw [Int64.lt_iff_toInt_lt]
  omega
theorem zn_le {x y : Int64} (h : y.toInt < x.toInt) : ¬ x ≤ y := by
  rw [Int64.le_iff_toInt_le]
  omega
theorem zdif {x y : Int64} {B : Int} (h : -B ≤ x.toInt - y.toInt ∧ x.toInt - y.toInt ≤ B) (hB : B ≤ 1000000000000) : (x - y).toInt = x.toInt - y.toInt := zt_sub (by omega)
theorem zoff {x y : Int64} (h : -680 ≤ x.toInt - y.toInt ∧ x.toInt - y.toInt ≤ 680) : ¬ 700 ≤ x - y ∧ ¬ x - y ≤ -700 := by
  have e := zdif h (by decide)
  exact ⟨zn_le (by rw [e, show (700 : Int64).toInt = 700 from rfl]; omega), zn_le (by rw [e, show (-700 : Int64).toInt = -700 from rfl]; omega)⟩
theorem zoff1 {x y : Int64} (h : -20 ≤ x.toInt - y.toInt ∧ x.toInt - y.toInt ≤ 20) : ¬ 100 ≤ x - y ∧ ¬ x - y ≤ -100 := by
  have e := zdif h (by decide)
  exact ⟨zn_le (by rw [e, show (100 : Int64).toInt = 100 from rfl]; omega), zn_le (by rw [e, show (-100 : Int64).toInt = -100 from rfl]; omega)⟩
theorem zoff3 {x y : Int64} (h : -3000 ≤ x.toInt - y.toInt ∧ x.toInt - y.toInt ≤ 3000) : ¬ 3000 < x - y ∧ ¬ x - y < -3000 := by
  have e := zdif h (by decide)
  exact ⟨zn_lt (by rw [e, show (3000 : Int64).toInt = 3000 from rfl]; omega), zn_lt (by rw [e, show (-3000 : Int64).toInt = -3000 from rfl]; omega)⟩
theorem zoff8 {x y : Int64} (h : -8 ≤ x.toInt - y.toInt ∧ x.toInt - y.toInt ≤ 8) : ¬ 8 < x - y ∧ ¬ x - y < -8 := by
  have e := zdif h (by decide)
  exact ⟨zn_lt (by rw [e, show (8 : Int64).toInt = 8 from rfl]; omega), zn_lt (by rw [e, show (-8 : Int64).toInt = -8 from rfl]; omega)⟩
theorem zoff40 {r x : Int64} (h : znr r x) : ¬ 40 < x - r ∧ ¬ x - r < -40 := by
  unfold znr at h
  have e := zdif h (by decide)
  exact ⟨zn_lt (by rw [e, show (40 : Int64).toInt = 40 from rfl]; omega), zn_lt (by rw [e, show (-40 : Int64).toInt = -40 from rfl]; omega)⟩
theorem zle_m {v : Int64} (h : v.toInt = 0) : ¬ v < -60 ∧ ¬ 60 < v := ⟨zn_lt (by rw [h]; decide), zn_lt (by rw [h]; decide)⟩
theorem zlN_le {a b : Nat} (h : a ≤ b) (hb : b < 2147483648) : ¬ lN b < lN a := by
  rw [lN_lt (by omega) (by omega)]
  omega
theorem zlN_ms {w d : Nat} (h : w ≤ d) : lN w = lN d - lN (d - w) := by
  rw [lN_sub (by omega), show d - (d - w) = w by omega]
theorem z0le {a : Nat} (h : a < 2147483648) : (0 : Int64) ≤ (nI a).toInt64 := by
  rw [Int64.le_iff_toInt_le, zi64, nI_toInt (by omega), show (0 : Int64).toInt = 0 from rfl]
  omega
theorem zdw0 {P : Nat → Nat → Int64} {n : Nat → Nat} {t d : Nat} {g : Nat → Int64} (hI : zInv P n) (ht : t ≤ 7) (hs : P t = g ∧ n t = d) : ztw g 0 d 0 = d := by
  obtain ⟨rfl, rfl⟩ := hs
  obtain ⟨h1, h2, h3, h4⟩ := hI t (by omega)
  exact ztw_self h3 h4
theorem zcut_law {f : Nat → Int64} {n tv : Nat} {x : Int64} (hf : ∀ j, zb (f j) 300000) (hn : n ≤ 24) (hz : ∀ j, n < j → f j = 0) (hx : zb x 1048576) (ht : tv < 900000) :
    (¬ zbd (zcut f (ztw f (nI tv).toInt64 n 0)) 25 + lN tv < zbd f 25) ∧ (¬ lN tv + 2 * (60 * lN (n + 1)) < zval (zcut f (ztw f (nI tv).toInt64 n 0)) (ztw f (nI tv).toInt64 n 0) x - zval f n x) ∧ (¬ lN tv + 2 * (60 * lN (n + 1)) < -(zval (zcut f (ztw f (nI tv).toInt64 n 0)) (ztw f (nI tv).toInt64 n 0) x - zval f n x)) := by
  have e0 : (nI tv).toInt64.toInt = tv := by rw [zi64, nI_toInt (by omega)]
  obtain ⟨h1, h2, h3⟩ := zcut_near (tol := (nI tv).toInt64) hf hn hz hx (by rw [e0]; omega) (by rw [e0]; omega)
  rw [e0] at h1 h2 h3
  have hg : zgood f := fun j => zb_le (hf j) (by decide)
  have b1 := zbd_int (zcut_good (d := ztw f (nI tv).toInt64 n 0) hg) 25 (by decide)
  have b2 := zbd_int hg 25 (by decide)
  have el : (lN tv).toInt = tv := zt_lN (by omega)
  have s1 : (zbd (zcut f (ztw f (nI tv).toInt64 n 0)) 25 + lN tv).toInt = (zbd (zcut f (ztw f (nI tv).toInt64 n 0)) 25).toInt + tv := by
    rw [zt_add (by rw [el]; omega), el]
  have h6 : (60 * lN (n + 1)).toInt = 60 * (n + 1 : Nat) := by
    rw [zt_mul (by rw [zt_lN (by omega), show (60 : Int64).toInt = 60 from rfl]; omega), zt_lN (by omega)]
    rfl
  have h7 : (2 * (60 * lN (n + 1))).toInt = 120 * (n + 1 : Nat) := by
    rw [zt_mul (by rw [h6, show (2 : Int64).toInt = 2 from rfl]; omega), h6, show (2 : Int64).toInt = 2 from rfl]
    omega
  have h8 : (lN tv + 2 * (60 * lN (n + 1))).toInt = tv + 120 * (n + 1 : Nat) := by rw [zt_add (by rw [h7, el]; omega), h7, el]
  generalize zval (zcut f (ztw f (nI tv).toInt64 n 0)) (ztw f (nI tv).toInt64 n 0) x = v2 at *
  generalize zval f n x = v1 at *
  have h9 : (v2 - v1).toInt = v2.toInt - v1.toInt := zt_sub (by omega)
  refine ⟨zn_lt (by rw [s1]; omega), zn_lt (by rw [h8, h9]; omega), zn_lt (by rw [h8, zt_neg (by rw [h9]; omega), h9]; omega)⟩
theorem zrootr_m (r : List Int64) : zrootr r (-1) = lN r.length := by
  unfold zrootr
  rw [if_pos rfl]
theorem zrootr_k {r : List Int64} {k : Nat} (h : k < r.length) (h2 : r.length ≤ 24) : zrootr r (nI k) = zgetr r k := by
  have e : (nI k).toInt = k := nI_toInt (by omega)
  unfold zrootr
  rw [if_neg, if_pos (by rw [e]; omega), e]
  · rfl
  · intro h0
    have h1 := congrArg Int32.toInt h0
    rw [e, show (-1 : Int32).toInt = -1 from rfl] at h1
    omega
theorem zlN_1 {d : Nat} (h1 : 1 ≤ d) (h2 : d ≤ 24) : ¬ lN d < 1 := by
  rw [show (1 : Int64) = lN 1 from rfl, lN_lt (by omega) (by omega)]
  omega
theorem zlN_ge {a b : Nat} (ha : a ≤ 25) (hb : b ≤ 25) : lN a ≤ lN b ↔ a ≤ b := lN_le (by omega) (by omega)
theorem zr8 {v : Int64} (h : -8 ≤ v.toInt ∧ v.toInt ≤ 8) : ¬ 8 < v ∧ ¬ v < -8 := ⟨zn_lt (by rw [show (8 : Int64).toInt = 8 from rfl]; omega), zn_lt (by rw [show (-8 : Int64).toInt = -8 from rfl]; omega)⟩
theorem znegI {x : Int32} (h : -950000 ≤ x.toInt ∧ x.toInt ≤ 950000) : (-x).toInt = -x.toInt ∧ (-x).toInt64 = -x.toInt64 := by
  have e : (-x).toInt = -x.toInt := by
    rw [Int32.toInt_neg]
    apply Int.bmod_eq_of_le <;> omega
  refine ⟨e, ?_⟩
  apply zt_eq
  rw [zi64, e, zt_neg (by rw [zi64]; omega), zi64]
theorem znz2 {x : Nat} (h1 : 1 ≤ x) (h : x ≤ 2147483647) : ¬ (nI x).toInt64 = 0 := by
  intro h0
  have h2 := congrArg Int64.toInt h0
  rw [zi64, nI_toInt (by omega), show (0 : Int64).toInt = 0 from rfl] at h2
  omega
theorem zn9 {v : Int64} (h : -900000000 ≤ v.toInt) : ¬ v < -900000000 := zn_lt (by rw [show (-900000000 : Int64).toInt = -900000000 from rfl]; exact h)
theorem zn_ge {x y : Int64} (h : x < y) : ¬ y ≤ x := by
  rw [Int64.le_iff_toInt_le]
  rw [Int64.lt_iff_toInt_lt] at h
  omega
theorem zep_lt2 {p j : Nat} (hp : p < 5) (h1 : 0 < j) (h : j < 2 ^ p + 1) : (zcosv (j * 2 ^ (4 - p))).toInt64 < (zcosv ((j - 1) * 2 ^ (4 - p))).toInt64 := by
  have e := zep_lt p hp (j - 1) (by omega)
  rw [show j - 1 + 1 = j by omega] at e
  exact e
