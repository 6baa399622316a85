/-! CosineSeries: the calls that are not refused -/
theorem zend_up {T P : Nat → Nat → Int64} {top n : Nat → Nat} {t : Nat} {x y : Nat → Int64} {u v : Nat} (h : ∀ i, i < 8 → T i = P i ∧ top i = n i) (hx : x = y) (hu : u = v) : ∀ i, i < 8 → va_up T t x i = va_up P t y i ∧ va_up top t u i = va_up n t v i := by
  intro i hi
  subst hx; subst hu
  by_cases ht : i = t
  · simp [va_up, ht]
  · simp [va_up, ht, h i hi]
theorem zend_8 {T P : Nat → Nat → Int64} {top n : Nat → Nat} {x : Nat → Int64} {u : Nat} (h : ∀ i, i < 8 → T i = P i ∧ top i = n i) : ∀ i, i < 8 → va_up T 8 x i = P i ∧ va_up top 8 u i = n i := by
  intro i hi
  rw [zup8 _ _ (by omega), zup8 _ _ (by omega)]
  exact h i hi
theorem ztop_of {f : Nat → Int64} {m : Nat} : ∀ N, (∀ j, m < j → j ≤ N → f j = 0) → ztop f N ≤ m := by
  intro N
  induction N with
  | zero => intro _; exact Nat.zero_le _
  | succ N ih =>
    intro h
    unfold ztop
    split
    · exact ih (fun j h1 h2 => h j h1 (by omega))
    · rename_i h2
      rcases Nat.lt_or_ge m (N + 1) with h3 | h3
      · exact absurd (h (N + 1) h3 (Nat.le_refl _)) h2
      · exact h3
theorem zcut_le (f : Nat → Int64) (m : Nat) : ztop (zcut f m) 48 ≤ m := ztop_of 48 (fun j h _ => by unfold zcut; rw [if_neg (by omega)])
def zig (c : Nat → Int64) : Nat → Int64
  | 0 => 2 * c 0
  | m + 1 => zig c m + zR (-2 * c (2 * m + 2)) (lN (2 * m + 2) * lN (2 * m + 2) - 1)
def zinn (a b : Nat → Int64) : Nat → Int64
  | 0 => 2 * a 0 * b 0
  | m + 1 => zinn a b m + a (m + 1) * b (m + 1)
def zbd (c : Nat → Int64) : Nat → Int64
  | 0 => 0
  | m + 1 => zbd c m + zabs (c m)
def zbv (c : Nat → Int64) (n pl : Nat) : Nat → Nat → Int64
  | 0, _ => -9000000000000000004
  | u + 1, k => if zplace c k (n + 1) = pl then lN k else zbv c n pl u (k + 1)
theorem zigpos {m : Nat} (h : m ≤ 24) : 0 < lN (2 * m + 2) * lN (2 * m + 2) - 1 := by
  have h1 : (2 * m + 2) * (2 * m + 2) ≤ 50 * 50 := Nat.mul_le_mul (by omega) (by omega)
  have h2 : 2 * 2 ≤ (2 * m + 2) * (2 * m + 2) := Nat.mul_le_mul (by omega) (by omega)
  rw [lN_mul, show (1 : Int64) = lN 1 from rfl, lN_sub (by omega), show (0 : Int64) = lN 0 from rfl, lN_lt (by omega) (by omega)]
  omega
/-- the interpolation's coefficients -/
def zint (pv : Nat → Int64) (p : Nat) : Nat → Int64 := fun k => if k ≤ 2 ^ p then zR ((if k = 0 ∨ k = 2 ^ p then 1 else 2) * zcs pv p k (2 ^ p + 1)) (2 * lN (2 ^ p) * 1048576) else 0
theorem zipos {p : Nat} (hp : p ≤ 4) : 0 < 2 * lN (2 ^ p) * 1048576 := by
  have h : p = 0 ∨ p = 1 ∨ p = 2 ∨ p = 3 ∨ p = 4 := by omega
  rcases h with rfl | rfl | rfl | rfl | rfl <;> decide
/-- the value of a series at an extreme point -/
def zsv (c : Nat → Int64) (n p j : Nat) : Int64 := zval c n (zcosv (j * 2 ^ (4 - p))).toInt64
def zsok (c : Nat → Int64) (n p : Nat) : Nat → Bool
  | 0 => true
  | m + 1 => zsok c n p m && decide (zabs (zsv c n p m) ≤ 134217728)
theorem zsok_bad {c : Nat → Int64} {n p k : Nat} (h : ¬ zabs (zsv c n p k) ≤ 134217728) : ∀ m, k < m → zsok c n p m = false := by
  intro m
  induction m with
  | zero => intro h1; omega
  | succ m ih =>
    intro h1
    unfold zsok
    rcases Nat.lt_or_ge k m with h2 | h2
    · rw [ih h2]; rfl
    · have : k = m := by omega
      subst this
      simp [h]
def zspv (c : Nat → Int64) (n p : Nat) (pv : Nat → Int64) : Nat → Int64 := fun j => if j ≤ 2 ^ p then zsv c n p j else pv j
def zmis (c : Nat → Int64) (n p : Nat) (pv : Nat → Int64) : Nat → Int64
  | 0 => 0
  | m + 1 => zmax (zmis c n p pv m) (zabs (zsv c n p m - pv m))
def zgetr : List Int64 → Nat → Int64
  | [], _ => 0
  | x :: l, j => if j = l.length then x else zgetr l j
theorem zrts_get {rt : Nat → Int64} : ∀ (l : List Int64), zrts rt l → ∀ j, j < l.length → rt j = zgetr l j := by
  intro l
  induction l with
  | nil => intro _ j hj; exact absurd hj (Nat.not_lt_zero _)
  | cons x l ih =>
    intro h j hj
    unfold zgetr
    rw [List.length_cons] at hj
    by_cases e : j = l.length
    · rw [if_pos e, e]; exact h.1
    · rw [if_neg e]; exact ih h.2 j (by omega)
def zrootr (r : List Int64) (ix : Int32) : Int64 := if ix = -1 then lN r.length else if ix.toInt < r.length then zgetr r ix.toInt.toNat else -9000000000000000004
theorem zsea_len (fr : Int64 → Int64 → Bool) : ∀ (u : Nat) (l : List (Int64 × Int64)) (fs : List Int64) (lo : Nat), fs.length ≤ 24 → lo ≤ 2000 → (zsea fr u l fs lo).1.length ≤ 24 ∧ (zsea fr u l fs lo).2 ≤ 2000 := by
  intro u
  induction u with
  | zero => intro l fs lo h h2; exact ⟨h, h2⟩
  | succ u ih =>
    intro l fs lo h h2
    cases l with
    | nil => exact ⟨h, h2⟩
    | cons q l =>
      obtain ⟨a, b⟩ := q
      unfold zsea
      by_cases h3 : fs.length < 24 ∧ lo < 2000
      · rw [if_pos h3]
        split
        · exact ih _ _ _ h (by omega)
        · split
          · exact ih _ _ _ h (by omega)
          · split
            · exact ih _ _ _ h (by omega)
            · exact ih _ _ _ (by rw [List.length_cons]; omega) (by omega)
      · rw [if_neg h3]; exact ⟨h, h2⟩
theorem zroots_len (c : Nat → Int64) (n : Nat) : (zroots c n).1.length ≤ 24 ∧ (zroots c n).2 ≤ 2000 := zsea_len _ _ _ _ _ (by decide) (by decide)
/-- the greatest value: of the ends, then of the first m roots of the derivative -/
def zgm (c : Nat → Int64) (n : Nat) (r : List Int64) : Nat → Int64
  | 0 => zmax (zval c n (-1048576)) (zval c n 1048576)
  | m + 1 => zmax (zgm c n r m) (zval c n (zgetr r m))
def zgr (c : Nat → Int64) (n : Nat) : Int64 := if zke (zder c n) = 0 then zgm c n (zroots (zder c n) (ztop (zder c n) 48)).1 (zroots (zder c n) (ztop (zder c n) 48)).1.length else zke (zder c n)
theorem zidx {ix : Int32} {c : Nat} (h1 : -1 ≤ ix.toInt) (h2 : ¬ ix = -1) (h3 : ¬ nI c ≤ ix) (hc : c ≤ 24) : ∃ j, j < c ∧ ix = nI j := by
  have h4 : ¬ ix.toInt = -1 := fun h => h2 (Int32.toInt_inj.mp h)
  rw [Int32.le_iff_toInt_le, nI_toInt (by omega)] at h3
  obtain ⟨j, hj, rfl⟩ := nI_of (x := ix) (by rw [Int32.lt_iff_toInt_lt]; show ¬ ix.toInt < 0; omega)
  rw [nI_toInt hj] at h3
  exact ⟨j, by omega, rfl⟩
theorem zend_keep2 {T P : Nat → Nat → Int64} {top n : Nat → Nat} {t : Nat} {f : Nat → Int64} (h : ∀ i, i < 8 → T i = P i ∧ top i = n i) : ∀ i, i < 8 → zkP T t f i = zkP P t f i ∧ zkN top t f i = zkN n t f i := by
  intro i hi
  unfold zkP zkN
  split
  · by_cases ht : i = t
    · simp [va_up, ht]
    · simp [va_up, ht, h i hi]
  · exact h i hi

set_option maxHeartbeats 4000000 in
set_option maxRecDepth 100000 in
theorem kX2_setCoefficient (l : Launch) (D : va_G) (cL cI cR : ClassId) (A : Nat → Prop) (F : Nat → Nat) (hF : zq_F A F 30) (T : Nat → Nat → Int64) (top : Nat → Nat) (Z : zZC) (P : Nat → Nat → Int64) (n0 : Nat → Nat) (hTP : ∀ i, i < 8 → T i = P i ∧ top i = n0 i) (h24 : ∀ i, i < 8 → n0 i ≤ 24) (a : Nat) (ha : a ≤ 7) (k : Nat) (hk : k ≤ 24) (vx : Int32) (hv : zin (-268435456) 268435456 vx) : zCt l yX2_setCoefficient wsX2_setCoefficient 1 23 D cL cI cR A F 30 (zCE cL cR F T top Z) [.ref (F 24), .int (nI a), .int (nI k), .int vx] (zPC cL cR F (lN (ztop (vp_updL (P a) k vx.toInt64) 48)) (va_up P a (vp_updL (P a) k vx.toInt64)) (va_up n0 a (ztop (vp_updL (P a) k vx.toInt64) 48)) Z.1) := by
  refine zStart (cc := cX2_setCoefficient) (maxL := 5) (ret := (some .long)) (by decide +kernel) rfl (Nat.le_of_ble_eq_true rfl) ?_
  intro p e s m below meth c hx hb hr hml hlk hown hts hAm H hP hS ls hl
  have hown : s.vm.findClass RX2 = some m.cls := hown
  have hl : lv_has ls 5 [(0, .ref (F 24)), (1, .int (nI a)), (2, .int (nI k)), (3, .int vx)] := hl
  obtain ⟨hTa, hNa⟩ := hTP a (by omega)
  have h24a : top a ≤ 24 := by rw [hNa]; exact h24 a (by omega)
  have h48 := ztop_le (vp_updL (T a) k vx.toInt64) 48
  refine lv_aload_n hx hb dX2_setCoefficient_0 rfl (lv_at hl 0 rfl) ?_
  refine lv_iload_n hx hb dX2_setCoefficient_1 rfl (lv_at hl 1 rfl) ?_
  refine zcallV (As := [.int (nI a)]) (rest := []) (q := 24) (k := 1) hx hb hml hown hts (kX2_find_in l D cL cI cR A F hF T top Z (nI a) a (by omega) rfl) gX2_setCoefficient_X2_find rfl (by decide +kernel) ⟨Nat.le_of_ble_eq_true rfl, Nat.le_of_ble_eq_true rfl⟩ rfl (by omega) (zC_o) rfl rfl hAm hP hS rfl hl.1 rfl (Nat.le_of_ble_eq_true rfl) dX2_setCoefficient_2 ⟨Nat.zero_le _, Nat.zero_le _⟩ (zkn (fun H locs hP hS => ?_))
  refine W.eq (g2 := F0 m 5 ls [.ref (F a)]) rfl ?_
  refine lv_astore (lv' := [(4, .ref (F a)), (0, .ref (F 24)), (1, .int (nI a)), (2, .int (nI k)), (3, .int vx)]) hx hb dX2_setCoefficient_5 hl (by decide) rfl (fun ls hl => ?_)
  refine lv_aload hx hb dX2_setCoefficient_7 (lv_at hl 0 rfl) ?_
  refine lv_ifnull hx hb dX2_setCoefficient_9 ?_
  refine lv_iload_n hx hb dX2_setCoefficient_12 rfl (lv_at hl 3 rfl) ?_
  refine lv_iconst (v := nI 0) hx hb dX2_setCoefficient_13 (by decide +kernel) ?_
  refine lv_bipush (v := nI 24) hx hb dX2_setCoefficient_14 (by decide +kernel) ?_
  refine zcallS (As := [.int (nI k), .int (nI 0), .int (nI 24)]) (rest := []) (k := 3) hx hb hml hown hts (kX2_isOutside l D cL cI cR A F 30 (zCE cL cR F T top Z) (nI k) (nI 0) (nI 24) 0 (zo0 rfl rfl (zin_nI (a := 24) (by omega) (by decide)))) gX2_setCoefficient_X2_isOutside rfl (by decide +kernel) ⟨Nat.le_of_ble_eq_true rfl, Nat.le_of_ble_eq_true rfl⟩ hAm hP hS rfl hl.1 rfl (Nat.le_of_ble_eq_true rfl) dX2_setCoefficient_16 ⟨Nat.zero_le _, Nat.zero_le _⟩ (zkn (fun H locs hP hS => ?_))
  refine W.eq (g2 := F0 m 19 ls [.int (nI 0)]) rfl ?_
  refine zf_ne (tgt := 33) hx hb dX2_setCoefficient_19 (by decide) (by omega) (fun c1 => ?_) (fun c1 => ?_)
  ·
    exfalso; omega
  ·
    refine lv_iload_n hx hb dX2_setCoefficient_22 rfl (lv_at hl 4 rfl) ?_
    refine lv_ldc hx hb hown (hts (.constant RX2 48 (-268435456)) (by decide +kernel)) dX2_setCoefficient_23 ?_
    refine lv_ldc hx hb hown (hts (.constant RX2 49 (268435456)) (by decide +kernel)) dX2_setCoefficient_25 ?_
    refine zcallS (As := [.int vx, .int (-268435456 : Int32), .int (268435456 : Int32)]) (rest := []) (k := 3) hx hb hml hown hts (kX2_isOutside l D cL cI cR A F 30 (zCE cL cR F T top Z) vx (-268435456 : Int32) (268435456 : Int32) 0 (zo0 rfl rfl hv)) gX2_setCoefficient_X2_isOutside rfl (by decide +kernel) ⟨Nat.le_of_ble_eq_true rfl, Nat.le_of_ble_eq_true rfl⟩ hAm hP hS rfl hl.1 rfl (Nat.le_of_ble_eq_true rfl) dX2_setCoefficient_27 ⟨Nat.zero_le _, Nat.zero_le _⟩ (zkn (fun H locs hP hS => ?_))
    refine W.eq (g2 := F0 m 30 ls [.int (nI 0)]) rfl ?_
    refine zf_eq (tgt := 37) hx hb dX2_setCoefficient_30 (by decide) (by omega) (fun c2 => ?_) (fun c2 => ?_)
    ·
      refine lv_aload hx hb dX2_setCoefficient_37 (lv_at hl 0 rfl) ?_
      refine lv_iload_n hx hb dX2_setCoefficient_39 rfl (lv_at hl 3 rfl) ?_
      refine lv_iload_n hx hb dX2_setCoefficient_40 rfl (lv_at hl 4 rfl) ?_
      refine lv_i2l (v := vx.toInt64) hx hb dX2_setCoefficient_41 rfl ?_
      refine zcallV (As := [.int (nI k), .long vx.toInt64]) (rest := []) (q := a) (k := 2) hx hb hml hown hts (kX1_put l D cL cI cR A F hF T top Z a (by omega) k (by omega) vx.toInt64 (va_up T a (vp_updL (T a) k vx.toInt64)) (by first | rfl | simp only [bx_uu, va_up_eq])) gX2_setCoefficient_X1_put rfl (by decide +kernel) ⟨Nat.le_of_ble_eq_true rfl, Nat.le_of_ble_eq_true rfl⟩ rfl (by omega) (zC_s (by omega)) rfl rfl hAm hP hS rfl hl.1 rfl (Nat.le_of_ble_eq_true rfl) dX2_setCoefficient_42 ⟨Nat.zero_le _, Nat.zero_le _⟩ (zkn (fun H locs hP hS => ?_))
      refine W.eq (g2 := F0 m 45 ls []) rfl ?_
      refine lv_aload hx hb dX2_setCoefficient_45 (lv_at hl 0 rfl) ?_
      refine zcallV (As := []) (rest := []) (q := a) (k := 0) hx hb hml hown hts (kX1_trim l D cL cI cR A F hF (va_up T a (vp_updL (T a) k vx.toInt64)) top Z a (by omega) (vp_updL (T a) k vx.toInt64) (by first | rfl | simp [va_up, *]) (va_up top a (ztop (vp_updL (T a) k vx.toInt64) 48)) (by first | rfl | simp only [bx_uu])) gX2_setCoefficient_X1_trim rfl (by decide +kernel) ⟨Nat.le_of_ble_eq_true rfl, Nat.le_of_ble_eq_true rfl⟩ rfl (by omega) (zC_s (by omega)) rfl rfl hAm hP hS rfl hl.1 rfl (Nat.le_of_ble_eq_true rfl) dX2_setCoefficient_47 ⟨Nat.zero_le _, Nat.zero_le _⟩ (zkn (fun H locs hP hS => ?_))
      refine W.eq (g2 := F0 m 50 ls []) rfl ?_
      refine lv_aload hx hb dX2_setCoefficient_50 (lv_at hl 0 rfl) ?_
      refine zcallV (As := []) (rest := []) (q := a) (k := 0) hx hb hml hown hts (kX1_top l D cL cI cR A F hF (va_up T a (vp_updL (T a) k vx.toInt64)) (va_up top a (ztop (vp_updL (T a) k vx.toInt64) 48)) Z a (by omega) (ztop (vp_updL (T a) k vx.toInt64) 48) (by first | rfl | simp [va_up, *])) gX2_setCoefficient_X1_top rfl (by decide +kernel) ⟨Nat.le_of_ble_eq_true rfl, Nat.le_of_ble_eq_true rfl⟩ rfl (by omega) (zC_s (by omega)) rfl rfl hAm hP hS rfl hl.1 rfl (Nat.le_of_ble_eq_true rfl) dX2_setCoefficient_52 ⟨Nat.zero_le _, Nat.zero_le _⟩ (zkn (fun H locs hP hS => ?_))
      refine W.eq (g2 := F0 m 55 ls [.int (nI (ztop (vp_updL (T a) k vx.toInt64) 48))]) rfl ?_
      refine zi2l hx hb (by omega) dX2_setCoefficient_55 ?_
      exact zretL hx hb hr hlk hS hP dX2_setCoefficient_56 ⟨_, _, _, rfl, by rw [hTa], zend_up hTP (by rw [hTa]) (by rw [hTa]), fun _ _ => rfl⟩
    ·
      exfalso; omega

set_option maxHeartbeats 4000000 in
set_option maxRecDepth 100000 in
theorem kX2_coefficient (l : Launch) (D : va_G) (cL cI cR : ClassId) (A : Nat → Prop) (F : Nat → Nat) (hF : zq_F A F 30) (T : Nat → Nat → Int64) (top : Nat → Nat) (Z : zZC) (P : Nat → Nat → Int64) (n0 : Nat → Nat) (hTP : ∀ i, i < 8 → T i = P i ∧ top i = n0 i) (h24 : ∀ i, i < 8 → n0 i ≤ 24) (a : Nat) (ha : a ≤ 7) (k : Nat) (hk : k ≤ 24) : zCt l yX2_coefficient wsX2_coefficient 1 22 D cL cI cR A F 30 (zCE cL cR F T top Z) [.ref (F 24), .int (nI a), .int (nI k)] (zPC cL cR F (P a k) P n0 Z.1) := by
  refine zStart (cc := cX2_coefficient) (maxL := 4) (ret := (some .long)) (by decide +kernel) rfl (Nat.le_of_ble_eq_true rfl) ?_
  intro p e s m below meth c hx hb hr hml hlk hown hts hAm H hP hS ls hl
  have hown : s.vm.findClass RX2 = some m.cls := hown
  have hl : lv_has ls 4 [(0, .ref (F 24)), (1, .int (nI a)), (2, .int (nI k))] := hl
  obtain ⟨hTa, hNa⟩ := hTP a (by omega)
  have h24a : top a ≤ 24 := by rw [hNa]; exact h24 a (by omega)
  refine lv_aload_n hx hb dX2_coefficient_0 rfl (lv_at hl 0 rfl) ?_
  refine lv_iload_n hx hb dX2_coefficient_1 rfl (lv_at hl 1 rfl) ?_
  refine zcallV (As := [.int (nI a)]) (rest := []) (q := 24) (k := 1) hx hb hml hown hts (kX2_find_in l D cL cI cR A F hF T top Z (nI a) a (by omega) rfl) gX2_coefficient_X2_find rfl (by decide +kernel) ⟨Nat.le_of_ble_eq_true rfl, Nat.le_of_ble_eq_true rfl⟩ rfl (by omega) (zC_o) rfl rfl hAm hP hS rfl hl.1 rfl (Nat.le_of_ble_eq_true rfl) dX2_coefficient_2 ⟨Nat.zero_le _, Nat.zero_le _⟩ (zkn (fun H locs hP hS => ?_))
  refine W.eq (g2 := F0 m 5 ls [.ref (F a)]) rfl ?_
  refine lv_astore_n (lv' := [(3, .ref (F a)), (0, .ref (F 24)), (1, .int (nI a)), (2, .int (nI k))]) hx hb dX2_coefficient_5 rfl hl (by decide) rfl (fun ls hl => ?_)
  refine lv_aload_n hx hb dX2_coefficient_6 rfl (lv_at hl 0 rfl) ?_
  refine lv_ifnull hx hb dX2_coefficient_7 ?_
  refine lv_iload_n hx hb dX2_coefficient_10 rfl (lv_at hl 3 rfl) ?_
  refine lv_iconst (v := nI 0) hx hb dX2_coefficient_11 (by decide +kernel) ?_
  refine lv_bipush (v := nI 24) hx hb dX2_coefficient_12 (by decide +kernel) ?_
  refine zcallS (As := [.int (nI k), .int (nI 0), .int (nI 24)]) (rest := []) (k := 3) hx hb hml hown hts (kX2_isOutside l D cL cI cR A F 30 (zCE cL cR F T top Z) (nI k) (nI 0) (nI 24) 0 (zo0 rfl rfl (zin_nI (a := 24) (by omega) (by decide)))) gX2_coefficient_X2_isOutside rfl (by decide +kernel) ⟨Nat.le_of_ble_eq_true rfl, Nat.le_of_ble_eq_true rfl⟩ hAm hP hS rfl hl.1 rfl (Nat.le_of_ble_eq_true rfl) dX2_coefficient_14 ⟨Nat.zero_le _, Nat.zero_le _⟩ (zkn (fun H locs hP hS => ?_))
  refine W.eq (g2 := F0 m 17 ls [.int (nI 0)]) rfl ?_
  refine zf_eq (tgt := 24) hx hb dX2_coefficient_17 (by decide) (by omega) (fun c1 => ?_) (fun c1 => ?_)
  ·
    refine lv_aload_n hx hb dX2_coefficient_24 rfl (lv_at hl 0 rfl) ?_
    refine lv_iload_n hx hb dX2_coefficient_25 rfl (lv_at hl 3 rfl) ?_
    refine zcallV (As := [.int (nI k)]) (rest := []) (q := a) (k := 1) hx hb hml hown hts (kX1_at l D cL cI cR A F hF T top Z a (by omega) k (by omega) ((T a) k) (by first | rfl | simp [va_up, *])) gX2_coefficient_X1_at rfl (by decide +kernel) ⟨Nat.le_of_ble_eq_true rfl, Nat.le_of_ble_eq_true rfl⟩ rfl (by omega) (zC_s (by omega)) rfl rfl hAm hP hS rfl hl.1 rfl (Nat.le_of_ble_eq_true rfl) dX2_coefficient_26 ⟨Nat.zero_le _, Nat.zero_le _⟩ (zkn (fun H locs hP hS => ?_))
    refine W.eq (g2 := F0 m 29 ls [.long ((T a) k)]) rfl ?_
    exact zretL hx hb hr hlk hS hP dX2_coefficient_29 ⟨_, _, _, rfl, by rw [hTa], hTP, fun _ _ => rfl⟩
  ·
    exfalso; omega

set_option maxHeartbeats 4000000 in
set_option maxRecDepth 100000 in
theorem kX2_degree (l : Launch) (D : va_G) (cL cI cR : ClassId) (A : Nat → Prop) (F : Nat → Nat) (hF : zq_F A F 30) (T : Nat → Nat → Int64) (top : Nat → Nat) (Z : zZC) (P : Nat → Nat → Int64) (n0 : Nat → Nat) (hTP : ∀ i, i < 8 → T i = P i ∧ top i = n0 i) (h24 : ∀ i, i < 8 → n0 i ≤ 24) (a : Nat) (ha : a ≤ 7) : zCt l yX2_degree wsX2_degree 1 21 D cL cI cR A F 30 (zCE cL cR F T top Z) [.ref (F 24), .int (nI a)] (zPC cL cR F (lN (n0 a)) P n0 Z.1) := by
  refine zStart (cc := cX2_degree) (maxL := 3) (ret := (some .long)) (by decide +kernel) rfl (Nat.le_of_ble_eq_true rfl) ?_
  intro p e s m below meth c hx hb hr hml hlk hown hts hAm H hP hS ls hl
  have hown : s.vm.findClass RX2 = some m.cls := hown
  have hl : lv_has ls 3 [(0, .ref (F 24)), (1, .int (nI a))] := hl
  obtain ⟨hTa, hNa⟩ := hTP a (by omega)
  have h24a : top a ≤ 24 := by rw [hNa]; exact h24 a (by omega)
  refine lv_aload_n hx hb dX2_degree_0 rfl (lv_at hl 0 rfl) ?_
  refine lv_iload_n hx hb dX2_degree_1 rfl (lv_at hl 1 rfl) ?_
  refine zcallV (As := [.int (nI a)]) (rest := []) (q := 24) (k := 1) hx hb hml hown hts (kX2_find_in l D cL cI cR A F hF T top Z (nI a) a (by omega) rfl) gX2_degree_X2_find rfl (by decide +kernel) ⟨Nat.le_of_ble_eq_true rfl, Nat.le_of_ble_eq_true rfl⟩ rfl (by omega) (zC_o) rfl rfl hAm hP hS rfl hl.1 rfl (Nat.le_of_ble_eq_true rfl) dX2_degree_2 ⟨Nat.zero_le _, Nat.zero_le _⟩ (zkn (fun H locs hP hS => ?_))
  refine W.eq (g2 := F0 m 5 ls [.ref (F a)]) rfl ?_
  refine lv_astore_n (lv' := [(2, .ref (F a)), (0, .ref (F 24)), (1, .int (nI a))]) hx hb dX2_degree_5 rfl hl (by decide) rfl (fun ls hl => ?_)
  refine lv_aload_n hx hb dX2_degree_6 rfl (lv_at hl 0 rfl) ?_
  refine lv_ifnonnull (tgt := 16) hx hb dX2_degree_7 (by decide) ?_
  refine lv_aload_n hx hb dX2_degree_16 rfl (lv_at hl 0 rfl) ?_
  refine zcallV (As := []) (rest := []) (q := a) (k := 0) hx hb hml hown hts (kX1_top l D cL cI cR A F hF T top Z a (by omega) (top a) (by first | rfl | simp [va_up, *])) gX2_degree_X1_top rfl (by decide +kernel) ⟨Nat.le_of_ble_eq_true rfl, Nat.le_of_ble_eq_true rfl⟩ rfl (by omega) (zC_s (by omega)) rfl rfl hAm hP hS rfl hl.1 rfl (Nat.le_of_ble_eq_true rfl) dX2_degree_17 ⟨Nat.zero_le _, Nat.zero_le _⟩ (zkn (fun H locs hP hS => ?_))
  refine W.eq (g2 := F0 m 20 ls [.int (nI (top a))]) rfl ?_
  refine zi2l hx hb (by omega) dX2_degree_20 ?_
  exact zretL hx hb hr hlk hS hP dX2_degree_21 ⟨_, _, _, rfl, by rw [hNa], hTP, fun _ _ => rfl⟩

set_option maxHeartbeats 4000000 in
set_option maxRecDepth 100000 in
theorem kX2_copy (l : Launch) (D : va_G) (cL cI cR : ClassId) (A : Nat → Prop) (F : Nat → Nat) (hF : zq_F A F 30) (T : Nat → Nat → Int64) (top : Nat → Nat) (Z : zZC) (P : Nat → Nat → Int64) (n0 : Nat → Nat) (hTP : ∀ i, i < 8 → T i = P i ∧ top i = n0 i) (h24 : ∀ i, i < 8 → n0 i ≤ 24) (a : Nat) (ha : a ≤ 7) (t : Nat) (ht : t ≤ 7) : zCt l yX2_copy wsX2_copy 2 43 D cL cI cR A F 30 (zCE cL cR F T top Z) [.ref (F 24), .int (nI a), .int (nI t)] (zPC cL cR F (lN (n0 a)) (va_up P t (P a)) (va_up n0 t (n0 a)) Z.1) := by
  refine zStart (cc := cX2_copy) (maxL := 5) (ret := (some .long)) (by decide +kernel) rfl (Nat.le_of_ble_eq_true rfl) ?_
  intro p e s m below meth c hx hb hr hml hlk hown hts hAm H hP hS ls hl
  have hown : s.vm.findClass RX2 = some m.cls := hown
  have hl : lv_has ls 5 [(0, .ref (F 24)), (1, .int (nI a)), (2, .int (nI t))] := hl
  obtain ⟨hTa, hNa⟩ := hTP a (by omega)
  have h24a : top a ≤ 24 := by rw [hNa]; exact h24 a (by omega)
  obtain ⟨hTt, hNt⟩ := hTP t (by omega)
  have h24t : top t ≤ 24 := by rw [hNt]; exact h24 t (by omega)
  refine lv_aload_n hx hb dX2_copy_0 rfl (lv_at hl 0 rfl) ?_
  refine lv_iload_n hx hb dX2_copy_1 rfl (lv_at hl 1 rfl) ?_
  refine zcallV (As := [.int (nI a)]) (rest := []) (q := 24) (k := 1) hx hb hml hown hts (kX2_find_in l D cL cI cR A F hF T top Z (nI a) a (by omega) rfl) gX2_copy_X2_find rfl (by decide +kernel) ⟨Nat.le_of_ble_eq_true rfl, Nat.le_of_ble_eq_true rfl⟩ rfl (by omega) (zC_o) rfl rfl hAm hP hS rfl hl.1 rfl (Nat.le_of_ble_eq_true rfl) dX2_copy_2 ⟨Nat.zero_le _, Nat.zero_le _⟩ (zkn (fun H locs hP hS => ?_))
  refine W.eq (g2 := F0 m 5 ls [.ref (F a)]) rfl ?_
  refine lv_astore_n (lv' := [(3, .ref (F a)), (0, .ref (F 24)), (1, .int (nI a)), (2, .int (nI t))]) hx hb dX2_copy_5 rfl hl (by decide) rfl (fun ls hl => ?_)
  refine lv_aload_n hx hb dX2_copy_6 rfl (lv_at hl 1 rfl) ?_
  refine lv_iload_n hx hb dX2_copy_7 rfl (lv_at hl 3 rfl) ?_
  refine zcallV (As := [.int (nI t)]) (rest := []) (q := 24) (k := 1) hx hb hml hown hts (kX2_find_in l D cL cI cR A F hF T top Z (nI t) t (by omega) rfl) gX2_copy_X2_find rfl (by decide +kernel) ⟨Nat.le_of_ble_eq_true rfl, Nat.le_of_ble_eq_true rfl⟩ rfl (by omega) (zC_o) rfl rfl hAm hP hS rfl hl.1 rfl (Nat.le_of_ble_eq_true rfl) dX2_copy_8 ⟨Nat.zero_le _, Nat.zero_le _⟩ (zkn (fun H locs hP hS => ?_))
  refine W.eq (g2 := F0 m 11 ls [.ref (F t)]) rfl ?_
  refine lv_astore (lv' := [(4, .ref (F t)), (3, .ref (F a)), (0, .ref (F 24)), (1, .int (nI a)), (2, .int (nI t))]) hx hb dX2_copy_11 hl (by decide) rfl (fun ls hl => ?_)
  refine lv_aload_n hx hb dX2_copy_13 rfl (lv_at hl 1 rfl) ?_
  refine lv_ifnull hx hb dX2_copy_14 ?_
  refine lv_aload hx hb dX2_copy_17 (lv_at hl 0 rfl) ?_
  refine lv_ifnonnull (tgt := 26) hx hb dX2_copy_19 (by decide) ?_
  refine lv_aload hx hb dX2_copy_26 (lv_at hl 0 rfl) ?_
  refine lv_aload_n hx hb dX2_copy_28 rfl (lv_at hl 1 rfl) ?_
  refine zcallV (As := [.ref (F a)]) (rest := []) (q := t) (k := 1) hx hb hml hown hts (kX1_take l D cL cI cR A F hF T top Z t (by omega) a (by omega) (T a) rfl (top a) rfl) gX2_copy_X1_take rfl (by decide +kernel) ⟨Nat.le_of_ble_eq_true rfl, Nat.le_of_ble_eq_true rfl⟩ rfl (by omega) (zC_s (by omega)) rfl rfl hAm hP hS rfl hl.1 rfl (Nat.le_of_ble_eq_true rfl) dX2_copy_29 ⟨Nat.zero_le _, Nat.zero_le _⟩ (zkn (fun H locs hP hS => ?_))
  refine W.eq (g2 := F0 m 32 ls []) rfl ?_
  refine lv_aload hx hb dX2_copy_32 (lv_at hl 0 rfl) ?_
  refine zcallV (As := []) (rest := []) (q := t) (k := 0) hx hb hml hown hts (kX1_top l D cL cI cR A F hF (va_up T t (T a)) (va_up top t (top a)) Z t (by omega) (top a) (va_up_eq _ _ _)) gX2_copy_X1_top rfl (by decide +kernel) ⟨Nat.le_of_ble_eq_true rfl, Nat.le_of_ble_eq_true rfl⟩ rfl (by omega) (zC_s (by omega)) rfl rfl hAm hP hS rfl hl.1 rfl (Nat.le_of_ble_eq_true rfl) dX2_copy_34 ⟨Nat.zero_le _, Nat.zero_le _⟩ (zkn (fun H locs hP hS => ?_))
  refine W.eq (g2 := F0 m 37 ls [.int (nI (top a))]) rfl ?_
  refine zi2l hx hb (by omega) dX2_copy_37 ?_
  exact zretL hx hb hr hlk hS hP dX2_copy_38 ⟨_, _, _, rfl, by rw [hNa], zend_up hTP hTa hNa, fun _ _ => rfl⟩

set_option maxHeartbeats 4000000 in
set_option maxRecDepth 100000 in
theorem kX2_value (l : Launch) (D : va_G) (cL cI cR : ClassId) (A : Nat → Prop) (F : Nat → Nat) (hF : zq_F A F 30) (T : Nat → Nat → Int64) (top : Nat → Nat) (Z : zZC) (P : Nat → Nat → Int64) (n0 : Nat → Nat) (hTP : ∀ i, i < 8 → T i = P i ∧ top i = n0 i) (h24 : ∀ i, i < 8 → n0 i ≤ 24) (a : Nat) (ha : a ≤ 7) (x0 : Int32) (hx0 : zin (-1048576) 1048576 x0) : zCt l yX2_value wsX2_value 3 81 D cL cI cR A F 30 (zCE cL cR F T top Z) [.ref (F 24), .int (nI a), .int x0] (zPC cL cR F (zval (P a) (n0 a) x0.toInt64) P n0 Z.1) := by
  refine zStart (cc := cX2_value) (maxL := 4) (ret := (some .long)) (by decide +kernel) rfl (Nat.le_of_ble_eq_true rfl) ?_
  intro p e s m below meth c hx hb hr hml hlk hown hts hAm H hP hS ls hl
  have hown : s.vm.findClass RX2 = some m.cls := hown
  have hl : lv_has ls 4 [(0, .ref (F 24)), (1, .int (nI a)), (2, .int x0)] := hl
  obtain ⟨hTa, hNa⟩ := hTP a (by omega)
  have h24a : top a ≤ 24 := by rw [hNa]; exact h24 a (by omega)
  refine lv_aload_n hx hb dX2_value_0 rfl (lv_at hl 0 rfl) ?_
  refine lv_iload_n hx hb dX2_value_1 rfl (lv_at hl 1 rfl) ?_
  refine zcallV (As := [.int (nI a)]) (rest := []) (q := 24) (k := 1) hx hb hml hown hts (kX2_find_in l D cL cI cR A F hF T top Z (nI a) a (by omega) rfl) gX2_value_X2_find rfl (by decide +kernel) ⟨Nat.le_of_ble_eq_true rfl, Nat.le_of_ble_eq_true rfl⟩ rfl (by omega) (zC_o) rfl rfl hAm hP hS rfl hl.1 rfl (Nat.le_of_ble_eq_true rfl) dX2_value_2 ⟨Nat.zero_le _, Nat.zero_le _⟩ (zkn (fun H locs hP hS => ?_))
  refine W.eq (g2 := F0 m 5 ls [.ref (F a)]) rfl ?_
  refine lv_astore_n (lv' := [(3, .ref (F a)), (0, .ref (F 24)), (1, .int (nI a)), (2, .int x0)]) hx hb dX2_value_5 rfl hl (by decide) rfl (fun ls hl => ?_)
  refine lv_aload_n hx hb dX2_value_6 rfl (lv_at hl 0 rfl) ?_
  refine lv_ifnull hx hb dX2_value_7 ?_
  refine lv_iload_n hx hb dX2_value_10 rfl (lv_at hl 3 rfl) ?_
  refine lv_ldc hx hb hown (hts (.constant RX2 71 (-1048576)) (by decide +kernel)) dX2_value_11 ?_
  refine lv_ldc hx hb hown (hts (.constant RX2 72 (1048576)) (by decide +kernel)) dX2_value_13 ?_
  refine zcallS (As := [.int x0, .int (-1048576 : Int32), .int (1048576 : Int32)]) (rest := []) (k := 3) hx hb hml hown hts (kX2_isOutside l D cL cI cR A F 30 (zCE cL cR F T top Z) x0 (-1048576 : Int32) (1048576 : Int32) 0 (zo0 rfl rfl hx0)) gX2_value_X2_isOutside rfl (by decide +kernel) ⟨Nat.le_of_ble_eq_true rfl, Nat.le_of_ble_eq_true rfl⟩ hAm hP hS rfl hl.1 rfl (Nat.le_of_ble_eq_true rfl) dX2_value_15 ⟨Nat.zero_le _, Nat.zero_le _⟩ (zkn (fun H locs hP hS => ?_))
  refine W.eq (g2 := F0 m 18 ls [.int (nI 0)]) rfl ?_
  refine zf_eq (tgt := 25) hx hb dX2_value_18 (by decide) (by omega) (fun c1 => ?_) (fun c1 => ?_)
  ·
    refine lv_aload_n hx hb dX2_value_25 rfl (lv_at hl 0 rfl) ?_
    refine lv_iload_n hx hb dX2_value_26 rfl (lv_at hl 3 rfl) ?_
    refine lv_i2l (v := x0.toInt64) hx hb dX2_value_27 rfl ?_
    refine zcallV (As := [.long x0.toInt64]) (rest := []) (q := a) (k := 1) hx hb hml hown hts (kX1_valueAt l D cL cI cR A F hF T top Z a (by omega) x0.toInt64 (T a) (by first | rfl | simp [va_up, *]) (top a) (by first | rfl | simp [va_up, *]) (by omega)) gX2_value_X1_valueAt rfl (by decide +kernel) ⟨Nat.le_of_ble_eq_true rfl, Nat.le_of_ble_eq_true rfl⟩ rfl (by omega) (zC_s (by omega)) rfl rfl hAm hP hS rfl hl.1 rfl (Nat.le_of_ble_eq_true rfl) dX2_value_28 ⟨Nat.zero_le _, Nat.zero_le _⟩ (zkn (fun H locs hP hS => ?_))
    refine W.eq (g2 := F0 m 31 ls [.long (zval (T a) (top a) x0.toInt64)]) rfl ?_
    exact zretL hx hb hr hlk hS hP dX2_value_31 ⟨_, _, _, rfl, by rw [hTa, hNa], hTP, fun _ _ => rfl⟩
  ·
    exfalso; omega

set_option maxHeartbeats 4000000 in
set_option maxRecDepth 100000 in
theorem kX2_add (l : Launch) (D : va_G) (cL cI cR : ClassId) (A : Nat → Prop) (F : Nat → Nat) (hF : zq_F A F 30) (T : Nat → Nat → Int64) (top : Nat → Nat) (Z : zZC) (P : Nat → Nat → Int64) (n0 : Nat → Nat) (hTP : ∀ i, i < 8 → T i = P i ∧ top i = n0 i) (h24 : ∀ i, i < 8 → n0 i ≤ 24) (a : Nat) (ha : a ≤ 7) (b : Nat) (hb : b ≤ 7) (t : Nat) (ht : t ≤ 7) (fa fb : Int32) (hfa : zin (-1000) 1000 fa) (hfb : zin (-1000) 1000 fb) : zCt l yX2_add wsX2_add 3 66 D cL cI cR A F 30 (zCE cL cR F T top Z) [.ref (F 24), .int (nI a), .int fa, .int (nI b), .int fb, .int (nI t)] (zPC cL cR F (zkr (zsum fa.toInt64 fb.toInt64 (P a) (P b))) (zkP P t (zsum fa.toInt64 fb.toInt64 (P a) (P b))) (zkN n0 t (zsum fa.toInt64 fb.toInt64 (P a) (P b))) Z.1) := by
  refine zStart (cc := cX2_add) (maxL := 9) (ret := (some .long)) (by decide +kernel) rfl (Nat.le_of_ble_eq_true rfl) ?_
  intro p e s m below meth c hx hb hr hml hlk hown hts hAm H hP hS ls hl
  have hown : s.vm.findClass RX2 = some m.cls := hown
  have hl : lv_has ls 9 [(0, .ref (F 24)), (1, .int (nI a)), (2, .int fa), (3, .int (nI b)), (4, .int fb), (5, .int (nI t))] := hl
  have hinX2 : ∀ w ∈ u_ws RX2 TX2 7, w ∈ wsX2_add := by decide +kernel
  obtain ⟨hTa, hNa⟩ := hTP a (by omega)
  have h24a : top a ≤ 24 := by rw [hNa]; exact h24 a (by omega)
  obtain ⟨hTb, hNb⟩ := hTP b (by omega)
  have h24b : top b ≤ 24 := by rw [hNb]; exact h24 b (by omega)
  obtain ⟨hTt, hNt⟩ := hTP t (by omega)
  have h24t : top t ≤ 24 := by rw [hNt]; exact h24 t (by omega)
  obtain ⟨f2, hf2⟩ : ∃ f : Nat → Int64, f = (zsum fa.toInt64 fb.toInt64 (P a) (P b)) := ⟨_, rfl⟩
  refine lv_aload_n hx hb dX2_add_0 rfl (lv_at hl 0 rfl) ?_
  refine lv_iload_n hx hb dX2_add_1 rfl (lv_at hl 1 rfl) ?_
  refine zcallV (As := [.int (nI a)]) (rest := []) (q := 24) (k := 1) hx hb hml hown hts (kX2_find_in l D cL cI cR A F hF T top Z (nI a) a (by omega) rfl) gX2_add_X2_find rfl (by decide +kernel) ⟨Nat.le_of_ble_eq_true rfl, Nat.le_of_ble_eq_true rfl⟩ rfl (by omega) (zC_o) rfl rfl hAm hP hS rfl hl.1 rfl (Nat.le_of_ble_eq_true rfl) dX2_add_2 ⟨Nat.zero_le _, Nat.zero_le _⟩ (zkn (fun H locs hP hS => ?_))
  refine W.eq (g2 := F0 m 5 ls [.ref (F a)]) rfl ?_
  refine lv_astore (lv' := [(6, .ref (F a)), (0, .ref (F 24)), (1, .int (nI a)), (2, .int fa), (3, .int (nI b)), (4, .int fb), (5, .int (nI t))]) hx hb dX2_add_5 hl (by decide) rfl (fun ls hl => ?_)
  refine lv_aload_n hx hb dX2_add_7 rfl (lv_at hl 1 rfl) ?_
  refine lv_iload_n hx hb dX2_add_8 rfl (lv_at hl 4 rfl) ?_
  refine zcallV (As := [.int (nI b)]) (rest := []) (q := 24) (k := 1) hx hb hml hown hts (kX2_find_in l D cL cI cR A F hF T top Z (nI b) b (by omega) rfl) gX2_add_X2_find rfl (by decide +kernel) ⟨Nat.le_of_ble_eq_true rfl, Nat.le_of_ble_eq_true rfl⟩ rfl (by omega) (zC_o) rfl rfl hAm hP hS rfl hl.1 rfl (Nat.le_of_ble_eq_true rfl) dX2_add_9 ⟨Nat.zero_le _, Nat.zero_le _⟩ (zkn (fun H locs hP hS => ?_))
  refine W.eq (g2 := F0 m 12 ls [.ref (F b)]) rfl ?_
  refine lv_astore (lv' := [(7, .ref (F b)), (6, .ref (F a)), (0, .ref (F 24)), (1, .int (nI a)), (2, .int fa), (3, .int (nI b)), (4, .int fb), (5, .int (nI t))]) hx hb dX2_add_12 hl (by decide) rfl (fun ls hl => ?_)
  refine lv_aload_n hx hb dX2_add_14 rfl (lv_at hl 2 rfl) ?_
  refine lv_iload hx hb dX2_add_15 (lv_at hl 7 rfl) ?_
  refine zcallV (As := [.int (nI t)]) (rest := []) (q := 24) (k := 1) hx hb hml hown hts (kX2_find_in l D cL cI cR A F hF T top Z (nI t) t (by omega) rfl) gX2_add_X2_find rfl (by decide +kernel) ⟨Nat.le_of_ble_eq_true rfl, Nat.le_of_ble_eq_true rfl⟩ rfl (by omega) (zC_o) rfl rfl hAm hP hS rfl hl.1 rfl (Nat.le_of_ble_eq_true rfl) dX2_add_17 ⟨Nat.zero_le _, Nat.zero_le _⟩ (zkn (fun H locs hP hS => ?_))
  refine W.eq (g2 := F0 m 20 ls [.ref (F t)]) rfl ?_
  refine lv_astore (lv' := [(8, .ref (F t)), (7, .ref (F b)), (6, .ref (F a)), (0, .ref (F 24)), (1, .int (nI a)), (2, .int fa), (3, .int (nI b)), (4, .int fb), (5, .int (nI t))]) hx hb dX2_add_20 hl (by decide) rfl (fun ls hl => ?_)
  refine lv_aload hx hb dX2_add_22 (lv_at hl 2 rfl) ?_
  refine lv_ifnull hx hb dX2_add_24 ?_
  refine lv_aload hx hb dX2_add_27 (lv_at hl 1 rfl) ?_
  refine lv_ifnull hx hb dX2_add_29 ?_
  refine lv_aload hx hb dX2_add_32 (lv_at hl 0 rfl) ?_
  refine lv_ifnonnull (tgt := 41) hx hb dX2_add_34 (by decide) ?_
  refine lv_iload_n hx hb dX2_add_41 rfl (lv_at hl 5 rfl) ?_
  refine lv_sipush (v := (-1000 : Int32)) hx hb dX2_add_42 (by decide +kernel) ?_
  refine lv_sipush (v := nI 1000) hx hb dX2_add_45 (by decide +kernel) ?_
  refine zcallS (As := [.int fa, .int (-1000 : Int32), .int (nI 1000)]) (rest := []) (k := 3) hx hb hml hown hts (kX2_isOutside l D cL cI cR A F 30 (zCE cL cR F T top Z) fa (-1000 : Int32) (nI 1000) 0 (zo0 rfl rfl hfa)) gX2_add_X2_isOutside rfl (by decide +kernel) ⟨Nat.le_of_ble_eq_true rfl, Nat.le_of_ble_eq_true rfl⟩ hAm hP hS rfl hl.1 rfl (Nat.le_of_ble_eq_true rfl) dX2_add_48 ⟨Nat.zero_le _, Nat.zero_le _⟩ (zkn (fun H locs hP hS => ?_))
  refine W.eq (g2 := F0 m 51 ls [.int (nI 0)]) rfl ?_
  refine zf_ne (tgt := 68) hx hb dX2_add_51 (by decide) (by omega) (fun c1 => ?_) (fun c1 => ?_)
  ·
    exfalso; omega
  ·
    refine lv_iload hx hb dX2_add_54 (lv_at hl 7 rfl) ?_
    refine lv_sipush (v := (-1000 : Int32)) hx hb dX2_add_56 (by decide +kernel) ?_
    refine lv_sipush (v := nI 1000) hx hb dX2_add_59 (by decide +kernel) ?_
    refine zcallS (As := [.int fb, .int (-1000 : Int32), .int (nI 1000)]) (rest := []) (k := 3) hx hb hml hown hts (kX2_isOutside l D cL cI cR A F 30 (zCE cL cR F T top Z) fb (-1000 : Int32) (nI 1000) 0 (zo0 rfl rfl hfb)) gX2_add_X2_isOutside rfl (by decide +kernel) ⟨Nat.le_of_ble_eq_true rfl, Nat.le_of_ble_eq_true rfl⟩ hAm hP hS rfl hl.1 rfl (Nat.le_of_ble_eq_true rfl) dX2_add_62 ⟨Nat.zero_le _, Nat.zero_le _⟩ (zkn (fun H locs hP hS => ?_))
    refine W.eq (g2 := F0 m 65 ls [.int (nI 0)]) rfl ?_
    refine zf_eq (tgt := 72) hx hb dX2_add_65 (by decide) (by omega) (fun c2 => ?_) (fun c2 => ?_)
    ·
      refine lv_aload_n hx hb dX2_add_72 rfl (lv_at hl 3 rfl) ?_
      refine zget (q := 24) (k := 3) (v := .ref (F 8)) hx hb hts hinX2 hown hAm hP (by omega) (zC_o) rfl (by decide) (hts (.fieldLink RX2 27 "CosineSeries" "made" "LCosineSeries$Series;") (by decide +kernel)) (by first | rfl | simp [va_up, *]) dX2_add_73 ?_
      refine lv_aload hx hb dX2_add_76 (lv_at hl 2 rfl) ?_
      refine lv_iload_n hx hb dX2_add_78 rfl (lv_at hl 5 rfl) ?_
      refine lv_aload hx hb dX2_add_79 (lv_at hl 1 rfl) ?_
      refine lv_iload hx hb dX2_add_81 (lv_at hl 7 rfl) ?_
      refine zcallV (As := [.ref (F a), .int fa, .ref (F b), .int fb]) (rest := []) (q := 8) (k := 4) hx hb hml hown hts (kX1_becomeSum l D cL cI cR A F hF T top Z 8 (by omega) a (by omega) (by omega) b (by omega) (by omega) fa fb (T a) (T b) rfl rfl f2 (by rw [hf2, hTa, hTb])) gX2_add_X1_becomeSum rfl (by decide +kernel) ⟨Nat.le_of_ble_eq_true rfl, Nat.le_of_ble_eq_true rfl⟩ rfl (by omega) (zC_s (by omega)) rfl rfl hAm hP hS rfl hl.1 rfl (Nat.le_of_ble_eq_true rfl) dX2_add_83 ⟨Nat.zero_le _, Nat.zero_le _⟩ (zkn (fun H locs hP hS => ?_))
      refine W.eq (g2 := F0 m 86 ls []) rfl ?_
      refine lv_aload_n hx hb dX2_add_86 rfl (lv_at hl 3 rfl) ?_
      refine lv_aload hx hb dX2_add_87 (lv_at hl 0 rfl) ?_
      refine zcallV (As := [.ref (F t)]) (rest := []) (q := 24) (k := 1) hx hb hml hown hts (kX2_keepMade l D cL cI cR A F hF (va_up T 8 f2) (va_up top 8 (ztop f2 48)) Z t (by omega) f2 (va_up_eq _ _ _) (va_up_eq _ _ _) (zkP (va_up T 8 f2) t f2) (zkN (va_up top 8 (ztop f2 48)) t f2) rfl rfl) gX2_add_X2_keepMade rfl (by decide +kernel) ⟨Nat.le_of_ble_eq_true rfl, Nat.le_of_ble_eq_true rfl⟩ rfl (by omega) (zC_o) rfl rfl hAm hP hS rfl hl.1 rfl (Nat.le_of_ble_eq_true rfl) dX2_add_89 ⟨Nat.zero_le _, Nat.zero_le _⟩ (zkn (fun H locs hP hS => ?_))
      refine W.eq (g2 := F0 m 92 ls [.long (zkr f2)]) rfl ?_
      exact zretL hx hb hr hlk hS hP dX2_add_92 ⟨_, _, _, rfl, by rw [← hf2], by rw [← hf2]; exact zend_keep hTP, fun _ _ => rfl⟩
    ·
      exfalso; omega

set_option maxHeartbeats 4000000 in
set_option maxRecDepth 100000 in
theorem kX2_multiply (l : Launch) (D : va_G) (cL cI cR : ClassId) (A : Nat → Prop) (F : Nat → Nat) (hF : zq_F A F 30) (T : Nat → Nat → Int64) (top : Nat → Nat) (Z : zZC) (P : Nat → Nat → Int64) (n0 : Nat → Nat) (hTP : ∀ i, i < 8 → T i = P i ∧ top i = n0 i) (h24 : ∀ i, i < 8 → n0 i ≤ 24) (a : Nat) (ha : a ≤ 7) (b : Nat) (hb : b ≤ 7) (t : Nat) (ht : t ≤ 7) : zCt l yX2_multiply wsX2_multiply 3 79 D cL cI cR A F 30 (zCE cL cR F T top Z) [.ref (F 24), .int (nI a), .int (nI b), .int (nI t)] (zPC cL cR F (zkr (zprod (P a) (n0 a) (P b) (n0 b))) (zkP P t (zprod (P a) (n0 a) (P b) (n0 b))) (zkN n0 t (zprod (P a) (n0 a) (P b) (n0 b))) Z.1) := by
  refine zStart (cc := cX2_multiply) (maxL := 7) (ret := (some .long)) (by decide +kernel) rfl (Nat.le_of_ble_eq_true rfl) ?_
  intro p e s m below meth c hx hb hr hml hlk hown hts hAm H hP hS ls hl
  have hown : s.vm.findClass RX2 = some m.cls := hown
  have hl : lv_has ls 7 [(0, .ref (F 24)), (1, .int (nI a)), (2, .int (nI b)), (3, .int (nI t))] := hl
  have hinX2 : ∀ w ∈ u_ws RX2 TX2 7, w ∈ wsX2_multiply := by decide +kernel
  obtain ⟨hTa, hNa⟩ := hTP a (by omega)
  have h24a : top a ≤ 24 := by rw [hNa]; exact h24 a (by omega)
  obtain ⟨hTb, hNb⟩ := hTP b (by omega)
  have h24b : top b ≤ 24 := by rw [hNb]; exact h24 b (by omega)
  obtain ⟨hTt, hNt⟩ := hTP t (by omega)
  have h24t : top t ≤ 24 := by rw [hNt]; exact h24 t (by omega)
  obtain ⟨f2, hf2⟩ : ∃ f : Nat → Int64, f = (zprod (P a) (n0 a) (P b) (n0 b)) := ⟨_, rfl⟩
  refine lv_aload_n hx hb dX2_multiply_0 rfl (lv_at hl 0 rfl) ?_
  refine lv_iload_n hx hb dX2_multiply_1 rfl (lv_at hl 1 rfl) ?_
  refine zcallV (As := [.int (nI a)]) (rest := []) (q := 24) (k := 1) hx hb hml hown hts (kX2_find_in l D cL cI cR A F hF T top Z (nI a) a (by omega) rfl) gX2_multiply_X2_find rfl (by decide +kernel) ⟨Nat.le_of_ble_eq_true rfl, Nat.le_of_ble_eq_true rfl⟩ rfl (by omega) (zC_o) rfl rfl hAm hP hS rfl hl.1 rfl (Nat.le_of_ble_eq_true rfl) dX2_multiply_2 ⟨Nat.zero_le _, Nat.zero_le _⟩ (zkn (fun H locs hP hS => ?_))
  refine W.eq (g2 := F0 m 5 ls [.ref (F a)]) rfl ?_
  refine lv_astore (lv' := [(4, .ref (F a)), (0, .ref (F 24)), (1, .int (nI a)), (2, .int (nI b)), (3, .int (nI t))]) hx hb dX2_multiply_5 hl (by decide) rfl (fun ls hl => ?_)
  refine lv_aload_n hx hb dX2_multiply_7 rfl (lv_at hl 1 rfl) ?_
  refine lv_iload_n hx hb dX2_multiply_8 rfl (lv_at hl 3 rfl) ?_
  refine zcallV (As := [.int (nI b)]) (rest := []) (q := 24) (k := 1) hx hb hml hown hts (kX2_find_in l D cL cI cR A F hF T top Z (nI b) b (by omega) rfl) gX2_multiply_X2_find rfl (by decide +kernel) ⟨Nat.le_of_ble_eq_true rfl, Nat.le_of_ble_eq_true rfl⟩ rfl (by omega) (zC_o) rfl rfl hAm hP hS rfl hl.1 rfl (Nat.le_of_ble_eq_true rfl) dX2_multiply_9 ⟨Nat.zero_le _, Nat.zero_le _⟩ (zkn (fun H locs hP hS => ?_))
  refine W.eq (g2 := F0 m 12 ls [.ref (F b)]) rfl ?_
  refine lv_astore (lv' := [(5, .ref (F b)), (4, .ref (F a)), (0, .ref (F 24)), (1, .int (nI a)), (2, .int (nI b)), (3, .int (nI t))]) hx hb dX2_multiply_12 hl (by decide) rfl (fun ls hl => ?_)
  refine lv_aload_n hx hb dX2_multiply_14 rfl (lv_at hl 2 rfl) ?_
  refine lv_iload_n hx hb dX2_multiply_15 rfl (lv_at hl 5 rfl) ?_
  refine zcallV (As := [.int (nI t)]) (rest := []) (q := 24) (k := 1) hx hb hml hown hts (kX2_find_in l D cL cI cR A F hF T top Z (nI t) t (by omega) rfl) gX2_multiply_X2_find rfl (by decide +kernel) ⟨Nat.le_of_ble_eq_true rfl, Nat.le_of_ble_eq_true rfl⟩ rfl (by omega) (zC_o) rfl rfl hAm hP hS rfl hl.1 rfl (Nat.le_of_ble_eq_true rfl) dX2_multiply_16 ⟨Nat.zero_le _, Nat.zero_le _⟩ (zkn (fun H locs hP hS => ?_))
  refine W.eq (g2 := F0 m 19 ls [.ref (F t)]) rfl ?_
  refine lv_astore (lv' := [(6, .ref (F t)), (5, .ref (F b)), (4, .ref (F a)), (0, .ref (F 24)), (1, .int (nI a)), (2, .int (nI b)), (3, .int (nI t))]) hx hb dX2_multiply_19 hl (by decide) rfl (fun ls hl => ?_)
  refine lv_aload hx hb dX2_multiply_21 (lv_at hl 2 rfl) ?_
  refine lv_ifnull hx hb dX2_multiply_23 ?_
  refine lv_aload hx hb dX2_multiply_26 (lv_at hl 1 rfl) ?_
  refine lv_ifnull hx hb dX2_multiply_28 ?_
  refine lv_aload hx hb dX2_multiply_31 (lv_at hl 0 rfl) ?_
  refine lv_ifnonnull (tgt := 40) hx hb dX2_multiply_33 (by decide) ?_
  refine lv_aload_n hx hb dX2_multiply_40 rfl (lv_at hl 3 rfl) ?_
  refine zget (q := 24) (k := 3) (v := .ref (F 8)) hx hb hts hinX2 hown hAm hP (by omega) (zC_o) rfl (by decide) (hts (.fieldLink RX2 27 "CosineSeries" "made" "LCosineSeries$Series;") (by decide +kernel)) (by first | rfl | simp [va_up, *]) dX2_multiply_41 ?_
  refine lv_aload hx hb dX2_multiply_44 (lv_at hl 2 rfl) ?_
  refine lv_aload hx hb dX2_multiply_46 (lv_at hl 1 rfl) ?_
  refine zcallV (As := [.ref (F a), .ref (F b)]) (rest := []) (q := 8) (k := 2) hx hb hml hown hts (kX1_becomeProduct l D cL cI cR A F hF T top Z 8 (by omega) a (by omega) (by omega) b (by omega) (by omega) h24a h24b f2 (by rw [hf2, hTa, hTb, hNa, hNb])) gX2_multiply_X1_becomeProduct rfl (by decide +kernel) ⟨Nat.le_of_ble_eq_true rfl, Nat.le_of_ble_eq_true rfl⟩ rfl (by omega) (zC_s (by omega)) rfl rfl hAm hP hS rfl hl.1 rfl (Nat.le_of_ble_eq_true rfl) dX2_multiply_48 ⟨Nat.zero_le _, Nat.zero_le _⟩ (zkn (fun H locs hP hS => ?_))
  refine W.eq (g2 := F0 m 51 ls []) rfl ?_
  refine lv_aload_n hx hb dX2_multiply_51 rfl (lv_at hl 3 rfl) ?_
  refine lv_aload hx hb dX2_multiply_52 (lv_at hl 0 rfl) ?_
  refine zcallV (As := [.ref (F t)]) (rest := []) (q := 24) (k := 1) hx hb hml hown hts (kX2_keepMade l D cL cI cR A F hF (va_up T 8 f2) (va_up top 8 (ztop f2 48)) Z t (by omega) f2 (va_up_eq _ _ _) (va_up_eq _ _ _) (zkP (va_up T 8 f2) t f2) (zkN (va_up top 8 (ztop f2 48)) t f2) rfl rfl) gX2_multiply_X2_keepMade rfl (by decide +kernel) ⟨Nat.le_of_ble_eq_true rfl, Nat.le_of_ble_eq_true rfl⟩ rfl (by omega) (zC_o) rfl rfl hAm hP hS rfl hl.1 rfl (Nat.le_of_ble_eq_true rfl) dX2_multiply_54 ⟨Nat.zero_le _, Nat.zero_le _⟩ (zkn (fun H locs hP hS => ?_))
  refine W.eq (g2 := F0 m 57 ls [.long (zkr f2)]) rfl ?_
  exact zretL hx hb hr hlk hS hP dX2_multiply_57 ⟨_, _, _, rfl, by rw [← hf2], by rw [← hf2]; exact zend_keep hTP, fun _ _ => rfl⟩

set_option maxHeartbeats 4000000 in
set_option maxRecDepth 100000 in
theorem kX2_differentiate (l : Launch) (D : va_G) (cL cI cR : ClassId) (A : Nat → Prop) (F : Nat → Nat) (hF : zq_F A F 30) (T : Nat → Nat → Int64) (top : Nat → Nat) (Z : zZC) (P : Nat → Nat → Int64) (n0 : Nat → Nat) (hTP : ∀ i, i < 8 → T i = P i ∧ top i = n0 i) (h24 : ∀ i, i < 8 → n0 i ≤ 24) (a : Nat) (ha : a ≤ 7) (t : Nat) (ht : t ≤ 7) : zCt l yX2_differentiate wsX2_differentiate 3 74 D cL cI cR A F 30 (zCE cL cR F T top Z) [.ref (F 24), .int (nI a), .int (nI t)] (zPC cL cR F (zkr (zder (P a) (n0 a))) (zkP P t (zder (P a) (n0 a))) (zkN n0 t (zder (P a) (n0 a))) Z.1) := by
  refine zStart (cc := cX2_differentiate) (maxL := 5) (ret := (some .long)) (by decide +kernel) rfl (Nat.le_of_ble_eq_true rfl) ?_
  intro p e s m below meth c hx hb hr hml hlk hown hts hAm H hP hS ls hl
  have hown : s.vm.findClass RX2 = some m.cls := hown
  have hl : lv_has ls 5 [(0, .ref (F 24)), (1, .int (nI a)), (2, .int (nI t))] := hl
  have hinX2 : ∀ w ∈ u_ws RX2 TX2 7, w ∈ wsX2_differentiate := by decide +kernel
  obtain ⟨hTa, hNa⟩ := hTP a (by omega)
  have h24a : top a ≤ 24 := by rw [hNa]; exact h24 a (by omega)
  obtain ⟨hTt, hNt⟩ := hTP t (by omega)
  have h24t : top t ≤ 24 := by rw [hNt]; exact h24 t (by omega)
  obtain ⟨f2, hf2⟩ : ∃ f : Nat → Int64, f = (zder (P a) (n0 a)) := ⟨_, rfl⟩
  refine lv_aload_n hx hb dX2_differentiate_0 rfl (lv_at hl 0 rfl) ?_
  refine lv_iload_n hx hb dX2_differentiate_1 rfl (lv_at hl 1 rfl) ?_
  refine zcallV (As := [.int (nI a)]) (rest := []) (q := 24) (k := 1) hx hb hml hown hts (kX2_find_in l D cL cI cR A F hF T top Z (nI a) a (by omega) rfl) gX2_differentiate_X2_find rfl (by decide +kernel) ⟨Nat.le_of_ble_eq_true rfl, Nat.le_of_ble_eq_true rfl⟩ rfl (by omega) (zC_o) rfl rfl hAm hP hS rfl hl.1 rfl (Nat.le_of_ble_eq_true rfl) dX2_differentiate_2 ⟨Nat.zero_le _, Nat.zero_le _⟩ (zkn (fun H locs hP hS => ?_))
  refine W.eq (g2 := F0 m 5 ls [.ref (F a)]) rfl ?_
  refine lv_astore_n (lv' := [(3, .ref (F a)), (0, .ref (F 24)), (1, .int (nI a)), (2, .int (nI t))]) hx hb dX2_differentiate_5 rfl hl (by decide) rfl (fun ls hl => ?_)
  refine lv_aload_n hx hb dX2_differentiate_6 rfl (lv_at hl 1 rfl) ?_
  refine lv_iload_n hx hb dX2_differentiate_7 rfl (lv_at hl 3 rfl) ?_
  refine zcallV (As := [.int (nI t)]) (rest := []) (q := 24) (k := 1) hx hb hml hown hts (kX2_find_in l D cL cI cR A F hF T top Z (nI t) t (by omega) rfl) gX2_differentiate_X2_find rfl (by decide +kernel) ⟨Nat.le_of_ble_eq_true rfl, Nat.le_of_ble_eq_true rfl⟩ rfl (by omega) (zC_o) rfl rfl hAm hP hS rfl hl.1 rfl (Nat.le_of_ble_eq_true rfl) dX2_differentiate_8 ⟨Nat.zero_le _, Nat.zero_le _⟩ (zkn (fun H locs hP hS => ?_))
  refine W.eq (g2 := F0 m 11 ls [.ref (F t)]) rfl ?_
  refine lv_astore (lv' := [(4, .ref (F t)), (3, .ref (F a)), (0, .ref (F 24)), (1, .int (nI a)), (2, .int (nI t))]) hx hb dX2_differentiate_11 hl (by decide) rfl (fun ls hl => ?_)
  refine lv_aload_n hx hb dX2_differentiate_13 rfl (lv_at hl 1 rfl) ?_
  refine lv_ifnull hx hb dX2_differentiate_14 ?_
  refine lv_aload hx hb dX2_differentiate_17 (lv_at hl 0 rfl) ?_
  refine lv_ifnonnull (tgt := 26) hx hb dX2_differentiate_19 (by decide) ?_
  refine lv_aload_n hx hb dX2_differentiate_26 rfl (lv_at hl 2 rfl) ?_
  refine zget (q := 24) (k := 3) (v := .ref (F 8)) hx hb hts hinX2 hown hAm hP (by omega) (zC_o) rfl (by decide) (hts (.fieldLink RX2 27 "CosineSeries" "made" "LCosineSeries$Series;") (by decide +kernel)) (by first | rfl | simp [va_up, *]) dX2_differentiate_27 ?_
  refine lv_aload_n hx hb dX2_differentiate_30 rfl (lv_at hl 1 rfl) ?_
  refine zcallV (As := [.ref (F a)]) (rest := []) (q := 8) (k := 1) hx hb hml hown hts (kX1_becomeDerivative l D cL cI cR A F hF T top Z 8 (by omega) a (by omega) (by omega) h24a f2 (by rw [hf2, hTa, hNa])) gX2_differentiate_X1_becomeDerivative rfl (by decide +kernel) ⟨Nat.le_of_ble_eq_true rfl, Nat.le_of_ble_eq_true rfl⟩ rfl (by omega) (zC_s (by omega)) rfl rfl hAm hP hS rfl hl.1 rfl (Nat.le_of_ble_eq_true rfl) dX2_differentiate_31 ⟨Nat.zero_le _, Nat.zero_le _⟩ (zkn (fun H locs hP hS => ?_))
  refine W.eq (g2 := F0 m 34 ls []) rfl ?_
  refine lv_aload_n hx hb dX2_differentiate_34 rfl (lv_at hl 2 rfl) ?_
  refine lv_aload hx hb dX2_differentiate_35 (lv_at hl 0 rfl) ?_
  refine zcallV (As := [.ref (F t)]) (rest := []) (q := 24) (k := 1) hx hb hml hown hts (kX2_keepMade l D cL cI cR A F hF (va_up T 8 f2) (va_up top 8 (ztop f2 48)) Z t (by omega) f2 (va_up_eq _ _ _) (va_up_eq _ _ _) (zkP (va_up T 8 f2) t f2) (zkN (va_up top 8 (ztop f2 48)) t f2) rfl rfl) gX2_differentiate_X2_keepMade rfl (by decide +kernel) ⟨Nat.le_of_ble_eq_true rfl, Nat.le_of_ble_eq_true rfl⟩ rfl (by omega) (zC_o) rfl rfl hAm hP hS rfl hl.1 rfl (Nat.le_of_ble_eq_true rfl) dX2_differentiate_37 ⟨Nat.zero_le _, Nat.zero_le _⟩ (zkn (fun H locs hP hS => ?_))
  refine W.eq (g2 := F0 m 40 ls [.long (zkr f2)]) rfl ?_
  exact zretL hx hb hr hlk hS hP dX2_differentiate_40 ⟨_, _, _, rfl, by rw [← hf2], by rw [← hf2]; exact zend_keep hTP, fun _ _ => rfl⟩

set_option maxHeartbeats 4000000 in
set_option maxRecDepth 100000 in
theorem kX2_antidifferentiate (l : Launch) (D : va_G) (cL cI cR : ClassId) (A : Nat → Prop) (F : Nat → Nat) (hF : zq_F A F 30) (T : Nat → Nat → Int64) (top : Nat → Nat) (Z : zZC) (P : Nat → Nat → Int64) (n0 : Nat → Nat) (hTP : ∀ i, i < 8 → T i = P i ∧ top i = n0 i) (h24 : ∀ i, i < 8 → n0 i ≤ 24) (a : Nat) (ha : a ≤ 7) (t : Nat) (ht : t ≤ 7) : zCt l yX2_antidifferentiate wsX2_antidifferentiate 3 80 D cL cI cR A F 30 (zCE cL cR F T top Z) [.ref (F 24), .int (nI a), .int (nI t)] (zPC cL cR F (zkr (zant (P a) (n0 a))) (zkP P t (zant (P a) (n0 a))) (zkN n0 t (zant (P a) (n0 a))) Z.1) := by
  refine zStart (cc := cX2_antidifferentiate) (maxL := 5) (ret := (some .long)) (by decide +kernel) rfl (Nat.le_of_ble_eq_true rfl) ?_
  intro p e s m below meth c hx hb hr hml hlk hown hts hAm H hP hS ls hl
  have hown : s.vm.findClass RX2 = some m.cls := hown
  have hl : lv_has ls 5 [(0, .ref (F 24)), (1, .int (nI a)), (2, .int (nI t))] := hl
  have hinX2 : ∀ w ∈ u_ws RX2 TX2 7, w ∈ wsX2_antidifferentiate := by decide +kernel
  obtain ⟨hTa, hNa⟩ := hTP a (by omega)
  have h24a : top a ≤ 24 := by rw [hNa]; exact h24 a (by omega)
  obtain ⟨hTt, hNt⟩ := hTP t (by omega)
  have h24t : top t ≤ 24 := by rw [hNt]; exact h24 t (by omega)
  obtain ⟨f2, hf2⟩ : ∃ f : Nat → Int64, f = (zant (P a) (n0 a)) := ⟨_, rfl⟩
  refine lv_aload_n hx hb dX2_antidifferentiate_0 rfl (lv_at hl 0 rfl) ?_
  refine lv_iload_n hx hb dX2_antidifferentiate_1 rfl (lv_at hl 1 rfl) ?_
  refine zcallV (As := [.int (nI a)]) (rest := []) (q := 24) (k := 1) hx hb hml hown hts (kX2_find_in l D cL cI cR A F hF T top Z (nI a) a (by omega) rfl) gX2_antidifferentiate_X2_find rfl (by decide +kernel) ⟨Nat.le_of_ble_eq_true rfl, Nat.le_of_ble_eq_true rfl⟩ rfl (by omega) (zC_o) rfl rfl hAm hP hS rfl hl.1 rfl (Nat.le_of_ble_eq_true rfl) dX2_antidifferentiate_2 ⟨Nat.zero_le _, Nat.zero_le _⟩ (zkn (fun H locs hP hS => ?_))
  refine W.eq (g2 := F0 m 5 ls [.ref (F a)]) rfl ?_
  refine lv_astore_n (lv' := [(3, .ref (F a)), (0, .ref (F 24)), (1, .int (nI a)), (2, .int (nI t))]) hx hb dX2_antidifferentiate_5 rfl hl (by decide) rfl (fun ls hl => ?_)
  refine lv_aload_n hx hb dX2_antidifferentiate_6 rfl (lv_at hl 1 rfl) ?_
  refine lv_iload_n hx hb dX2_antidifferentiate_7 rfl (lv_at hl 3 rfl) ?_
  refine zcallV (As := [.int (nI t)]) (rest := []) (q := 24) (k := 1) hx hb hml hown hts (kX2_find_in l D cL cI cR A F hF T top Z (nI t) t (by omega) rfl) gX2_antidifferentiate_X2_find rfl (by decide +kernel) ⟨Nat.le_of_ble_eq_true rfl, Nat.le_of_ble_eq_true rfl⟩ rfl (by omega) (zC_o) rfl rfl hAm hP hS rfl hl.1 rfl (Nat.le_of_ble_eq_true rfl) dX2_antidifferentiate_8 ⟨Nat.zero_le _, Nat.zero_le _⟩ (zkn (fun H locs hP hS => ?_))
  refine W.eq (g2 := F0 m 11 ls [.ref (F t)]) rfl ?_
  refine lv_astore (lv' := [(4, .ref (F t)), (3, .ref (F a)), (0, .ref (F 24)), (1, .int (nI a)), (2, .int (nI t))]) hx hb dX2_antidifferentiate_11 hl (by decide) rfl (fun ls hl => ?_)
  refine lv_aload_n hx hb dX2_antidifferentiate_13 rfl (lv_at hl 1 rfl) ?_
  refine lv_ifnull hx hb dX2_antidifferentiate_14 ?_
  refine lv_aload hx hb dX2_antidifferentiate_17 (lv_at hl 0 rfl) ?_
  refine lv_ifnonnull (tgt := 26) hx hb dX2_antidifferentiate_19 (by decide) ?_
  refine lv_aload_n hx hb dX2_antidifferentiate_26 rfl (lv_at hl 2 rfl) ?_
  refine zget (q := 24) (k := 3) (v := .ref (F 8)) hx hb hts hinX2 hown hAm hP (by omega) (zC_o) rfl (by decide) (hts (.fieldLink RX2 27 "CosineSeries" "made" "LCosineSeries$Series;") (by decide +kernel)) (by first | rfl | simp [va_up, *]) dX2_antidifferentiate_27 ?_
  refine lv_aload_n hx hb dX2_antidifferentiate_30 rfl (lv_at hl 1 rfl) ?_
  refine zcallV (As := [.ref (F a)]) (rest := []) (q := 8) (k := 1) hx hb hml hown hts (kX1_becomeAntiderivative l D cL cI cR A F hF T top Z 8 (by omega) a (by omega) (by omega) h24a f2 (by rw [hf2, hTa, hNa])) gX2_antidifferentiate_X1_becomeAntiderivative rfl (by decide +kernel) ⟨Nat.le_of_ble_eq_true rfl, Nat.le_of_ble_eq_true rfl⟩ rfl (by omega) (zC_s (by omega)) rfl rfl hAm hP hS rfl hl.1 rfl (Nat.le_of_ble_eq_true rfl) dX2_antidifferentiate_31 ⟨Nat.zero_le _, Nat.zero_le _⟩ (zkn (fun H locs hP hS => ?_))
  refine W.eq (g2 := F0 m 34 ls []) rfl ?_
  refine lv_aload_n hx hb dX2_antidifferentiate_34 rfl (lv_at hl 2 rfl) ?_
  refine lv_aload hx hb dX2_antidifferentiate_35 (lv_at hl 0 rfl) ?_
  refine zcallV (As := [.ref (F t)]) (rest := []) (q := 24) (k := 1) hx hb hml hown hts (kX2_keepMade l D cL cI cR A F hF (va_up T 8 f2) (va_up top 8 (ztop f2 48)) Z t (by omega) f2 (va_up_eq _ _ _) (va_up_eq _ _ _) (zkP (va_up T 8 f2) t f2) (zkN (va_up top 8 (ztop f2 48)) t f2) rfl rfl) gX2_antidifferentiate_X2_keepMade rfl (by decide +kernel) ⟨Nat.le_of_ble_eq_true rfl, Nat.le_of_ble_eq_true rfl⟩ rfl (by omega) (zC_o) rfl rfl hAm hP hS rfl hl.1 rfl (Nat.le_of_ble_eq_true rfl) dX2_antidifferentiate_37 ⟨Nat.zero_le _, Nat.zero_le _⟩ (zkn (fun H locs hP hS => ?_))
  refine W.eq (g2 := F0 m 40 ls [.long (zkr f2)]) rfl ?_
  exact zretL hx hb hr hlk hS hP dX2_antidifferentiate_40 ⟨_, _, _, rfl, by rw [← hf2], by rw [← hf2]; exact zend_keep hTP, fun _ _ => rfl⟩

set_option maxHeartbeats 4000000 in
set_option maxRecDepth 100000 in
theorem kX2_divide (l : Launch) (D : va_G) (cL cI cR : ClassId) (A : Nat → Prop) (F : Nat → Nat) (hF : zq_F A F 30) (T : Nat → Nat → Int64) (top : Nat → Nat) (Z : zZC) (P : Nat → Nat → Int64) (n0 : Nat → Nat) (hTP : ∀ i, i < 8 → T i = P i ∧ top i = n0 i) (h24 : ∀ i, i < 8 → n0 i ≤ 24) (a : Nat) (ha : a ≤ 7) (t : Nat) (ht : t ≤ 7) (r0 : Int32) (hr0 : zin (-1048576) 1048576 r0) : zCt l yX2_divide wsX2_divide 3 81 D cL cI cR A F 30 (zCE cL cR F T top Z) [.ref (F 24), .int (nI a), .int r0, .int (nI t)] (zPC cL cR F (if zkr (zquo (P a) (n0 a) r0.toInt64) < 0 then zkr (zquo (P a) (n0 a) r0.toInt64) else zval (P a) (n0 a) r0.toInt64) (zkP P t (zquo (P a) (n0 a) r0.toInt64)) (zkN n0 t (zquo (P a) (n0 a) r0.toInt64)) Z.1) := by
  refine zStart (cc := cX2_divide) (maxL := 10) (ret := (some .long)) (by decide +kernel) rfl (Nat.le_of_ble_eq_true rfl) ?_
  intro p e s m below meth c hx hb hr hml hlk hown hts hAm H hP hS ls hl
  have hown : s.vm.findClass RX2 = some m.cls := hown
  have hl : lv_has ls 10 [(0, .ref (F 24)), (1, .int (nI a)), (2, .int r0), (3, .int (nI t))] := hl
  have hinX2 : ∀ w ∈ u_ws RX2 TX2 7, w ∈ wsX2_divide := by decide +kernel
  obtain ⟨hTa, hNa⟩ := hTP a (by omega)
  have h24a : top a ≤ 24 := by rw [hNa]; exact h24 a (by omega)
  obtain ⟨hTt, hNt⟩ := hTP t (by omega)
  have h24t : top t ≤ 24 := by rw [hNt]; exact h24 t (by omega)
  obtain ⟨f2, hf2⟩ : ∃ f : Nat → Int64, f = (zquo (P a) (n0 a) r0.toInt64) := ⟨_, rfl⟩
  refine lv_aload_n hx hb dX2_divide_0 rfl (lv_at hl 0 rfl) ?_
  refine lv_iload_n hx hb dX2_divide_1 rfl (lv_at hl 1 rfl) ?_
  refine zcallV (As := [.int (nI a)]) (rest := []) (q := 24) (k := 1) hx hb hml hown hts (kX2_find_in l D cL cI cR A F hF T top Z (nI a) a (by omega) rfl) gX2_divide_X2_find rfl (by decide +kernel) ⟨Nat.le_of_ble_eq_true rfl, Nat.le_of_ble_eq_true rfl⟩ rfl (by omega) (zC_o) rfl rfl hAm hP hS rfl hl.1 rfl (Nat.le_of_ble_eq_true rfl) dX2_divide_2 ⟨Nat.zero_le _, Nat.zero_le _⟩ (zkn (fun H locs hP hS => ?_))
  refine W.eq (g2 := F0 m 5 ls [.ref (F a)]) rfl ?_
  refine lv_astore (lv' := [(4, .ref (F a)), (0, .ref (F 24)), (1, .int (nI a)), (2, .int r0), (3, .int (nI t))]) hx hb dX2_divide_5 hl (by decide) rfl (fun ls hl => ?_)
  refine lv_aload_n hx hb dX2_divide_7 rfl (lv_at hl 1 rfl) ?_
  refine lv_iload_n hx hb dX2_divide_8 rfl (lv_at hl 4 rfl) ?_
  refine zcallV (As := [.int (nI t)]) (rest := []) (q := 24) (k := 1) hx hb hml hown hts (kX2_find_in l D cL cI cR A F hF T top Z (nI t) t (by omega) rfl) gX2_divide_X2_find rfl (by decide +kernel) ⟨Nat.le_of_ble_eq_true rfl, Nat.le_of_ble_eq_true rfl⟩ rfl (by omega) (zC_o) rfl rfl hAm hP hS rfl hl.1 rfl (Nat.le_of_ble_eq_true rfl) dX2_divide_9 ⟨Nat.zero_le _, Nat.zero_le _⟩ (zkn (fun H locs hP hS => ?_))
  refine W.eq (g2 := F0 m 12 ls [.ref (F t)]) rfl ?_
  refine lv_astore (lv' := [(5, .ref (F t)), (4, .ref (F a)), (0, .ref (F 24)), (1, .int (nI a)), (2, .int r0), (3, .int (nI t))]) hx hb dX2_divide_12 hl (by decide) rfl (fun ls hl => ?_)
  refine lv_aload hx hb dX2_divide_14 (lv_at hl 1 rfl) ?_
  refine lv_ifnull hx hb dX2_divide_16 ?_
  refine lv_aload hx hb dX2_divide_19 (lv_at hl 0 rfl) ?_
  refine lv_ifnull hx hb dX2_divide_21 ?_
  refine lv_iload_n hx hb dX2_divide_24 rfl (lv_at hl 4 rfl) ?_
  refine lv_ldc hx hb hown (hts (.constant RX2 71 (-1048576)) (by decide +kernel)) dX2_divide_25 ?_
  refine lv_ldc hx hb hown (hts (.constant RX2 72 (1048576)) (by decide +kernel)) dX2_divide_27 ?_
  refine zcallS (As := [.int r0, .int (-1048576 : Int32), .int (1048576 : Int32)]) (rest := []) (k := 3) hx hb hml hown hts (kX2_isOutside l D cL cI cR A F 30 (zCE cL cR F T top Z) r0 (-1048576 : Int32) (1048576 : Int32) 0 (zo0 rfl rfl hr0)) gX2_divide_X2_isOutside rfl (by decide +kernel) ⟨Nat.le_of_ble_eq_true rfl, Nat.le_of_ble_eq_true rfl⟩ hAm hP hS rfl hl.1 rfl (Nat.le_of_ble_eq_true rfl) dX2_divide_29 ⟨Nat.zero_le _, Nat.zero_le _⟩ (zkn (fun H locs hP hS => ?_))
  refine W.eq (g2 := F0 m 32 ls [.int (nI 0)]) rfl ?_
  refine zf_eq (tgt := 39) hx hb dX2_divide_32 (by decide) (by omega) (fun c1 => ?_) (fun c1 => ?_)
  ·
    refine lv_aload hx hb dX2_divide_39 (lv_at hl 1 rfl) ?_
    refine lv_iload_n hx hb dX2_divide_41 rfl (lv_at hl 4 rfl) ?_
    refine lv_i2l (v := r0.toInt64) hx hb dX2_divide_42 rfl ?_
    refine zcallV (As := [.long r0.toInt64]) (rest := []) (q := a) (k := 1) hx hb hml hown hts (kX1_valueAt l D cL cI cR A F hF T top Z a (by omega) r0.toInt64 (T a) (by first | rfl | simp [va_up, *]) (top a) (by first | rfl | simp [va_up, *]) (by omega)) gX2_divide_X1_valueAt rfl (by decide +kernel) ⟨Nat.le_of_ble_eq_true rfl, Nat.le_of_ble_eq_true rfl⟩ rfl (by omega) (zC_s (by omega)) rfl rfl hAm hP hS rfl hl.1 rfl (Nat.le_of_ble_eq_true rfl) dX2_divide_43 ⟨Nat.zero_le _, Nat.zero_le _⟩ (zkn (fun H locs hP hS => ?_))
    refine W.eq (g2 := F0 m 46 ls [.long (zval (T a) (top a) r0.toInt64)]) rfl ?_
    refine lv_lstore (lv' := [(6, .long (zval (T a) (top a) r0.toInt64)), (5, .ref (F t)), (4, .ref (F a)), (0, .ref (F 24)), (1, .int (nI a)), (2, .int r0), (3, .int (nI t))]) hx hb dX2_divide_46 hl (by decide) rfl (fun ls hl => ?_)
    refine lv_aload_n hx hb dX2_divide_48 rfl (lv_at hl 3 rfl) ?_
    refine zget (q := 24) (k := 3) (v := .ref (F 8)) hx hb hts hinX2 hown hAm hP (by omega) (zC_o) rfl (by decide) (hts (.fieldLink RX2 27 "CosineSeries" "made" "LCosineSeries$Series;") (by decide +kernel)) (by first | rfl | simp [va_up, *]) dX2_divide_49 ?_
    refine lv_aload hx hb dX2_divide_52 (lv_at hl 2 rfl) ?_
    refine lv_iload_n hx hb dX2_divide_54 rfl (lv_at hl 5 rfl) ?_
    refine lv_i2l (v := r0.toInt64) hx hb dX2_divide_55 rfl ?_
    refine zcallV (As := [.ref (F a), .long r0.toInt64]) (rest := []) (q := 8) (k := 2) hx hb hml hown hts (kX1_becomeQuotient l D cL cI cR A F hF T top Z 8 (by omega) a (by omega) (by omega) h24a r0.toInt64 f2 (by rw [hf2, hTa, hNa])) gX2_divide_X1_becomeQuotient rfl (by decide +kernel) ⟨Nat.le_of_ble_eq_true rfl, Nat.le_of_ble_eq_true rfl⟩ rfl (by omega) (zC_s (by omega)) rfl rfl hAm hP hS rfl hl.1 rfl (Nat.le_of_ble_eq_true rfl) dX2_divide_56 ⟨Nat.zero_le _, Nat.zero_le _⟩ (zkn (fun H locs hP hS => ?_))
    refine W.eq (g2 := F0 m 59 ls []) rfl ?_
    refine lv_aload_n hx hb dX2_divide_59 rfl (lv_at hl 3 rfl) ?_
    refine lv_aload hx hb dX2_divide_60 (lv_at hl 1 rfl) ?_
    refine zcallV (As := [.ref (F t)]) (rest := []) (q := 24) (k := 1) hx hb hml hown hts (kX2_keepMade l D cL cI cR A F hF (va_up T 8 f2) (va_up top 8 (ztop f2 48)) Z t (by omega) f2 (va_up_eq _ _ _) (va_up_eq _ _ _) (zkP (va_up T 8 f2) t f2) (zkN (va_up top 8 (ztop f2 48)) t f2) rfl rfl) gX2_divide_X2_keepMade rfl (by decide +kernel) ⟨Nat.le_of_ble_eq_true rfl, Nat.le_of_ble_eq_true rfl⟩ rfl (by omega) (zC_o) rfl rfl hAm hP hS rfl hl.1 rfl (Nat.le_of_ble_eq_true rfl) dX2_divide_62 ⟨Nat.zero_le _, Nat.zero_le _⟩ (zkn (fun H locs hP hS => ?_))
    refine W.eq (g2 := F0 m 65 ls [.long (zkr f2)]) rfl ?_
    refine lv_lstore (lv' := [(8, .long (zkr f2)), (6, .long (zval (T a) (top a) r0.toInt64)), (5, .ref (F t)), (4, .ref (F a)), (0, .ref (F 24)), (1, .int (nI a)), (2, .int r0), (3, .int (nI t))]) hx hb dX2_divide_65 hl (by decide) rfl (fun ls hl => ?_)
    refine lv_lload hx hb dX2_divide_67 (lv_at hl 0 rfl) ?_
    refine lv_lconst (v := (0 : Int64)) hx hb dX2_divide_69 (by decide +kernel) ?_
    refine zl_ge (tgt := 79) hx hb dX2_divide_70 dX2_divide_71 (by decide) (fun c2 => ?_) (fun c2 => ?_)
    ·
      refine lv_lload hx hb dX2_divide_79 (lv_at hl 1 rfl) ?_
      exact zretL hx hb hr hlk hS hP dX2_divide_81 ⟨_, _, _, rfl, by rw [← hf2, if_neg (Int64.not_lt.mpr c2), hTa, hNa], by rw [← hf2]; exact zend_keep hTP, fun _ _ => rfl⟩
    ·
      refine lv_lload hx hb dX2_divide_74 (lv_at hl 0 rfl) ?_
      refine lv_goto (tgt := 81) hx hb dX2_divide_76 (by decide) ?_
      exact zretL hx hb hr hlk hS hP dX2_divide_81 ⟨_, _, _, rfl, by rw [← hf2, if_pos (Int64.not_le.mp c2)], by rw [← hf2]; exact zend_keep hTP, fun _ _ => rfl⟩
  ·
    exfalso; omega

set_option maxHeartbeats 4000000 in
set_option maxRecDepth 100000 in
theorem kX2_cut (l : Launch) (D : va_G) (cL cI cR : ClassId) (A : Nat → Prop) (F : Nat → Nat) (hF : zq_F A F 30) (T : Nat → Nat → Int64) (top : Nat → Nat) (Z : zZC) (P : Nat → Nat → Int64) (n0 : Nat → Nat) (hTP : ∀ i, i < 8 → T i = P i ∧ top i = n0 i) (h24 : ∀ i, i < 8 → n0 i ≤ 24) (a : Nat) (ha : a ≤ 7) (tol : Int32) (htol : zin 0 1000000000 tol) : zCt l yX2_cut wsX2_cut 2 45 D cL cI cR A F 30 (zCE cL cR F T top Z) [.ref (F 24), .int (nI a), .int tol] (zPC cL cR F (lN (n0 a - ztop (zcut (P a) (ztw (P a) tol.toInt64 (n0 a) 0)) 48)) (va_up P a (zcut (P a) (ztw (P a) tol.toInt64 (n0 a) 0))) (va_up n0 a (ztop (zcut (P a) (ztw (P a) tol.toInt64 (n0 a) 0)) 48)) Z.1) := by
  refine zStart (cc := cX2_cut) (maxL := 5) (ret := (some .long)) (by decide +kernel) rfl (Nat.le_of_ble_eq_true rfl) ?_
  intro p e s m below meth c hx hb hr hml hlk hown hts hAm H hP hS ls hl
  have hown : s.vm.findClass RX2 = some m.cls := hown
  have hl : lv_has ls 5 [(0, .ref (F 24)), (1, .int (nI a)), (2, .int tol)] := hl
  obtain ⟨hTa, hNa⟩ := hTP a (by omega)
  have h24a : top a ≤ 24 := by rw [hNa]; exact h24 a (by omega)
  have htw := ztw_le (T a) tol.toInt64 (top a) 0
  have hzc := zcut_le (T a) (ztw (T a) tol.toInt64 (top a) 0)
  refine lv_aload_n hx hb dX2_cut_0 rfl (lv_at hl 0 rfl) ?_
  refine lv_iload_n hx hb dX2_cut_1 rfl (lv_at hl 1 rfl) ?_
  refine zcallV (As := [.int (nI a)]) (rest := []) (q := 24) (k := 1) hx hb hml hown hts (kX2_find_in l D cL cI cR A F hF T top Z (nI a) a (by omega) rfl) gX2_cut_X2_find rfl (by decide +kernel) ⟨Nat.le_of_ble_eq_true rfl, Nat.le_of_ble_eq_true rfl⟩ rfl (by omega) (zC_o) rfl rfl hAm hP hS rfl hl.1 rfl (Nat.le_of_ble_eq_true rfl) dX2_cut_2 ⟨Nat.zero_le _, Nat.zero_le _⟩ (zkn (fun H locs hP hS => ?_))
  refine W.eq (g2 := F0 m 5 ls [.ref (F a)]) rfl ?_
  refine lv_astore_n (lv' := [(3, .ref (F a)), (0, .ref (F 24)), (1, .int (nI a)), (2, .int tol)]) hx hb dX2_cut_5 rfl hl (by decide) rfl (fun ls hl => ?_)
  refine lv_aload_n hx hb dX2_cut_6 rfl (lv_at hl 0 rfl) ?_
  refine lv_ifnull hx hb dX2_cut_7 ?_
  refine lv_iload_n hx hb dX2_cut_10 rfl (lv_at hl 3 rfl) ?_
  refine lv_iconst (v := nI 0) hx hb dX2_cut_11 (by decide +kernel) ?_
  refine lv_ldc hx hb hown (hts (.constant RX2 103 (1000000000)) (by decide +kernel)) dX2_cut_12 ?_
  refine zcallS (As := [.int tol, .int (nI 0), .int (1000000000 : Int32)]) (rest := []) (k := 3) hx hb hml hown hts (kX2_isOutside l D cL cI cR A F 30 (zCE cL cR F T top Z) tol (nI 0) (1000000000 : Int32) 0 (zo0 rfl rfl htol)) gX2_cut_X2_isOutside rfl (by decide +kernel) ⟨Nat.le_of_ble_eq_true rfl, Nat.le_of_ble_eq_true rfl⟩ hAm hP hS rfl hl.1 rfl (Nat.le_of_ble_eq_true rfl) dX2_cut_14 ⟨Nat.zero_le _, Nat.zero_le _⟩ (zkn (fun H locs hP hS => ?_))
  refine W.eq (g2 := F0 m 17 ls [.int (nI 0)]) rfl ?_
  refine zf_eq (tgt := 24) hx hb dX2_cut_17 (by decide) (by omega) (fun c1 => ?_) (fun c1 => ?_)
  ·
    refine lv_aload_n hx hb dX2_cut_24 rfl (lv_at hl 0 rfl) ?_
    refine zcallV (As := []) (rest := []) (q := a) (k := 0) hx hb hml hown hts (kX1_top l D cL cI cR A F hF T top Z a (by omega) (top a) (by first | rfl | simp [va_up, *])) gX2_cut_X1_top rfl (by decide +kernel) ⟨Nat.le_of_ble_eq_true rfl, Nat.le_of_ble_eq_true rfl⟩ rfl (by omega) (zC_s (by omega)) rfl rfl hAm hP hS rfl hl.1 rfl (Nat.le_of_ble_eq_true rfl) dX2_cut_25 ⟨Nat.zero_le _, Nat.zero_le _⟩ (zkn (fun H locs hP hS => ?_))
    refine W.eq (g2 := F0 m 28 ls [.int (nI (top a))]) rfl ?_
    refine lv_istore (lv' := [(4, .int (nI (top a))), (3, .ref (F a)), (0, .ref (F 24)), (1, .int (nI a)), (2, .int tol)]) hx hb dX2_cut_28 hl (by decide) rfl (fun ls hl => ?_)
    refine lv_aload_n hx hb dX2_cut_30 rfl (lv_at hl 1 rfl) ?_
    refine lv_aload_n hx hb dX2_cut_31 rfl (lv_at hl 1 rfl) ?_
    refine lv_iload_n hx hb dX2_cut_32 rfl (lv_at hl 4 rfl) ?_
    refine zcallV (As := [.int tol]) (rest := [.ref (F a)]) (q := a) (k := 1) hx hb hml hown hts (kX1_topWithin l D cL cI cR A F hF T top Z a (by omega) tol (T a) rfl (top a) rfl (by omega)) gX2_cut_X1_topWithin rfl (by decide +kernel) ⟨Nat.le_of_ble_eq_true rfl, Nat.le_of_ble_eq_true rfl⟩ rfl (by omega) (zC_s (by omega)) rfl rfl hAm hP hS rfl hl.1 rfl (Nat.le_of_ble_eq_true rfl) dX2_cut_33 ⟨Nat.zero_le _, Nat.zero_le _⟩ (zkn (fun H locs hP hS => ?_))
    refine W.eq (g2 := F0 m 36 ls [.int (nI (ztw (T a) tol.toInt64 (top a) 0)), .ref (F a)]) rfl ?_
    refine zcallV (As := [.int (nI (ztw (T a) tol.toInt64 (top a) 0))]) (rest := []) (q := a) (k := 1) hx hb hml hown hts (kX1_dropAbove l D cL cI cR A F hF T top Z a (by omega) (ztw (T a) tol.toInt64 (top a) 0) (by omega) (T a) rfl) gX2_cut_X1_dropAbove rfl (by decide +kernel) ⟨Nat.le_of_ble_eq_true rfl, Nat.le_of_ble_eq_true rfl⟩ rfl (by omega) (zC_s (by omega)) rfl rfl hAm hP hS rfl hl.1 rfl (Nat.le_of_ble_eq_true rfl) dX2_cut_36 ⟨Nat.zero_le _, Nat.zero_le _⟩ (zkn (fun H locs hP hS => ?_))
    refine W.eq (g2 := F0 m 39 ls []) rfl ?_
    refine lv_iload hx hb dX2_cut_39 (lv_at hl 0 rfl) ?_
    refine lv_aload_n hx hb dX2_cut_41 rfl (lv_at hl 1 rfl) ?_
    refine zcallV (As := []) (rest := [.int (nI (top a))]) (q := a) (k := 0) hx hb hml hown hts (kX1_top l D cL cI cR A F hF (va_up T a (zcut (T a) (ztw (T a) tol.toInt64 (top a) 0))) (va_up top a (ztop (zcut (T a) (ztw (T a) tol.toInt64 (top a) 0)) 48)) Z a (by omega) (ztop (zcut (T a) (ztw (T a) tol.toInt64 (top a) 0)) 48) (va_up_eq _ _ _)) gX2_cut_X1_top rfl (by decide +kernel) ⟨Nat.le_of_ble_eq_true rfl, Nat.le_of_ble_eq_true rfl⟩ rfl (by omega) (zC_s (by omega)) rfl rfl hAm hP hS rfl hl.1 rfl (Nat.le_of_ble_eq_true rfl) dX2_cut_42 ⟨Nat.zero_le _, Nat.zero_le _⟩ (zkn (fun H locs hP hS => ?_))
    refine W.eq (g2 := F0 m 45 ls [.int (nI (ztop (zcut (T a) (ztw (T a) tol.toInt64 (top a) 0)) 48)), .int (nI (top a))]) rfl ?_
    refine zisub (d := ((top a) - (ztop (zcut (T a) (ztw (T a) tol.toInt64 (top a) 0)) 48))) hx hb (by omega) dX2_cut_45 ?_
    refine zi2l hx hb (by omega) dX2_cut_46 ?_
    exact zretL hx hb hr hlk hS hP dX2_cut_47 ⟨_, _, _, rfl, by rw [hTa, hNa], zend_up hTP (by rw [hTa, hNa]) (by rw [hTa, hNa]), fun _ _ => rfl⟩
  ·
    exfalso; omega

set_option maxHeartbeats 4000000 in
set_option maxRecDepth 100000 in
theorem kX2_degreeWith (l : Launch) (D : va_G) (cL cI cR : ClassId) (A : Nat → Prop) (F : Nat → Nat) (hF : zq_F A F 30) (T : Nat → Nat → Int64) (top : Nat → Nat) (Z : zZC) (P : Nat → Nat → Int64) (n0 : Nat → Nat) (hTP : ∀ i, i < 8 → T i = P i ∧ top i = n0 i) (h24 : ∀ i, i < 8 → n0 i ≤ 24) (a : Nat) (ha : a ≤ 7) (tol : Int32) (htol : zin 0 1000000000 tol) : zCt l yX2_degreeWith wsX2_degreeWith 2 45 D cL cI cR A F 30 (zCE cL cR F T top Z) [.ref (F 24), .int (nI a), .int tol] (zPC cL cR F (lN (ztw (P a) tol.toInt64 (n0 a) 0)) P n0 Z.1) := by
  refine zStart (cc := cX2_degreeWith) (maxL := 4) (ret := (some .long)) (by decide +kernel) rfl (Nat.le_of_ble_eq_true rfl) ?_
  intro p e s m below meth c hx hb hr hml hlk hown hts hAm H hP hS ls hl
  have hown : s.vm.findClass RX2 = some m.cls := hown
  have hl : lv_has ls 4 [(0, .ref (F 24)), (1, .int (nI a)), (2, .int tol)] := hl
  obtain ⟨hTa, hNa⟩ := hTP a (by omega)
  have h24a : top a ≤ 24 := by rw [hNa]; exact h24 a (by omega)
  have htw := ztw_le (T a) tol.toInt64 (top a) 0
  refine lv_aload_n hx hb dX2_degreeWith_0 rfl (lv_at hl 0 rfl) ?_
  refine lv_iload_n hx hb dX2_degreeWith_1 rfl (lv_at hl 1 rfl) ?_
  refine zcallV (As := [.int (nI a)]) (rest := []) (q := 24) (k := 1) hx hb hml hown hts (kX2_find_in l D cL cI cR A F hF T top Z (nI a) a (by omega) rfl) gX2_degreeWith_X2_find rfl (by decide +kernel) ⟨Nat.le_of_ble_eq_true rfl, Nat.le_of_ble_eq_true rfl⟩ rfl (by omega) (zC_o) rfl rfl hAm hP hS rfl hl.1 rfl (Nat.le_of_ble_eq_true rfl) dX2_degreeWith_2 ⟨Nat.zero_le _, Nat.zero_le _⟩ (zkn (fun H locs hP hS => ?_))
  refine W.eq (g2 := F0 m 5 ls [.ref (F a)]) rfl ?_
  refine lv_astore_n (lv' := [(3, .ref (F a)), (0, .ref (F 24)), (1, .int (nI a)), (2, .int tol)]) hx hb dX2_degreeWith_5 rfl hl (by decide) rfl (fun ls hl => ?_)
  refine lv_aload_n hx hb dX2_degreeWith_6 rfl (lv_at hl 0 rfl) ?_
  refine lv_ifnull hx hb dX2_degreeWith_7 ?_
  refine lv_iload_n hx hb dX2_degreeWith_10 rfl (lv_at hl 3 rfl) ?_
  refine lv_iconst (v := nI 0) hx hb dX2_degreeWith_11 (by decide +kernel) ?_
  refine lv_ldc hx hb hown (hts (.constant RX2 103 (1000000000)) (by decide +kernel)) dX2_degreeWith_12 ?_
  refine zcallS (As := [.int tol, .int (nI 0), .int (1000000000 : Int32)]) (rest := []) (k := 3) hx hb hml hown hts (kX2_isOutside l D cL cI cR A F 30 (zCE cL cR F T top Z) tol (nI 0) (1000000000 : Int32) 0 (zo0 rfl rfl htol)) gX2_degreeWith_X2_isOutside rfl (by decide +kernel) ⟨Nat.le_of_ble_eq_true rfl, Nat.le_of_ble_eq_true rfl⟩ hAm hP hS rfl hl.1 rfl (Nat.le_of_ble_eq_true rfl) dX2_degreeWith_14 ⟨Nat.zero_le _, Nat.zero_le _⟩ (zkn (fun H locs hP hS => ?_))
  refine W.eq (g2 := F0 m 17 ls [.int (nI 0)]) rfl ?_
  refine zf_eq (tgt := 24) hx hb dX2_degreeWith_17 (by decide) (by omega) (fun c1 => ?_) (fun c1 => ?_)
  ·
    refine lv_aload_n hx hb dX2_degreeWith_24 rfl (lv_at hl 0 rfl) ?_
    refine lv_iload_n hx hb dX2_degreeWith_25 rfl (lv_at hl 3 rfl) ?_
    refine zcallV (As := [.int tol]) (rest := []) (q := a) (k := 1) hx hb hml hown hts (kX1_topWithin l D cL cI cR A F hF T top Z a (by omega) tol (T a) rfl (top a) rfl (by omega)) gX2_degreeWith_X1_topWithin rfl (by decide +kernel) ⟨Nat.le_of_ble_eq_true rfl, Nat.le_of_ble_eq_true rfl⟩ rfl (by omega) (zC_s (by omega)) rfl rfl hAm hP hS rfl hl.1 rfl (Nat.le_of_ble_eq_true rfl) dX2_degreeWith_26 ⟨Nat.zero_le _, Nat.zero_le _⟩ (zkn (fun H locs hP hS => ?_))
    refine W.eq (g2 := F0 m 29 ls [.int (nI (ztw (T a) tol.toInt64 (top a) 0))]) rfl ?_
    refine zi2l hx hb (by omega) dX2_degreeWith_29 ?_
    exact zretL hx hb hr hlk hS hP dX2_degreeWith_30 ⟨_, _, _, rfl, by rw [hTa, hNa], hTP, fun _ _ => rfl⟩
  ·
    exfalso; omega

set_option maxHeartbeats 4000000 in
set_option maxRecDepth 100000 in
theorem kX2_basis (l : Launch) (D : va_G) (cL cI cR : ClassId) (A : Nat → Prop) (F : Nat → Nat) (hF : zq_F A F 30) (T : Nat → Nat → Int64) (top : Nat → Nat) (Z : zZC) (P : Nat → Nat → Int64) (n0 : Nat → Nat) (hTP : ∀ i, i < 8 → T i = P i ∧ top i = n0 i) (h24 : ∀ i, i < 8 → n0 i ≤ 24) (t : Nat) (ht : t ≤ 7) (k : Nat) (hk : k ≤ 24) : zCt l yX2_basis wsX2_basis 2 44 D cL cI cR A F 30 (zCE cL cR F T top Z) [.ref (F 24), .int (nI k), .int (nI t)] (zPC cL cR F (lN k) (va_up P t (vp_updL (fun _ => 0) k 1048576)) (va_up n0 t (ztop (vp_updL (fun _ => 0) k 1048576) 48)) Z.1) := by
  refine zStart (cc := cX2_basis) (maxL := 4) (ret := (some .long)) (by decide +kernel) rfl (Nat.le_of_ble_eq_true rfl) ?_
  intro p e s m below meth c hx hb hr hml hlk hown hts hAm H hP hS ls hl
  have hown : s.vm.findClass RX2 = some m.cls := hown
  have hl : lv_has ls 4 [(0, .ref (F 24)), (1, .int (nI k)), (2, .int (nI t))] := hl
  obtain ⟨hTt, hNt⟩ := hTP t (by omega)
  have h24t : top t ≤ 24 := by rw [hNt]; exact h24 t (by omega)
  refine lv_aload_n hx hb dX2_basis_0 rfl (lv_at hl 0 rfl) ?_
  refine lv_iload_n hx hb dX2_basis_1 rfl (lv_at hl 2 rfl) ?_
  refine zcallV (As := [.int (nI t)]) (rest := []) (q := 24) (k := 1) hx hb hml hown hts (kX2_find_in l D cL cI cR A F hF T top Z (nI t) t (by omega) rfl) gX2_basis_X2_find rfl (by decide +kernel) ⟨Nat.le_of_ble_eq_true rfl, Nat.le_of_ble_eq_true rfl⟩ rfl (by omega) (zC_o) rfl rfl hAm hP hS rfl hl.1 rfl (Nat.le_of_ble_eq_true rfl) dX2_basis_2 ⟨Nat.zero_le _, Nat.zero_le _⟩ (zkn (fun H locs hP hS => ?_))
  refine W.eq (g2 := F0 m 5 ls [.ref (F t)]) rfl ?_
  refine lv_astore_n (lv' := [(3, .ref (F t)), (0, .ref (F 24)), (1, .int (nI k)), (2, .int (nI t))]) hx hb dX2_basis_5 rfl hl (by decide) rfl (fun ls hl => ?_)
  refine lv_aload_n hx hb dX2_basis_6 rfl (lv_at hl 0 rfl) ?_
  refine lv_ifnull hx hb dX2_basis_7 ?_
  refine lv_iload_n hx hb dX2_basis_10 rfl (lv_at hl 2 rfl) ?_
  refine lv_iconst (v := nI 0) hx hb dX2_basis_11 (by decide +kernel) ?_
  refine lv_bipush (v := nI 24) hx hb dX2_basis_12 (by decide +kernel) ?_
  refine zcallS (As := [.int (nI k), .int (nI 0), .int (nI 24)]) (rest := []) (k := 3) hx hb hml hown hts (kX2_isOutside l D cL cI cR A F 30 (zCE cL cR F T top Z) (nI k) (nI 0) (nI 24) 0 (zo0 rfl rfl (zin_nI (a := 24) (by omega) (by decide)))) gX2_basis_X2_isOutside rfl (by decide +kernel) ⟨Nat.le_of_ble_eq_true rfl, Nat.le_of_ble_eq_true rfl⟩ hAm hP hS rfl hl.1 rfl (Nat.le_of_ble_eq_true rfl) dX2_basis_14 ⟨Nat.zero_le _, Nat.zero_le _⟩ (zkn (fun H locs hP hS => ?_))
  refine W.eq (g2 := F0 m 17 ls [.int (nI 0)]) rfl ?_
  refine zf_eq (tgt := 24) hx hb dX2_basis_17 (by decide) (by omega) (fun c1 => ?_) (fun c1 => ?_)
  ·
    refine lv_aload_n hx hb dX2_basis_24 rfl (lv_at hl 0 rfl) ?_
    refine zcallV (As := []) (rest := []) (q := t) (k := 0) hx hb hml hown hts (kX1_clear l D cL cI cR A F hF T top Z t (by omega)) gX2_basis_X1_clear rfl (by decide +kernel) ⟨Nat.le_of_ble_eq_true rfl, Nat.le_of_ble_eq_true rfl⟩ rfl (by omega) (zC_s (by omega)) rfl rfl hAm hP hS rfl hl.1 rfl (Nat.le_of_ble_eq_true rfl) dX2_basis_25 ⟨Nat.zero_le _, Nat.zero_le _⟩ (zkn (fun H locs hP hS => ?_))
    refine W.eq (g2 := F0 m 28 ls []) rfl ?_
    refine lv_aload_n hx hb dX2_basis_28 rfl (lv_at hl 0 rfl) ?_
    refine lv_iload_n hx hb dX2_basis_29 rfl (lv_at hl 2 rfl) ?_
    refine lv_ldc2 hx hb hown (hts (.constantLong RX2 115 (1048576)) (by decide +kernel)) dX2_basis_30 ?_
    refine zcallV (As := [.int (nI k), .long (1048576 : Int64)]) (rest := []) (q := t) (k := 2) hx hb hml hown hts (kX1_put l D cL cI cR A F hF (va_up T t (fun _ => 0)) (va_up top t 0) Z t (by omega) k (by omega) 1048576 (va_up T t (vp_updL (fun _ => 0) k 1048576)) (by rw [bx_uu, va_up_eq])) gX2_basis_X1_put rfl (by decide +kernel) ⟨Nat.le_of_ble_eq_true rfl, Nat.le_of_ble_eq_true rfl⟩ rfl (by omega) (zC_s (by omega)) rfl rfl hAm hP hS rfl hl.1 rfl (Nat.le_of_ble_eq_true rfl) dX2_basis_33 ⟨Nat.zero_le _, Nat.zero_le _⟩ (zkn (fun H locs hP hS => ?_))
    refine W.eq (g2 := F0 m 36 ls []) rfl ?_
    refine lv_aload_n hx hb dX2_basis_36 rfl (lv_at hl 0 rfl) ?_
    refine zcallV (As := []) (rest := []) (q := t) (k := 0) hx hb hml hown hts (kX1_trim l D cL cI cR A F hF (va_up T t (vp_updL (fun _ => 0) k 1048576)) (va_up top t 0) Z t (by omega) (vp_updL (fun _ => 0) k 1048576) (va_up_eq _ _ _) (va_up top t (ztop (vp_updL (fun _ => 0) k 1048576) 48)) (by rw [bx_uu])) gX2_basis_X1_trim rfl (by decide +kernel) ⟨Nat.le_of_ble_eq_true rfl, Nat.le_of_ble_eq_true rfl⟩ rfl (by omega) (zC_s (by omega)) rfl rfl hAm hP hS rfl hl.1 rfl (Nat.le_of_ble_eq_true rfl) dX2_basis_37 ⟨Nat.zero_le _, Nat.zero_le _⟩ (zkn (fun H locs hP hS => ?_))
    refine W.eq (g2 := F0 m 40 ls []) rfl ?_
    refine lv_iload_n hx hb dX2_basis_40 rfl (lv_at hl 2 rfl) ?_
    refine zi2l hx hb (by omega) dX2_basis_41 ?_
    exact zretL hx hb hr hlk hS hP dX2_basis_42 ⟨_, _, _, rfl, rfl, zend_up hTP rfl rfl, fun _ _ => rfl⟩
  ·
    exfalso; omega

set_option maxHeartbeats 4000000 in
set_option maxRecDepth 100000 in
theorem kX2_integral (l : Launch) (D : va_G) (cL cI cR : ClassId) (A : Nat → Prop) (F : Nat → Nat) (hF : zq_F A F 30) (T : Nat → Nat → Int64) (top : Nat → Nat) (Z : zZC) (P : Nat → Nat → Int64) (n0 : Nat → Nat) (hTP : ∀ i, i < 8 → T i = P i ∧ top i = n0 i) (h24 : ∀ i, i < 8 → n0 i ≤ 24) (a : Nat) (ha : a ≤ 7) : zCt l yX2_integral wsX2_integral 2 52 D cL cI cR A F 30 (zCE cL cR F T top Z) [.ref (F 24), .int (nI a)] (zPC cL cR F (zig (P a) (n0 a / 2)) P n0 Z.1) := by
  refine zStart (cc := cX2_integral) (maxL := 6) (ret := (some .long)) (by decide +kernel) rfl (Nat.le_of_ble_eq_true rfl) ?_
  intro p e s m below meth c hx hb hr hml hlk hown hts hAm H hP hS ls hl
  have hown : s.vm.findClass RX2 = some m.cls := hown
  have hl : lv_has ls 6 [(0, .ref (F 24)), (1, .int (nI a))] := hl
  obtain ⟨hTa, hNa⟩ := hTP a (by omega)
  have h24a : top a ≤ 24 := by rw [hNa]; exact h24 a (by omega)
  refine lv_aload_n hx hb dX2_integral_0 rfl (lv_at hl 0 rfl) ?_
  refine lv_iload_n hx hb dX2_integral_1 rfl (lv_at hl 1 rfl) ?_
  refine zcallV (As := [.int (nI a)]) (rest := []) (q := 24) (k := 1) hx hb hml hown hts (kX2_find_in l D cL cI cR A F hF T top Z (nI a) a (by omega) rfl) gX2_integral_X2_find rfl (by decide +kernel) ⟨Nat.le_of_ble_eq_true rfl, Nat.le_of_ble_eq_true rfl⟩ rfl (by omega) (zC_o) rfl rfl hAm hP hS rfl hl.1 rfl (Nat.le_of_ble_eq_true rfl) dX2_integral_2 ⟨Nat.zero_le _, Nat.zero_le _⟩ (zkn (fun H locs hP hS => ?_))
  refine W.eq (g2 := F0 m 5 ls [.ref (F a)]) rfl ?_
  refine lv_astore_n (lv' := [(2, .ref (F a)), (0, .ref (F 24)), (1, .int (nI a))]) hx hb dX2_integral_5 rfl hl (by decide) rfl (fun ls hl => ?_)
  refine lv_aload_n hx hb dX2_integral_6 rfl (lv_at hl 0 rfl) ?_
  refine lv_ifnonnull (tgt := 14) hx hb dX2_integral_7 (by decide) ?_
  refine lv_ldc2 hx hb hown (hts (.constantLong RX2 117 (2)) (by decide +kernel)) dX2_integral_14 ?_
  refine lv_aload_n hx hb dX2_integral_17 rfl (lv_at hl 0 rfl) ?_
  refine lv_iconst (v := nI 0) hx hb dX2_integral_18 (by decide +kernel) ?_
  refine zcallV (As := [.int (nI 0)]) (rest := [.long (2 : Int64)]) (q := a) (k := 1) hx hb hml hown hts (kX1_at l D cL cI cR A F hF T top Z a (by omega) 0 (by omega) ((T a) 0) (by first | rfl | simp [va_up, *])) gX2_integral_X1_at rfl (by decide +kernel) ⟨Nat.le_of_ble_eq_true rfl, Nat.le_of_ble_eq_true rfl⟩ rfl (by omega) (zC_s (by omega)) rfl rfl hAm hP hS rfl hl.1 rfl (Nat.le_of_ble_eq_true rfl) dX2_integral_19 ⟨Nat.zero_le _, Nat.zero_le _⟩ (zkn (fun H locs hP hS => ?_))
  refine W.eq (g2 := F0 m 22 ls [.long ((T a) 0), .long (2 : Int64)]) rfl ?_
  refine lv_lmul hx hb dX2_integral_22 ?_
  refine lv_lstore_n (lv' := [(3, .long ((2 : Int64) * ((T a) 0))), (2, .ref (F a)), (0, .ref (F 24)), (1, .int (nI a))]) hx hb dX2_integral_23 rfl hl (by decide) rfl (fun ls hl => ?_)
  refine lv_iconst (v := nI 2) hx hb dX2_integral_24 (by decide +kernel) ?_
  refine lv_istore (lv' := [(5, .int (nI 2)), (3, .long ((2 : Int64) * ((T a) 0))), (2, .ref (F a)), (0, .ref (F 24)), (1, .int (nI a))]) hx hb dX2_integral_25 hl (by decide) rfl (fun ls hl => ?_)
  have L27 : ∀ (n : Nat) (m1 : Nat) (u : Int64) (hm : m1 ≤ top a / 2) (hu : u = zig (T a) m1) (hn : top a / 2 - m1 < n) (H : Heap) (locs : List Loc), va_P D vwCl (zq_wd F 30 (zCE cL cR F T top Z)) H → va_S A s.heap H locs → ∀ (ls : Array Slot), lv_has ls 6 [(0, .ref (F 24)), (2, .ref (F a)), (3, .long u), (5, .int (nI (2 * m1 + 2)))] → W p l e ({ frames := 2, cells := 0, slots := 0, locals := 52 }) s m ([.ref (F 24), .int (nI a)] : List Value).toArray below meth c H locs 0 0 (zQ below D A F 30 [.ref (F 24), .int (nI a)] s (zPC cL cR F (zig (P a) (n0 a / 2)) P n0 Z.1)) (F0 m 27 ls []) := by
    intro n
    induction n with
    | zero =>
      intro m1 u hm hu hn
      exact absurd hn (Nat.not_lt_zero _)
    | succ n ih27 =>
      intro m1 u hm hu hn H locs hP hS ls hl
      refine lv_iload hx hb dX2_integral_27 (lv_at hl 3 rfl) ?_
      refine lv_aload_n hx hb dX2_integral_29 rfl (lv_at hl 1 rfl) ?_
      refine zcallV (As := []) (rest := [.int (nI (2 * m1 + 2))]) (q := a) (k := 0) hx hb hml hown hts (kX1_top l D cL cI cR A F hF T top Z a (by omega) (top a) (by first | rfl | simp [va_up, *])) gX2_integral_X1_top rfl (by decide +kernel) ⟨Nat.le_of_ble_eq_true rfl, Nat.le_of_ble_eq_true rfl⟩ rfl (by omega) (zC_s (by omega)) rfl rfl hAm hP hS rfl hl.1 rfl (Nat.le_of_ble_eq_true rfl) dX2_integral_30 ⟨Nat.zero_le _, Nat.zero_le _⟩ (zkn (fun H locs hP hS => ?_))
      refine W.eq (g2 := F0 m 33 ls [.int (nI (top a)), .int (nI (2 * m1 + 2))]) rfl ?_
      refine zi_gt (tgt := 67) hx hb dX2_integral_33 (by decide) (by omega) (by omega) (fun c1 => ?_) (fun c1 => ?_)
      ·
        refine lv_lload_n hx hb dX2_integral_67 rfl (lv_at hl 2 rfl) ?_
        exact zretL hx hb hr hlk hS hP dX2_integral_68 ⟨_, _, _, rfl, by rw [hu, show m1 = top a / 2 by omega, hTa, hNa], hTP, fun _ _ => rfl⟩
      ·
        refine lv_lload_n hx hb dX2_integral_36 rfl (lv_at hl 2 rfl) ?_
        refine lv_ldc2 hx hb hown (hts (.constantLong RX2 119 (-2)) (by decide +kernel)) dX2_integral_37 ?_
        refine lv_aload_n hx hb dX2_integral_40 rfl (lv_at hl 1 rfl) ?_
        refine lv_iload hx hb dX2_integral_41 (lv_at hl 3 rfl) ?_
        refine zcallV (As := [.int (nI (2 * m1 + 2))]) (rest := [.long (-2 : Int64), .long u]) (q := a) (k := 1) hx hb hml hown hts (kX1_at l D cL cI cR A F hF T top Z a (by omega) (2 * m1 + 2) (by omega) ((T a) (2 * m1 + 2)) (by first | rfl | simp [va_up, *])) gX2_integral_X1_at rfl (by decide +kernel) ⟨Nat.le_of_ble_eq_true rfl, Nat.le_of_ble_eq_true rfl⟩ rfl (by omega) (zC_s (by omega)) rfl rfl hAm hP hS rfl hl.1 rfl (Nat.le_of_ble_eq_true rfl) dX2_integral_43 ⟨Nat.zero_le _, Nat.zero_le _⟩ (zkn (fun H locs hP hS => ?_))
        refine W.eq (g2 := F0 m 46 ls [.long ((T a) (2 * m1 + 2)), .long (-2 : Int64), .long u]) rfl ?_
        refine lv_lmul hx hb dX2_integral_46 ?_
        refine lv_iload hx hb dX2_integral_47 (lv_at hl 3 rfl) ?_
        refine zi2l hx hb (by omega) dX2_integral_49 ?_
        refine lv_iload hx hb dX2_integral_50 (lv_at hl 3 rfl) ?_
        refine zi2l hx hb (by omega) dX2_integral_52 ?_
        refine lv_lmul hx hb dX2_integral_53 ?_
        refine lv_lconst (v := (1 : Int64)) hx hb dX2_integral_54 (by decide +kernel) ?_
        refine lv_lsub hx hb dX2_integral_55 ?_
        refine zcallS (As := [.long ((-2 : Int64) * ((T a) (2 * m1 + 2))), .long (((lN (2 * m1 + 2)) * (lN (2 * m1 + 2))) - (1 : Int64))]) (rest := [.long u]) (k := 2) hx hb hml hown hts (kX2_rounded l D cL cI cR A F 30 (zCE cL cR F T top Z) (-2 * T a (2 * m1 + 2)) (lN (2 * m1 + 2) * lN (2 * m1 + 2) - 1) (zigpos (by omega))) gX2_integral_X2_rounded rfl (by decide +kernel) ⟨Nat.le_of_ble_eq_true rfl, Nat.le_of_ble_eq_true rfl⟩ hAm hP hS rfl hl.1 rfl (Nat.le_of_ble_eq_true rfl) dX2_integral_56 ⟨Nat.zero_le _, Nat.zero_le _⟩ (zkn (fun H locs hP hS => ?_))
        refine W.eq (g2 := F0 m 59 ls [.long (zR (-2 * T a (2 * m1 + 2)) (lN (2 * m1 + 2) * lN (2 * m1 + 2) - 1)), .long u]) rfl ?_
        refine lv_ladd hx hb dX2_integral_59 ?_
        refine lv_lstore_n (lv' := [(3, .long (u + (zR (-2 * T a (2 * m1 + 2)) (lN (2 * m1 + 2) * lN (2 * m1 + 2) - 1)))), (0, .ref (F 24)), (2, .ref (F a)), (5, .int (nI (2 * m1 + 2)))]) hx hb dX2_integral_60 rfl hl (by decide) rfl (fun ls hl => ?_)
        refine lv_iinc (v := (nI ((2 * m1 + 2) + 2))) (lv' := [(5, .int (nI ((2 * m1 + 2) + 2))), (3, .long (u + (zR (-2 * T a (2 * m1 + 2)) (lN (2 * m1 + 2) * lN (2 * m1 + 2) - 1)))), (0, .ref (F 24)), (2, .ref (F a))]) hx hb dX2_integral_61 hl (k := 3) rfl (zinc (by omega)) (by decide) rfl (fun ls hl => ?_)
        refine lv_goto (tgt := 27) hx hb dX2_integral_64 (by decide) ?_
        exact ih27 (m1 + 1) (u + (zR (-2 * T a (2 * m1 + 2)) (lN (2 * m1 + 2) * lN (2 * m1 + 2) - 1))) (by omega) (by rw [hu]; rfl) (by omega) H _ hP hS ls (lv_sub hl [2, 3, 1, 0] rfl)
  exact L27 _ 0 (2 * (T a 0)) (by omega) rfl (Nat.lt_succ_self _) H _ hP hS ls (lv_sub hl [3, 2, 1, 0] rfl)

set_option maxHeartbeats 4000000 in
set_option maxRecDepth 100000 in
theorem kX2_inner (l : Launch) (D : va_G) (cL cI cR : ClassId) (A : Nat → Prop) (F : Nat → Nat) (hF : zq_F A F 30) (T : Nat → Nat → Int64) (top : Nat → Nat) (Z : zZC) (P : Nat → Nat → Int64) (n0 : Nat → Nat) (hTP : ∀ i, i < 8 → T i = P i ∧ top i = n0 i) (h24 : ∀ i, i < 8 → n0 i ≤ 24) (a : Nat) (ha : a ≤ 7) (b : Nat) (hb : b ≤ 7) : zCt l yX2_inner wsX2_inner 2 52 D cL cI cR A F 30 (zCE cL cR F T top Z) [.ref (F 24), .int (nI a), .int (nI b)] (zPC cL cR F (zR (zinn (P a) (P b) 24) 1048576) P n0 Z.1) := by
  refine zStart (cc := cX2_inner) (maxL := 8) (ret := (some .long)) (by decide +kernel) rfl (Nat.le_of_ble_eq_true rfl) ?_
  intro p e s m below meth c hx hb hr hml hlk hown hts hAm H hP hS ls hl
  have hown : s.vm.findClass RX2 = some m.cls := hown
  have hl : lv_has ls 8 [(0, .ref (F 24)), (1, .int (nI a)), (2, .int (nI b))] := hl
  obtain ⟨hTa, hNa⟩ := hTP a (by omega)
  have h24a : top a ≤ 24 := by rw [hNa]; exact h24 a (by omega)
  obtain ⟨hTb, hNb⟩ := hTP b (by omega)
  have h24b : top b ≤ 24 := by rw [hNb]; exact h24 b (by omega)
  refine lv_aload_n hx hb dX2_inner_0 rfl (lv_at hl 0 rfl) ?_
  refine lv_iload_n hx hb dX2_inner_1 rfl (lv_at hl 1 rfl) ?_
  refine zcallV (As := [.int (nI a)]) (rest := []) (q := 24) (k := 1) hx hb hml hown hts (kX2_find_in l D cL cI cR A F hF T top Z (nI a) a (by omega) rfl) gX2_inner_X2_find rfl (by decide +kernel) ⟨Nat.le_of_ble_eq_true rfl, Nat.le_of_ble_eq_true rfl⟩ rfl (by omega) (zC_o) rfl rfl hAm hP hS rfl hl.1 rfl (Nat.le_of_ble_eq_true rfl) dX2_inner_2 ⟨Nat.zero_le _, Nat.zero_le _⟩ (zkn (fun H locs hP hS => ?_))
  refine W.eq (g2 := F0 m 5 ls [.ref (F a)]) rfl ?_
  refine lv_astore_n (lv' := [(3, .ref (F a)), (0, .ref (F 24)), (1, .int (nI a)), (2, .int (nI b))]) hx hb dX2_inner_5 rfl hl (by decide) rfl (fun ls hl => ?_)
  refine lv_aload_n hx hb dX2_inner_6 rfl (lv_at hl 1 rfl) ?_
  refine lv_iload_n hx hb dX2_inner_7 rfl (lv_at hl 3 rfl) ?_
  refine zcallV (As := [.int (nI b)]) (rest := []) (q := 24) (k := 1) hx hb hml hown hts (kX2_find_in l D cL cI cR A F hF T top Z (nI b) b (by omega) rfl) gX2_inner_X2_find rfl (by decide +kernel) ⟨Nat.le_of_ble_eq_true rfl, Nat.le_of_ble_eq_true rfl⟩ rfl (by omega) (zC_o) rfl rfl hAm hP hS rfl hl.1 rfl (Nat.le_of_ble_eq_true rfl) dX2_inner_8 ⟨Nat.zero_le _, Nat.zero_le _⟩ (zkn (fun H locs hP hS => ?_))
  refine W.eq (g2 := F0 m 11 ls [.ref (F b)]) rfl ?_
  refine lv_astore (lv' := [(4, .ref (F b)), (3, .ref (F a)), (0, .ref (F 24)), (1, .int (nI a)), (2, .int (nI b))]) hx hb dX2_inner_11 hl (by decide) rfl (fun ls hl => ?_)
  refine lv_aload_n hx hb dX2_inner_13 rfl (lv_at hl 1 rfl) ?_
  refine lv_ifnull hx hb dX2_inner_14 ?_
  refine lv_aload hx hb dX2_inner_17 (lv_at hl 0 rfl) ?_
  refine lv_ifnonnull (tgt := 26) hx hb dX2_inner_19 (by decide) ?_
  refine lv_ldc2 hx hb hown (hts (.constantLong RX2 117 (2)) (by decide +kernel)) dX2_inner_26 ?_
  refine lv_aload_n hx hb dX2_inner_29 rfl (lv_at hl 1 rfl) ?_
  refine lv_iconst (v := nI 0) hx hb dX2_inner_30 (by decide +kernel) ?_
  refine zcallV (As := [.int (nI 0)]) (rest := [.long (2 : Int64)]) (q := a) (k := 1) hx hb hml hown hts (kX1_at l D cL cI cR A F hF T top Z a (by omega) 0 (by omega) ((T a) 0) (by first | rfl | simp [va_up, *])) gX2_inner_X1_at rfl (by decide +kernel) ⟨Nat.le_of_ble_eq_true rfl, Nat.le_of_ble_eq_true rfl⟩ rfl (by omega) (zC_s (by omega)) rfl rfl hAm hP hS rfl hl.1 rfl (Nat.le_of_ble_eq_true rfl) dX2_inner_31 ⟨Nat.zero_le _, Nat.zero_le _⟩ (zkn (fun H locs hP hS => ?_))
  refine W.eq (g2 := F0 m 34 ls [.long ((T a) 0), .long (2 : Int64)]) rfl ?_
  refine lv_lmul hx hb dX2_inner_34 ?_
  refine lv_aload hx hb dX2_inner_35 (lv_at hl 0 rfl) ?_
  refine lv_iconst (v := nI 0) hx hb dX2_inner_37 (by decide +kernel) ?_
  refine zcallV (As := [.int (nI 0)]) (rest := [.long ((2 : Int64) * ((T a) 0))]) (q := b) (k := 1) hx hb hml hown hts (kX1_at l D cL cI cR A F hF T top Z b (by omega) 0 (by omega) ((T b) 0) (by first | rfl | simp [va_up, *])) gX2_inner_X1_at rfl (by decide +kernel) ⟨Nat.le_of_ble_eq_true rfl, Nat.le_of_ble_eq_true rfl⟩ rfl (by omega) (zC_s (by omega)) rfl rfl hAm hP hS rfl hl.1 rfl (Nat.le_of_ble_eq_true rfl) dX2_inner_38 ⟨Nat.zero_le _, Nat.zero_le _⟩ (zkn (fun H locs hP hS => ?_))
  refine W.eq (g2 := F0 m 41 ls [.long ((T b) 0), .long ((2 : Int64) * ((T a) 0))]) rfl ?_
  refine lv_lmul hx hb dX2_inner_41 ?_
  refine lv_lstore (lv' := [(5, .long (((2 : Int64) * ((T a) 0)) * ((T b) 0))), (4, .ref (F b)), (3, .ref (F a)), (0, .ref (F 24)), (1, .int (nI a)), (2, .int (nI b))]) hx hb dX2_inner_42 hl (by decide) rfl (fun ls hl => ?_)
  refine lv_iconst (v := nI 1) hx hb dX2_inner_44 (by decide +kernel) ?_
  refine lv_istore (lv' := [(7, .int (nI 1)), (5, .long (((2 : Int64) * ((T a) 0)) * ((T b) 0))), (4, .ref (F b)), (3, .ref (F a)), (0, .ref (F 24)), (1, .int (nI a)), (2, .int (nI b))]) hx hb dX2_inner_45 hl (by decide) rfl (fun ls hl => ?_)
  have L47 : ∀ (n : Nat) (m1 : Nat) (u : Int64) (hm : m1 ≤ 24) (hu : u = zinn (T a) (T b) m1) (hn : 24 - m1 < n) (H : Heap) (locs : List Loc), va_P D vwCl (zq_wd F 30 (zCE cL cR F T top Z)) H → va_S A s.heap H locs → ∀ (ls : Array Slot), lv_has ls 8 [(0, .ref (F 24)), (3, .ref (F a)), (4, .ref (F b)), (5, .long u), (7, .int (nI (m1 + 1)))] → W p l e ({ frames := 2, cells := 0, slots := 0, locals := 52 }) s m ([.ref (F 24), .int (nI a), .int (nI b)] : List Value).toArray below meth c H locs 0 0 (zQ below D A F 30 [.ref (F 24), .int (nI a), .int (nI b)] s (zPC cL cR F (zR (zinn (P a) (P b) 24) 1048576) P n0 Z.1)) (F0 m 47 ls []) := by
    intro n
    induction n with
    | zero =>
      intro m1 u hm hu hn
      exact absurd hn (Nat.not_lt_zero _)
    | succ n ih47 =>
      intro m1 u hm hu hn H locs hP hS ls hl
      refine lv_iload hx hb dX2_inner_47 (lv_at hl 4 rfl) ?_
      refine lv_bipush (v := nI 24) hx hb dX2_inner_49 (by decide +kernel) ?_
      refine zi_gt (tgt := 79) hx hb dX2_inner_51 (by decide) (by omega) (by omega) (fun c1 => ?_) (fun c1 => ?_)
      ·
        have hm24 : m1 = 24 := by omega
        refine lv_lload hx hb dX2_inner_79 (lv_at hl 3 rfl) ?_
        refine lv_ldc2 hx hb hown (hts (.constantLong RX2 115 (1048576)) (by decide +kernel)) dX2_inner_81 ?_
        refine zcallS (As := [.long u, .long (1048576 : Int64)]) (rest := []) (k := 2) hx hb hml hown hts (kX2_rounded l D cL cI cR A F 30 (zCE cL cR F T top Z) u (1048576 : Int64) (by decide)) gX2_inner_X2_rounded rfl (by decide +kernel) ⟨Nat.le_of_ble_eq_true rfl, Nat.le_of_ble_eq_true rfl⟩ hAm hP hS rfl hl.1 rfl (Nat.le_of_ble_eq_true rfl) dX2_inner_84 ⟨Nat.zero_le _, Nat.zero_le _⟩ (zkn (fun H locs hP hS => ?_))
        refine W.eq (g2 := F0 m 87 ls [.long (zR u (1048576 : Int64))]) rfl ?_
        exact zretL hx hb hr hlk hS hP dX2_inner_87 ⟨_, _, _, rfl, by rw [hu, hm24, hTa, hTb], hTP, fun _ _ => rfl⟩
      ·
        refine lv_lload hx hb dX2_inner_54 (lv_at hl 3 rfl) ?_
        refine lv_aload_n hx hb dX2_inner_56 rfl (lv_at hl 1 rfl) ?_
        refine lv_iload hx hb dX2_inner_57 (lv_at hl 4 rfl) ?_
        refine zcallV (As := [.int (nI (m1 + 1))]) (rest := [.long u]) (q := a) (k := 1) hx hb hml hown hts (kX1_at l D cL cI cR A F hF T top Z a (by omega) (m1 + 1) (by omega) ((T a) (m1 + 1)) (by first | rfl | simp [va_up, *])) gX2_inner_X1_at rfl (by decide +kernel) ⟨Nat.le_of_ble_eq_true rfl, Nat.le_of_ble_eq_true rfl⟩ rfl (by omega) (zC_s (by omega)) rfl rfl hAm hP hS rfl hl.1 rfl (Nat.le_of_ble_eq_true rfl) dX2_inner_59 ⟨Nat.zero_le _, Nat.zero_le _⟩ (zkn (fun H locs hP hS => ?_))
        refine W.eq (g2 := F0 m 62 ls [.long ((T a) (m1 + 1)), .long u]) rfl ?_
        refine lv_aload hx hb dX2_inner_62 (lv_at hl 2 rfl) ?_
        refine lv_iload hx hb dX2_inner_64 (lv_at hl 4 rfl) ?_
        refine zcallV (As := [.int (nI (m1 + 1))]) (rest := [.long ((T a) (m1 + 1)), .long u]) (q := b) (k := 1) hx hb hml hown hts (kX1_at l D cL cI cR A F hF T top Z b (by omega) (m1 + 1) (by omega) ((T b) (m1 + 1)) (by first | rfl | simp [va_up, *])) gX2_inner_X1_at rfl (by decide +kernel) ⟨Nat.le_of_ble_eq_true rfl, Nat.le_of_ble_eq_true rfl⟩ rfl (by omega) (zC_s (by omega)) rfl rfl hAm hP hS rfl hl.1 rfl (Nat.le_of_ble_eq_true rfl) dX2_inner_66 ⟨Nat.zero_le _, Nat.zero_le _⟩ (zkn (fun H locs hP hS => ?_))
        refine W.eq (g2 := F0 m 69 ls [.long ((T b) (m1 + 1)), .long ((T a) (m1 + 1)), .long u]) rfl ?_
        refine lv_lmul hx hb dX2_inner_69 ?_
        refine lv_ladd hx hb dX2_inner_70 ?_
        refine lv_lstore (lv' := [(5, .long (u + (((T a) (m1 + 1)) * ((T b) (m1 + 1))))), (0, .ref (F 24)), (3, .ref (F a)), (4, .ref (F b)), (7, .int (nI (m1 + 1)))]) hx hb dX2_inner_71 hl (by decide) rfl (fun ls hl => ?_)
        refine lv_iinc (v := (nI (m1 + 2))) (lv' := [(7, .int (nI (m1 + 2))), (5, .long (u + (((T a) (m1 + 1)) * ((T b) (m1 + 1))))), (0, .ref (F 24)), (3, .ref (F a)), (4, .ref (F b))]) hx hb dX2_inner_73 hl (k := 4) rfl (zinc (by omega)) (by decide) rfl (fun ls hl => ?_)
        refine lv_goto (tgt := 47) hx hb dX2_inner_76 (by decide) ?_
        exact ih47 (m1 + 1) (u + (((T a) (m1 + 1)) * ((T b) (m1 + 1)))) (by omega) (by rw [hu]; rfl) (by omega) H _ hP hS ls (lv_sub hl [2, 3, 4, 1, 0] rfl)
  exact L47 _ 0 (2 * (T a 0) * (T b 0)) (by omega) rfl (Nat.lt_succ_self _) H _ hP hS ls (lv_sub hl [4, 3, 2, 1, 0] rfl)

set_option maxHeartbeats 4000000 in
set_option maxRecDepth 100000 in
theorem kX2_bound (l : Launch) (D : va_G) (cL cI cR : ClassId) (A : Nat → Prop) (F : Nat → Nat) (hF : zq_F A F 30) (T : Nat → Nat → Int64) (top : Nat → Nat) (Z : zZC) (P : Nat → Nat → Int64) (n0 : Nat → Nat) (hTP : ∀ i, i < 8 → T i = P i ∧ top i = n0 i) (h24 : ∀ i, i < 8 → n0 i ≤ 24) (a : Nat) (ha : a ≤ 7) : zCt l yX2_bound wsX2_bound 1 21 D cL cI cR A F 30 (zCE cL cR F T top Z) [.ref (F 24), .int (nI a)] (zPC cL cR F (zbd (P a) 25) P n0 Z.1) := by
  refine zStart (cc := cX2_bound) (maxL := 6) (ret := (some .long)) (by decide +kernel) rfl (Nat.le_of_ble_eq_true rfl) ?_
  intro p e s m below meth c hx hb hr hml hlk hown hts hAm H hP hS ls hl
  have hown : s.vm.findClass RX2 = some m.cls := hown
  have hl : lv_has ls 6 [(0, .ref (F 24)), (1, .int (nI a))] := hl
  obtain ⟨hTa, hNa⟩ := hTP a (by omega)
  have h24a : top a ≤ 24 := by rw [hNa]; exact h24 a (by omega)
  refine lv_aload_n hx hb dX2_bound_0 rfl (lv_at hl 0 rfl) ?_
  refine lv_iload_n hx hb dX2_bound_1 rfl (lv_at hl 1 rfl) ?_
  refine zcallV (As := [.int (nI a)]) (rest := []) (q := 24) (k := 1) hx hb hml hown hts (kX2_find_in l D cL cI cR A F hF T top Z (nI a) a (by omega) rfl) gX2_bound_X2_find rfl (by decide +kernel) ⟨Nat.le_of_ble_eq_true rfl, Nat.le_of_ble_eq_true rfl⟩ rfl (by omega) (zC_o) rfl rfl hAm hP hS rfl hl.1 rfl (Nat.le_of_ble_eq_true rfl) dX2_bound_2 ⟨Nat.zero_le _, Nat.zero_le _⟩ (zkn (fun H locs hP hS => ?_))
  refine W.eq (g2 := F0 m 5 ls [.ref (F a)]) rfl ?_
  refine lv_astore_n (lv' := [(2, .ref (F a)), (0, .ref (F 24)), (1, .int (nI a))]) hx hb dX2_bound_5 rfl hl (by decide) rfl (fun ls hl => ?_)
  refine lv_aload_n hx hb dX2_bound_6 rfl (lv_at hl 0 rfl) ?_
  refine lv_ifnonnull (tgt := 14) hx hb dX2_bound_7 (by decide) ?_
  refine lv_lconst (v := (0 : Int64)) hx hb dX2_bound_14 (by decide +kernel) ?_
  refine lv_lstore_n (lv' := [(3, .long (0 : Int64)), (2, .ref (F a)), (0, .ref (F 24)), (1, .int (nI a))]) hx hb dX2_bound_15 rfl hl (by decide) rfl (fun ls hl => ?_)
  refine lv_iconst (v := nI 0) hx hb dX2_bound_16 (by decide +kernel) ?_
  refine lv_istore (lv' := [(5, .int (nI 0)), (3, .long (0 : Int64)), (2, .ref (F a)), (0, .ref (F 24)), (1, .int (nI a))]) hx hb dX2_bound_17 hl (by decide) rfl (fun ls hl => ?_)
  have L19 : ∀ (n : Nat) (m1 : Nat) (u : Int64) (hm : m1 ≤ 25) (hu : u = zbd (T a) m1) (hn : 25 - m1 < n) (H : Heap) (locs : List Loc), va_P D vwCl (zq_wd F 30 (zCE cL cR F T top Z)) H → va_S A s.heap H locs → ∀ (ls : Array Slot), lv_has ls 6 [(0, .ref (F 24)), (2, .ref (F a)), (3, .long u), (5, .int (nI m1))] → W p l e ({ frames := 1, cells := 0, slots := 0, locals := 21 }) s m ([.ref (F 24), .int (nI a)] : List Value).toArray below meth c H locs 0 0 (zQ below D A F 30 [.ref (F 24), .int (nI a)] s (zPC cL cR F (zbd (P a) 25) P n0 Z.1)) (F0 m 19 ls []) := by
    intro n
    induction n with
    | zero =>
      intro m1 u hm hu hn
      exact absurd hn (Nat.not_lt_zero _)
    | succ n ih19 =>
      intro m1 u hm hu hn H locs hP hS ls hl
      refine lv_iload hx hb dX2_bound_19 (lv_at hl 3 rfl) ?_
      refine lv_bipush (v := nI 24) hx hb dX2_bound_21 (by decide +kernel) ?_
      refine zi_gt (tgt := 44) hx hb dX2_bound_23 (by decide) (by omega) (by omega) (fun c1 => ?_) (fun c1 => ?_)
      ·
        refine lv_lload_n hx hb dX2_bound_44 rfl (lv_at hl 2 rfl) ?_
        exact zretL hx hb hr hlk hS hP dX2_bound_45 ⟨_, _, _, rfl, by rw [hu, show m1 = 25 by omega, hTa], hTP, fun _ _ => rfl⟩
      ·
        refine lv_lload_n hx hb dX2_bound_26 rfl (lv_at hl 2 rfl) ?_
        refine lv_aload_n hx hb dX2_bound_27 rfl (lv_at hl 1 rfl) ?_
        refine lv_iload hx hb dX2_bound_28 (lv_at hl 3 rfl) ?_
        refine zcallV (As := [.int (nI m1)]) (rest := [.long u]) (q := a) (k := 1) hx hb hml hown hts (kX1_at l D cL cI cR A F hF T top Z a (by omega) m1 (by omega) ((T a) m1) (by first | rfl | simp [va_up, *])) gX2_bound_X1_at rfl (by decide +kernel) ⟨Nat.le_of_ble_eq_true rfl, Nat.le_of_ble_eq_true rfl⟩ rfl (by omega) (zC_s (by omega)) rfl rfl hAm hP hS rfl hl.1 rfl (Nat.le_of_ble_eq_true rfl) dX2_bound_30 ⟨Nat.zero_le _, Nat.zero_le _⟩ (zkn (fun H locs hP hS => ?_))
        refine W.eq (g2 := F0 m 33 ls [.long ((T a) m1), .long u]) rfl ?_
        refine va_mabs_long hx hb (hml.trans hl.1.symm) hown (hts (.methodLink RX2 125 Lib.MathLoose.abs_long.x) (by decide +kernel)) (hts (.static Lib.MathLoose.abs_long.x) (by decide +kernel)) (hts (.initialized "java/lang/Math") (by decide +kernel)) (hts (.code Lib.MathLoose.abs_long.x Lib.MathLoose.abs_long.code 2 (some .long)) (by decide +kernel)) (Nat.le_of_ble_eq_true rfl) (Nat.le_of_ble_eq_true rfl) (Nat.zero_le _) (Nat.zero_le _) dX2_bound_33 ?_
        refine W.eq (g2 := F0 m 36 ls [.long (zabs ((T a) m1)), .long u]) rfl ?_
        refine lv_ladd hx hb dX2_bound_36 ?_
        refine lv_lstore_n (lv' := [(3, .long (u + (zabs ((T a) m1)))), (0, .ref (F 24)), (2, .ref (F a)), (5, .int (nI m1))]) hx hb dX2_bound_37 rfl hl (by decide) rfl (fun ls hl => ?_)
        refine lv_iinc (v := (nI (m1 + 1))) (lv' := [(5, .int (nI (m1 + 1))), (3, .long (u + (zabs ((T a) m1)))), (0, .ref (F 24)), (2, .ref (F a))]) hx hb dX2_bound_38 hl (k := 3) rfl (zinc (by omega)) (by decide) rfl (fun ls hl => ?_)
        refine lv_goto (tgt := 19) hx hb dX2_bound_41 (by decide) ?_
        exact ih19 (m1 + 1) (u + (zabs ((T a) m1))) (by omega) (by rw [hu]; rfl) (by omega) H _ hP hS ls (lv_sub hl [2, 3, 1, 0] rfl)
  exact L19 _ 0 0 (by omega) rfl (Nat.lt_succ_self _) H _ hP hS ls (lv_sub hl [3, 2, 1, 0] rfl)

set_option maxHeartbeats 4000000 in
set_option maxRecDepth 100000 in
theorem kX2_byValue (l : Launch) (D : va_G) (cL cI cR : ClassId) (A : Nat → Prop) (F : Nat → Nat) (hF : zq_F A F 30) (T : Nat → Nat → Int64) (top : Nat → Nat) (Z : zZC) (P : Nat → Nat → Int64) (n0 : Nat → Nat) (hTP : ∀ i, i < 8 → T i = P i ∧ top i = n0 i) (h24 : ∀ i, i < 8 → n0 i ≤ 24) (a : Nat) (ha : a ≤ 7) (pl : Nat) (hpl : pl ≤ 24) : zCt l yX2_byValue wsX2_byValue 2 48 D cL cI cR A F 30 (zCE cL cR F T top Z) [.ref (F 24), .int (nI a), .int (nI pl)] (zPC cL cR F (zbv (P a) (n0 a) pl (n0 a + 1) 0) P n0 Z.1) := by
  refine zStart (cc := cX2_byValue) (maxL := 5) (ret := (some .long)) (by decide +kernel) rfl (Nat.le_of_ble_eq_true rfl) ?_
  intro p e s m below meth c hx hb hr hml hlk hown hts hAm H hP hS ls hl
  have hown : s.vm.findClass RX2 = some m.cls := hown
  have hl : lv_has ls 5 [(0, .ref (F 24)), (1, .int (nI a)), (2, .int (nI pl))] := hl
  obtain ⟨hTa, hNa⟩ := hTP a (by omega)
  have h24a : top a ≤ 24 := by rw [hNa]; exact h24 a (by omega)
  refine lv_aload_n hx hb dX2_byValue_0 rfl (lv_at hl 0 rfl) ?_
  refine lv_iload_n hx hb dX2_byValue_1 rfl (lv_at hl 1 rfl) ?_
  refine zcallV (As := [.int (nI a)]) (rest := []) (q := 24) (k := 1) hx hb hml hown hts (kX2_find_in l D cL cI cR A F hF T top Z (nI a) a (by omega) rfl) gX2_byValue_X2_find rfl (by decide +kernel) ⟨Nat.le_of_ble_eq_true rfl, Nat.le_of_ble_eq_true rfl⟩ rfl (by omega) (zC_o) rfl rfl hAm hP hS rfl hl.1 rfl (Nat.le_of_ble_eq_true rfl) dX2_byValue_2 ⟨Nat.zero_le _, Nat.zero_le _⟩ (zkn (fun H locs hP hS => ?_))
  refine W.eq (g2 := F0 m 5 ls [.ref (F a)]) rfl ?_
  refine lv_astore_n (lv' := [(3, .ref (F a)), (0, .ref (F 24)), (1, .int (nI a)), (2, .int (nI pl))]) hx hb dX2_byValue_5 rfl hl (by decide) rfl (fun ls hl => ?_)
  refine lv_aload_n hx hb dX2_byValue_6 rfl (lv_at hl 0 rfl) ?_
  refine lv_ifnull hx hb dX2_byValue_7 ?_
  refine lv_iload_n hx hb dX2_byValue_10 rfl (lv_at hl 3 rfl) ?_
  refine lv_iconst (v := nI 0) hx hb dX2_byValue_11 (by decide +kernel) ?_
  refine lv_bipush (v := nI 24) hx hb dX2_byValue_12 (by decide +kernel) ?_
  refine zcallS (As := [.int (nI pl), .int (nI 0), .int (nI 24)]) (rest := []) (k := 3) hx hb hml hown hts (kX2_isOutside l D cL cI cR A F 30 (zCE cL cR F T top Z) (nI pl) (nI 0) (nI 24) 0 (zo0 rfl rfl (zin_nI (a := 24) (by omega) (by decide)))) gX2_byValue_X2_isOutside rfl (by decide +kernel) ⟨Nat.le_of_ble_eq_true rfl, Nat.le_of_ble_eq_true rfl⟩ hAm hP hS rfl hl.1 rfl (Nat.le_of_ble_eq_true rfl) dX2_byValue_14 ⟨Nat.zero_le _, Nat.zero_le _⟩ (zkn (fun H locs hP hS => ?_))
  refine W.eq (g2 := F0 m 17 ls [.int (nI 0)]) rfl ?_
  refine zf_eq (tgt := 24) hx hb dX2_byValue_17 (by decide) (by omega) (fun c1 => ?_) (fun c1 => ?_)
  ·
    refine lv_iconst (v := nI 0) hx hb dX2_byValue_24 (by decide +kernel) ?_
    refine lv_istore (lv' := [(4, .int (nI 0)), (3, .ref (F a)), (0, .ref (F 24)), (1, .int (nI a)), (2, .int (nI pl))]) hx hb dX2_byValue_25 hl (by decide) rfl (fun ls hl => ?_)
    have L27 : ∀ (n : Nat) (k u : Nat) (hk : k + u = top a + 1) (hv : zbv (T a) (top a) pl u k = zbv (T a) (top a) pl (top a + 1) 0) (hn : u < n) (H : Heap) (locs : List Loc), va_P D vwCl (zq_wd F 30 (zCE cL cR F T top Z)) H → va_S A s.heap H locs → ∀ (ls : Array Slot), lv_has ls 5 [(0, .ref (F 24)), (2, .int (nI pl)), (3, .ref (F a)), (4, .int (nI k))] → W p l e ({ frames := 2, cells := 0, slots := 0, locals := 48 }) s m ([.ref (F 24), .int (nI a), .int (nI pl)] : List Value).toArray below meth c H locs 0 0 (zQ below D A F 30 [.ref (F 24), .int (nI a), .int (nI pl)] s (zPC cL cR F (zbv (P a) (n0 a) pl (n0 a + 1) 0) P n0 Z.1)) (F0 m 27 ls []) := by
      intro n
      induction n with
      | zero =>
        intro k u hk hv hn
        exact absurd hn (Nat.not_lt_zero _)
      | succ n ih27 =>
        intro k u hk hv hn H locs hP hS ls hl
        refine lv_iload hx hb dX2_byValue_27 (lv_at hl 3 rfl) ?_
        refine lv_aload_n hx hb dX2_byValue_29 rfl (lv_at hl 2 rfl) ?_
        refine zcallV (As := []) (rest := [.int (nI k)]) (q := a) (k := 0) hx hb hml hown hts (kX1_top l D cL cI cR A F hF T top Z a (by omega) (top a) (by first | rfl | simp [va_up, *])) gX2_byValue_X1_top rfl (by decide +kernel) ⟨Nat.le_of_ble_eq_true rfl, Nat.le_of_ble_eq_true rfl⟩ rfl (by omega) (zC_s (by omega)) rfl rfl hAm hP hS rfl hl.1 rfl (Nat.le_of_ble_eq_true rfl) dX2_byValue_30 ⟨Nat.zero_le _, Nat.zero_le _⟩ (zkn (fun H locs hP hS => ?_))
        refine W.eq (g2 := F0 m 33 ls [.int (nI (top a)), .int (nI k)]) rfl ?_
        refine zi_gt (tgt := 56) hx hb dX2_byValue_33 (by decide) (by omega) (by omega) (fun c2 => ?_) (fun c2 => ?_)
        ·
          obtain rfl : u = 0 := by omega
          refine lv_ldc2 hx hb hown (hts (.constantLong RX2 133 (-9000000000000000004)) (by decide +kernel)) dX2_byValue_56 ?_
          exact zretL hx hb hr hlk hS hP dX2_byValue_59 ⟨_, _, _, rfl, by rw [← hTa, ← hNa, ← hv]; rfl, hTP, fun _ _ => rfl⟩
        ·
          obtain ⟨u, rfl⟩ : ∃ j, u = j + 1 := ⟨u - 1, by omega⟩
          have hzp := zplace_le (T a) k (top a + 1)
          refine lv_aload_n hx hb dX2_byValue_36 rfl (lv_at hl 2 rfl) ?_
          refine lv_iload hx hb dX2_byValue_37 (lv_at hl 3 rfl) ?_
          refine zcallV (As := [.int (nI k)]) (rest := []) (q := a) (k := 1) hx hb hml hown hts (kX1_placeOf l D cL cI cR A F hF T top Z a (by omega) k (by omega) (T a) rfl (top a) rfl (by omega)) gX2_byValue_X1_placeOf rfl (by decide +kernel) ⟨Nat.le_of_ble_eq_true rfl, Nat.le_of_ble_eq_true rfl⟩ rfl (by omega) (zC_s (by omega)) rfl rfl hAm hP hS rfl hl.1 rfl (Nat.le_of_ble_eq_true rfl) dX2_byValue_39 ⟨Nat.zero_le _, Nat.zero_le _⟩ (zkn (fun H locs hP hS => ?_))
          refine W.eq (g2 := F0 m 42 ls [.int (nI (zplace (T a) k (top a + 1)))]) rfl ?_
          refine lv_iload_n hx hb dX2_byValue_42 rfl (lv_at hl 1 rfl) ?_
          refine zi_ne (tgt := 50) hx hb dX2_byValue_43 (by decide) (by omega) (by omega) (fun c3 => ?_) (fun c3 => ?_)
          ·
            refine lv_iinc (v := (nI (k + 1))) (lv' := [(4, .int (nI (k + 1))), (0, .ref (F 24)), (2, .int (nI pl)), (3, .ref (F a))]) hx hb dX2_byValue_50 hl (k := 3) rfl (zinc (by omega)) (by decide) rfl (fun ls hl => ?_)
            refine lv_goto (tgt := 27) hx hb dX2_byValue_53 (by decide) ?_
            exact ih27 (k + 1) u (by omega) (by rw [← hv, zbv, if_neg (by assumption)]) (by omega) H _ hP hS ls (lv_sub hl [1, 2, 3, 0] rfl)
          ·
            refine lv_iload hx hb dX2_byValue_46 (lv_at hl 3 rfl) ?_
            refine zi2l hx hb (by omega) dX2_byValue_48 ?_
            exact zretL hx hb hr hlk hS hP dX2_byValue_49 ⟨_, _, _, rfl, by rw [← hTa, ← hNa, ← hv, zbv, if_pos c3], hTP, fun _ _ => rfl⟩
    exact L27 _ 0 (top a + 1) (by omega) rfl (Nat.lt_succ_self _) H _ hP hS ls (lv_sub hl [2, 4, 1, 0] rfl)
  ·
    exfalso; omega

set_option maxHeartbeats 4000000 in
set_option maxRecDepth 100000 in
theorem kX2_extremePoint (l : Launch) (D : va_G) (cL cI cR : ClassId) (A : Nat → Prop) (F : Nat → Nat) (hF : zq_F A F 30) (T : Nat → Nat → Int64) (top : Nat → Nat) (Z : zZC) (P : Nat → Nat → Int64) (n0 : Nat → Nat) (hTP : ∀ i, i < 8 → T i = P i ∧ top i = n0 i) (h24 : ∀ i, i < 8 → n0 i ≤ 24) (q : Nat) (hq : q ≤ 4) (j : Nat) (hj : j ≤ 2 ^ q) : zCt l yX2_extremePoint wsX2_extremePoint 3 65 D cL cI cR A F 30 (zCE cL cR F T top Z) [.ref (F 24), .int (nI q), .int (nI j)] (zPC cL cR F (zcosv (j * 2 ^ (4 - q))).toInt64 P n0 Z.1) := by
  refine zStart (cc := cX2_extremePoint) (maxL := 3) (ret := (some .long)) (by decide +kernel) rfl (Nat.le_of_ble_eq_true rfl) ?_
  intro p e s m below meth c hx hb hr hml hlk hown hts hAm H hP hS ls hl
  have hown : s.vm.findClass RX2 = some m.cls := hown
  have hl : lv_has ls 3 [(0, .ref (F 24)), (1, .int (nI q)), (2, .int (nI j))] := hl
  have h2q := zp2 hq
  refine lv_iload_n hx hb dX2_extremePoint_0 rfl (lv_at hl 1 rfl) ?_
  refine lv_iconst (v := nI 0) hx hb dX2_extremePoint_1 (by decide +kernel) ?_
  refine lv_iconst (v := nI 4) hx hb dX2_extremePoint_2 (by decide +kernel) ?_
  refine zcallS (As := [.int (nI q), .int (nI 0), .int (nI 4)]) (rest := []) (k := 3) hx hb hml hown hts (kX2_isOutside l D cL cI cR A F 30 (zCE cL cR F T top Z) (nI q) (nI 0) (nI 4) 0 (zo0 rfl rfl (zin_nI (a := 4) (by omega) (by decide)))) gX2_extremePoint_X2_isOutside rfl (by decide +kernel) ⟨Nat.le_of_ble_eq_true rfl, Nat.le_of_ble_eq_true rfl⟩ hAm hP hS rfl hl.1 rfl (Nat.le_of_ble_eq_true rfl) dX2_extremePoint_3 ⟨Nat.zero_le _, Nat.zero_le _⟩ (zkn (fun H locs hP hS => ?_))
  refine W.eq (g2 := F0 m 6 ls [.int (nI 0)]) rfl ?_
  refine zf_ne (tgt := 20) hx hb dX2_extremePoint_6 (by decide) (by omega) (fun c1 => ?_) (fun c1 => ?_)
  ·
    exfalso; omega
  ·
    refine lv_iload_n hx hb dX2_extremePoint_9 rfl (lv_at hl 2 rfl) ?_
    refine lv_iconst (v := nI 0) hx hb dX2_extremePoint_10 (by decide +kernel) ?_
    refine lv_iconst (v := nI 1) hx hb dX2_extremePoint_11 (by decide +kernel) ?_
    refine lv_iload_n hx hb dX2_extremePoint_12 rfl (lv_at hl 1 rfl) ?_
    refine lv_ishl hx hb dX2_extremePoint_13 ?_
    refine W.eq (g2 := F0 m 14 ls [.int (nI (2 ^ q)), .int (nI 0), .int (nI j)]) (by rw [zsh1 hq]) ?_
    refine zcallS (As := [.int (nI j), .int (nI 0), .int (nI (2 ^ q))]) (rest := []) (k := 3) hx hb hml hown hts (kX2_isOutside l D cL cI cR A F 30 (zCE cL cR F T top Z) (nI j) (nI 0) (nI (2 ^ q)) 0 (zo0 rfl (nI_toInt (by omega)) (zin_nI (by omega) (by omega)))) gX2_extremePoint_X2_isOutside rfl (by decide +kernel) ⟨Nat.le_of_ble_eq_true rfl, Nat.le_of_ble_eq_true rfl⟩ hAm hP hS rfl hl.1 rfl (Nat.le_of_ble_eq_true rfl) dX2_extremePoint_14 ⟨Nat.zero_le _, Nat.zero_le _⟩ (zkn (fun H locs hP hS => ?_))
    refine W.eq (g2 := F0 m 17 ls [.int (nI 0)]) rfl ?_
    refine zf_eq (tgt := 24) hx hb dX2_extremePoint_17 (by decide) (by omega) (fun c2 => ?_) (fun c2 => ?_)
    ·
      refine lv_iload_n hx hb dX2_extremePoint_24 rfl (lv_at hl 1 rfl) ?_
      refine lv_iload_n hx hb dX2_extremePoint_25 rfl (lv_at hl 2 rfl) ?_
      refine zcallS (As := [.int (nI q), .int (nI j)]) (rest := []) (k := 2) hx hb hml hown hts (kX2_pointAt l D cL cI cR A F 30 (zCE cL cR F T top Z) q j hq (by omega)) gX2_extremePoint_X2_pointAt rfl (by decide +kernel) ⟨Nat.le_of_ble_eq_true rfl, Nat.le_of_ble_eq_true rfl⟩ hAm hP hS rfl hl.1 rfl (Nat.le_of_ble_eq_true rfl) dX2_extremePoint_26 ⟨Nat.zero_le _, Nat.zero_le _⟩ (zkn (fun H locs hP hS => ?_))
      refine W.eq (g2 := F0 m 29 ls [.int (zcosv (j * 2 ^ (4 - q)))]) rfl ?_
      refine lv_i2l (v := (zcosv (j * 2 ^ (4 - q))).toInt64) hx hb dX2_extremePoint_29 rfl ?_
      exact zretL hx hb hr hlk hS hP dX2_extremePoint_30 ⟨_, _, _, rfl, rfl, hTP, fun _ _ => rfl⟩
    ·
      exfalso; omega

set_option maxHeartbeats 4000000 in
set_option maxRecDepth 100000 in
theorem kX2_interpolate (l : Launch) (D : va_G) (cL cI cR : ClassId) (A : Nat → Prop) (F : Nat → Nat) (hF : zq_F A F 30) (T : Nat → Nat → Int64) (top : Nat → Nat) (pv rt en : Nat → Int64) (w co lo : Nat) (P : Nat → Nat → Int64) (n0 : Nat → Nat) (hTP : ∀ i, i < 8 → T i = P i ∧ top i = n0 i) (h24 : ∀ i, i < 8 → n0 i ≤ 24) (t : Nat) (ht : t ≤ 7) (q : Nat) (hq : q ≤ 4) : zCt l yX2_interpolate wsX2_interpolate 4 92 D cL cI cR A F 30 (zCE cL cR F T top (pv, rt, en, w, co, lo)) [.ref (F 24), .int (nI q), .int (nI t)] (zPC cL cR F (zkr (zint pv q)) (zkP P t (zint pv q)) (zkN n0 t (zint pv q)) pv) := by
  refine zStart (cc := cX2_interpolate) (maxL := 7) (ret := (some .long)) (by decide +kernel) rfl (Nat.le_of_ble_eq_true rfl) ?_
  intro p e s m below meth c hx hb hr hml hlk hown hts hAm H hP hS ls hl
  have hown : s.vm.findClass RX2 = some m.cls := hown
  have hl : lv_has ls 7 [(0, .ref (F 24)), (1, .int (nI q)), (2, .int (nI t))] := hl
  have hinX2 : ∀ w ∈ u_ws RX2 TX2 7, w ∈ wsX2_interpolate := by decide +kernel
  obtain ⟨hTt, hNt⟩ := hTP t (by omega)
  have h24t : top t ≤ 24 := by rw [hNt]; exact h24 t (by omega)
  have h2q := zp2 hq
  refine lv_aload_n hx hb dX2_interpolate_0 rfl (lv_at hl 0 rfl) ?_
  refine lv_iload_n hx hb dX2_interpolate_1 rfl (lv_at hl 2 rfl) ?_
  refine zcallV (As := [.int (nI t)]) (rest := []) (q := 24) (k := 1) hx hb hml hown hts (kX2_find_in l D cL cI cR A F hF T top (pv, rt, en, w, co, lo) (nI t) t (by omega) rfl) gX2_interpolate_X2_find rfl (by decide +kernel) ⟨Nat.le_of_ble_eq_true rfl, Nat.le_of_ble_eq_true rfl⟩ rfl (by omega) (zC_o) rfl rfl hAm hP hS rfl hl.1 rfl (Nat.le_of_ble_eq_true rfl) dX2_interpolate_2 ⟨Nat.zero_le _, Nat.zero_le _⟩ (zkn (fun H locs hP hS => ?_))
  refine W.eq (g2 := F0 m 5 ls [.ref (F t)]) rfl ?_
  refine lv_astore_n (lv' := [(3, .ref (F t)), (0, .ref (F 24)), (1, .int (nI q)), (2, .int (nI t))]) hx hb dX2_interpolate_5 rfl hl (by decide) rfl (fun ls hl => ?_)
  refine lv_aload_n hx hb dX2_interpolate_6 rfl (lv_at hl 0 rfl) ?_
  refine lv_ifnull hx hb dX2_interpolate_7 ?_
  refine lv_iload_n hx hb dX2_interpolate_10 rfl (lv_at hl 2 rfl) ?_
  refine lv_iconst (v := nI 0) hx hb dX2_interpolate_11 (by decide +kernel) ?_
  refine lv_iconst (v := nI 4) hx hb dX2_interpolate_12 (by decide +kernel) ?_
  refine zcallS (As := [.int (nI q), .int (nI 0), .int (nI 4)]) (rest := []) (k := 3) hx hb hml hown hts (kX2_isOutside l D cL cI cR A F 30 (zCE cL cR F T top (pv, rt, en, w, co, lo)) (nI q) (nI 0) (nI 4) 0 (zo0 rfl rfl (zin_nI (a := 4) (by omega) (by decide)))) gX2_interpolate_X2_isOutside rfl (by decide +kernel) ⟨Nat.le_of_ble_eq_true rfl, Nat.le_of_ble_eq_true rfl⟩ hAm hP hS rfl hl.1 rfl (Nat.le_of_ble_eq_true rfl) dX2_interpolate_13 ⟨Nat.zero_le _, Nat.zero_le _⟩ (zkn (fun H locs hP hS => ?_))
  refine W.eq (g2 := F0 m 16 ls [.int (nI 0)]) rfl ?_
  refine zf_eq (tgt := 23) hx hb dX2_interpolate_16 (by decide) (by omega) (fun c1 => ?_) (fun c1 => ?_)
  ·
    refine lv_iconst (v := nI 1) hx hb dX2_interpolate_23 (by decide +kernel) ?_
    refine lv_iload_n hx hb dX2_interpolate_24 rfl (lv_at hl 2 rfl) ?_
    refine lv_ishl hx hb dX2_interpolate_25 ?_
    refine W.eq (g2 := F0 m 26 ls [.int (nI (2 ^ q))]) (by rw [zsh1 hq]) ?_
    refine lv_istore (lv' := [(4, .int (nI (2 ^ q))), (3, .ref (F t)), (0, .ref (F 24)), (1, .int (nI q)), (2, .int (nI t))]) hx hb dX2_interpolate_26 hl (by decide) rfl (fun ls hl => ?_)
    refine lv_aload_n hx hb dX2_interpolate_28 rfl (lv_at hl 2 rfl) ?_
    refine zget (q := 24) (k := 3) (v := .ref (F 8)) hx hb hts hinX2 hown hAm hP (by omega) (zC_o) rfl (by decide) (hts (.fieldLink RX2 27 "CosineSeries" "made" "LCosineSeries$Series;") (by decide +kernel)) (by first | rfl | simp [va_up, *]) dX2_interpolate_29 ?_
    refine zcallV (As := []) (rest := []) (q := 8) (k := 0) hx hb hml hown hts (kX1_clear l D cL cI cR A F hF T top (pv, rt, en, w, co, lo) 8 (by omega)) gX2_interpolate_X1_clear rfl (by decide +kernel) ⟨Nat.le_of_ble_eq_true rfl, Nat.le_of_ble_eq_true rfl⟩ rfl (by omega) (zC_s (by omega)) rfl rfl hAm hP hS rfl hl.1 rfl (Nat.le_of_ble_eq_true rfl) dX2_interpolate_32 ⟨Nat.zero_le _, Nat.zero_le _⟩ (zkn (fun H locs hP hS => ?_))
    refine W.eq (g2 := F0 m 35 ls []) rfl ?_
    refine lv_iconst (v := nI 0) hx hb dX2_interpolate_35 (by decide +kernel) ?_
    refine lv_istore (lv' := [(5, .int (nI 0)), (4, .int (nI (2 ^ q))), (3, .ref (F t)), (0, .ref (F 24)), (1, .int (nI q)), (2, .int (nI t))]) hx hb dX2_interpolate_36 hl (by decide) rfl (fun ls hl => ?_)
    have L38 : ∀ (n : Nat) (k : Nat) (f : Nat → Int64) (hk : k ≤ 2 ^ q + 1) (hf : ∀ j, j < 49 → f j = if j < k then zint pv q j else 0) (hn : 2 ^ q + 1 - k < n) (H : Heap) (locs : List Loc), va_P D vwCl (zq_wd F 30 (zCE cL cR F (va_up T 8 f) (va_up top 8 0) (pv, rt, en, w, co, lo))) H → va_S A s.heap H locs → ∀ (ls : Array Slot), lv_has ls 7 [(0, .ref (F 24)), (1, .int (nI q)), (3, .ref (F t)), (4, .int (nI (2 ^ q))), (5, .int (nI k))] → W p l e ({ frames := 4, cells := 0, slots := 0, locals := 92 }) s m ([.ref (F 24), .int (nI q), .int (nI t)] : List Value).toArray below meth c H locs 0 0 (zQ below D A F 30 [.ref (F 24), .int (nI q), .int (nI t)] s (zPC cL cR F (zkr (zint pv q)) (zkP P t (zint pv q)) (zkN n0 t (zint pv q)) pv)) (F0 m 38 ls []) := by
      intro n
      induction n with
      | zero =>
        intro k f hk hf hn
        exact absurd hn (Nat.not_lt_zero _)
      | succ n ih38 =>
        intro k f hk hf hn H locs hP hS ls hl
        refine lv_iload hx hb dX2_interpolate_38 (lv_at hl 4 rfl) ?_
        refine lv_iload hx hb dX2_interpolate_40 (lv_at hl 3 rfl) ?_
        refine zi_gt (tgt := 104) hx hb dX2_interpolate_42 (by decide) (by omega) (by omega) (fun c2 => ?_) (fun c2 => ?_)
        ·
          have hP : va_P D vwCl (zq_wd F 30 (zCE cL cR F (va_up T 8 (zint pv q)) (va_up top 8 0) (pv, rt, en, w, co, lo))) H := zC_extT hP (zupx (fun j hj => by rw [hf j hj]; by_cases h : j < k; (rw [if_pos h]); (rw [if_neg h]; unfold zint; rw [if_neg (by omega)])))
          refine lv_aload_n hx hb dX2_interpolate_104 rfl (lv_at hl 0 rfl) ?_
          refine zget (q := 24) (k := 3) (v := .ref (F 8)) hx hb hts hinX2 hown hAm hP (by omega) (zC_o) rfl (by decide) (hts (.fieldLink RX2 27 "CosineSeries" "made" "LCosineSeries$Series;") (by decide +kernel)) (by first | rfl | simp [va_up, *]) dX2_interpolate_105 ?_
          refine zcallV (As := []) (rest := []) (q := 8) (k := 0) hx hb hml hown hts (kX1_trim l D cL cI cR A F hF (va_up T 8 (zint pv q)) (va_up top 8 0) (pv, rt, en, w, co, lo) 8 (by omega) (zint pv q) (by first | rfl | simp [va_up, *]) (va_up top 8 (ztop (zint pv q) 48)) (by first | rfl | simp only [bx_uu])) gX2_interpolate_X1_trim rfl (by decide +kernel) ⟨Nat.le_of_ble_eq_true rfl, Nat.le_of_ble_eq_true rfl⟩ rfl (by omega) (zC_s (by omega)) rfl rfl hAm hP hS rfl hl.1 rfl (Nat.le_of_ble_eq_true rfl) dX2_interpolate_108 ⟨Nat.zero_le _, Nat.zero_le _⟩ (zkn (fun H locs hP hS => ?_))
          refine W.eq (g2 := F0 m 111 ls []) rfl ?_
          refine lv_aload_n hx hb dX2_interpolate_111 rfl (lv_at hl 0 rfl) ?_
          refine lv_aload_n hx hb dX2_interpolate_112 rfl (lv_at hl 2 rfl) ?_
          refine zcallV (As := [.ref (F t)]) (rest := []) (q := 24) (k := 1) hx hb hml hown hts (kX2_keepMade l D cL cI cR A F hF (va_up T 8 (zint pv q)) (va_up top 8 (ztop (zint pv q) 48)) (pv, rt, en, w, co, lo) t (by omega) (zint pv q) (va_up_eq _ _ _) (va_up_eq _ _ _) (zkP (va_up T 8 (zint pv q)) t (zint pv q)) (zkN (va_up top 8 (ztop (zint pv q) 48)) t (zint pv q)) rfl rfl) gX2_interpolate_X2_keepMade rfl (by decide +kernel) ⟨Nat.le_of_ble_eq_true rfl, Nat.le_of_ble_eq_true rfl⟩ rfl (by omega) (zC_o) rfl rfl hAm hP hS rfl hl.1 rfl (Nat.le_of_ble_eq_true rfl) dX2_interpolate_113 ⟨Nat.zero_le _, Nat.zero_le _⟩ (zkn (fun H locs hP hS => ?_))
          refine W.eq (g2 := F0 m 116 ls [.long (zkr (zint pv q))]) rfl ?_
          exact zretL hx hb hr hlk hS hP dX2_interpolate_116 ⟨_, _, _, rfl, rfl, zend_keep hTP, fun _ _ => rfl⟩
        ·
          refine lv_iload hx hb dX2_interpolate_45 (lv_at hl 4 rfl) ?_
          refine zf_eq (tgt := 57) hx hb dX2_interpolate_47 (by decide) (by omega) (fun c3 => ?_) (fun c3 => ?_)
          ·
            refine lv_iconst (v := nI 1) hx hb dX2_interpolate_57 (by decide +kernel) ?_
            refine lv_goto (tgt := 62) hx hb dX2_interpolate_58 (by decide) ?_
            refine lv_istore (lv' := [(6, .int (nI 1)), (0, .ref (F 24)), (1, .int (nI q)), (3, .ref (F t)), (4, .int (nI (2 ^ q))), (5, .int (nI k))]) hx hb dX2_interpolate_62 hl (by decide) rfl (fun ls hl => ?_)
            refine lv_aload_n hx hb dX2_interpolate_64 rfl (lv_at hl 1 rfl) ?_
            refine zget (q := 24) (k := 3) (v := .ref (F 8)) hx hb hts hinX2 hown hAm hP (by omega) (zC_o) rfl (by decide) (hts (.fieldLink RX2 27 "CosineSeries" "made" "LCosineSeries$Series;") (by decide +kernel)) (by first | rfl | simp [va_up, *]) dX2_interpolate_65 ?_
            refine lv_iload hx hb dX2_interpolate_68 (lv_at hl 5 rfl) ?_
            refine lv_iload hx hb dX2_interpolate_70 (lv_at hl 0 rfl) ?_
            refine zi2l hx hb (by omega) dX2_interpolate_72 ?_
            refine lv_aload_n hx hb dX2_interpolate_73 rfl (lv_at hl 1 rfl) ?_
            refine lv_iload_n hx hb dX2_interpolate_74 rfl (lv_at hl 2 rfl) ?_
            refine lv_iload hx hb dX2_interpolate_75 (lv_at hl 5 rfl) ?_
            refine zcallV (As := [.int (nI q), .int (nI k)]) (rest := [.long (lN 1), .int (nI k), .ref (F 8)]) (q := 24) (k := 2) hx hb hml hown hts (kX2_cosineSum l D cL cI cR A F hF (va_up T 8 f) (va_up top 8 0) pv rt en w co lo q k hq (by omega)) gX2_interpolate_X2_cosineSum rfl (by decide +kernel) ⟨Nat.le_of_ble_eq_true rfl, Nat.le_of_ble_eq_true rfl⟩ rfl (by omega) (zC_o) rfl rfl hAm hP hS rfl hl.1 rfl (Nat.le_of_ble_eq_true rfl) dX2_interpolate_77 ⟨Nat.zero_le _, Nat.zero_le _⟩ (zkn (fun H locs hP hS => ?_))
            refine W.eq (g2 := F0 m 80 ls [.long (zcs pv q k (2 ^ q + 1)), .long (lN 1), .int (nI k), .ref (F 8)]) rfl ?_
            refine lv_lmul hx hb dX2_interpolate_80 ?_
            refine lv_ldc2 hx hb hown (hts (.constantLong RX2 117 (2)) (by decide +kernel)) dX2_interpolate_81 ?_
            refine lv_iload hx hb dX2_interpolate_84 (lv_at hl 4 rfl) ?_
            refine zi2l hx hb (by omega) dX2_interpolate_86 ?_
            refine lv_lmul hx hb dX2_interpolate_87 ?_
            refine lv_ldc2 hx hb hown (hts (.constantLong RX2 115 (1048576)) (by decide +kernel)) dX2_interpolate_88 ?_
            refine lv_lmul hx hb dX2_interpolate_91 ?_
            refine zcallS (As := [.long ((lN 1) * (zcs pv q k (2 ^ q + 1))), .long (((2 : Int64) * (lN (2 ^ q))) * (1048576 : Int64))]) (rest := [.int (nI k), .ref (F 8)]) (k := 2) hx hb hml hown hts (kX2_rounded l D cL cI cR A F 30 (zCE cL cR F (va_up T 8 f) (va_up top 8 0) (pv, rt, en, w, co, lo)) ((lN 1) * (zcs pv q k (2 ^ q + 1))) (((2 : Int64) * (lN (2 ^ q))) * (1048576 : Int64)) (zipos hq)) gX2_interpolate_X2_rounded rfl (by decide +kernel) ⟨Nat.le_of_ble_eq_true rfl, Nat.le_of_ble_eq_true rfl⟩ hAm hP hS rfl hl.1 rfl (Nat.le_of_ble_eq_true rfl) dX2_interpolate_92 ⟨Nat.zero_le _, Nat.zero_le _⟩ (zkn (fun H locs hP hS => ?_))
            refine W.eq (g2 := F0 m 95 ls [.long (zR ((lN 1) * (zcs pv q k (2 ^ q + 1))) (((2 : Int64) * (lN (2 ^ q))) * (1048576 : Int64))), .int (nI k), .ref (F 8)]) rfl ?_
            refine zcallV (As := [.int (nI k), .long (zR ((lN 1) * (zcs pv q k (2 ^ q + 1))) (((2 : Int64) * (lN (2 ^ q))) * (1048576 : Int64)))]) (rest := []) (q := 8) (k := 2) hx hb hml hown hts (kX1_put l D cL cI cR A F hF (va_up T 8 f) (va_up top 8 0) (pv, rt, en, w, co, lo) 8 (by omega) k (by omega) (zR ((lN 1) * (zcs pv q k (2 ^ q + 1))) (((2 : Int64) * (lN (2 ^ q))) * (1048576 : Int64))) (va_up T 8 (vp_updL f k (zR ((lN 1) * (zcs pv q k (2 ^ q + 1))) (((2 : Int64) * (lN (2 ^ q))) * (1048576 : Int64))))) (by first | rfl | simp only [bx_uu, va_up_eq])) gX2_interpolate_X1_put rfl (by decide +kernel) ⟨Nat.le_of_ble_eq_true rfl, Nat.le_of_ble_eq_true rfl⟩ rfl (by omega) (zC_s (by omega)) rfl rfl hAm hP hS rfl hl.1 rfl (Nat.le_of_ble_eq_true rfl) dX2_interpolate_95 ⟨Nat.zero_le _, Nat.zero_le _⟩ (zkn (fun H locs hP hS => ?_))
            refine W.eq (g2 := F0 m 98 ls []) rfl ?_
            refine lv_iinc (v := (nI (k + 1))) (lv' := [(5, .int (nI (k + 1))), (6, .int (nI 1)), (0, .ref (F 24)), (1, .int (nI q)), (3, .ref (F t)), (4, .int (nI (2 ^ q)))]) hx hb dX2_interpolate_98 hl (k := 5) rfl (zinc (by omega)) (by decide) rfl (fun ls hl => ?_)
            refine lv_goto (tgt := 38) hx hb dX2_interpolate_101 (by decide) ?_
            exact ih38 (k + 1) _ (by omega) (fun j hj => by unfold vp_updL; split; (rename_i h; rw [h, if_pos (by omega)]; unfold zint; rw [if_pos (by omega)]; (first | rw [if_pos (by omega)] | rw [if_neg (by omega)]) <;> rfl); (rw [hf j hj]; by_cases h : j < k; (rw [if_pos h, if_pos (by omega)]); (rw [if_neg h, if_neg (by omega)]))) (by omega) H _ hP hS ls (lv_sub hl [2, 3, 4, 5, 0] rfl)
          ·
            refine lv_iload hx hb dX2_interpolate_50 (lv_at hl 4 rfl) ?_
            refine lv_iload hx hb dX2_interpolate_52 (lv_at hl 3 rfl) ?_
            refine zi_ne (tgt := 61) hx hb dX2_interpolate_54 (by decide) (by omega) (by omega) (fun c4 => ?_) (fun c4 => ?_)
            ·
              refine lv_iconst (v := nI 2) hx hb dX2_interpolate_61 (by decide +kernel) ?_
              refine lv_istore (lv' := [(6, .int (nI 2)), (0, .ref (F 24)), (1, .int (nI q)), (3, .ref (F t)), (4, .int (nI (2 ^ q))), (5, .int (nI k))]) hx hb dX2_interpolate_62 hl (by decide) rfl (fun ls hl => ?_)
              refine lv_aload_n hx hb dX2_interpolate_64 rfl (lv_at hl 1 rfl) ?_
              refine zget (q := 24) (k := 3) (v := .ref (F 8)) hx hb hts hinX2 hown hAm hP (by omega) (zC_o) rfl (by decide) (hts (.fieldLink RX2 27 "CosineSeries" "made" "LCosineSeries$Series;") (by decide +kernel)) (by first | rfl | simp [va_up, *]) dX2_interpolate_65 ?_
              refine lv_iload hx hb dX2_interpolate_68 (lv_at hl 5 rfl) ?_
              refine lv_iload hx hb dX2_interpolate_70 (lv_at hl 0 rfl) ?_
              refine zi2l hx hb (by omega) dX2_interpolate_72 ?_
              refine lv_aload_n hx hb dX2_interpolate_73 rfl (lv_at hl 1 rfl) ?_
              refine lv_iload_n hx hb dX2_interpolate_74 rfl (lv_at hl 2 rfl) ?_
              refine lv_iload hx hb dX2_interpolate_75 (lv_at hl 5 rfl) ?_
              refine zcallV (As := [.int (nI q), .int (nI k)]) (rest := [.long (lN 2), .int (nI k), .ref (F 8)]) (q := 24) (k := 2) hx hb hml hown hts (kX2_cosineSum l D cL cI cR A F hF (va_up T 8 f) (va_up top 8 0) pv rt en w co lo q k hq (by omega)) gX2_interpolate_X2_cosineSum rfl (by decide +kernel) ⟨Nat.le_of_ble_eq_true rfl, Nat.le_of_ble_eq_true rfl⟩ rfl (by omega) (zC_o) rfl rfl hAm hP hS rfl hl.1 rfl (Nat.le_of_ble_eq_true rfl) dX2_interpolate_77 ⟨Nat.zero_le _, Nat.zero_le _⟩ (zkn (fun H locs hP hS => ?_))
              refine W.eq (g2 := F0 m 80 ls [.long (zcs pv q k (2 ^ q + 1)), .long (lN 2), .int (nI k), .ref (F 8)]) rfl ?_
              refine lv_lmul hx hb dX2_interpolate_80 ?_
              refine lv_ldc2 hx hb hown (hts (.constantLong RX2 117 (2)) (by decide +kernel)) dX2_interpolate_81 ?_
              refine lv_iload hx hb dX2_interpolate_84 (lv_at hl 4 rfl) ?_
              refine zi2l hx hb (by omega) dX2_interpolate_86 ?_
              refine lv_lmul hx hb dX2_interpolate_87 ?_
              refine lv_ldc2 hx hb hown (hts (.constantLong RX2 115 (1048576)) (by decide +kernel)) dX2_interpolate_88 ?_
              refine lv_lmul hx hb dX2_interpolate_91 ?_
              refine zcallS (As := [.long ((lN 2) * (zcs pv q k (2 ^ q + 1))), .long (((2 : Int64) * (lN (2 ^ q))) * (1048576 : Int64))]) (rest := [.int (nI k), .ref (F 8)]) (k := 2) hx hb hml hown hts (kX2_rounded l D cL cI cR A F 30 (zCE cL cR F (va_up T 8 f) (va_up top 8 0) (pv, rt, en, w, co, lo)) ((lN 2) * (zcs pv q k (2 ^ q + 1))) (((2 : Int64) * (lN (2 ^ q))) * (1048576 : Int64)) (zipos hq)) gX2_interpolate_X2_rounded rfl (by decide +kernel) ⟨Nat.le_of_ble_eq_true rfl, Nat.le_of_ble_eq_true rfl⟩ hAm hP hS rfl hl.1 rfl (Nat.le_of_ble_eq_true rfl) dX2_interpolate_92 ⟨Nat.zero_le _, Nat.zero_le _⟩ (zkn (fun H locs hP hS => ?_))
              refine W.eq (g2 := F0 m 95 ls [.long (zR ((lN 2) * (zcs pv q k (2 ^ q + 1))) (((2 : Int64) * (lN (2 ^ q))) * (1048576 : Int64))), .int (nI k), .ref (F 8)]) rfl ?_
              refine zcallV (As := [.int (nI k), .long (zR ((lN 2) * (zcs pv q k (2 ^ q + 1))) (((2 : Int64) * (lN (2 ^ q))) * (1048576 : Int64)))]) (rest := []) (q := 8) (k := 2) hx hb hml hown hts (kX1_put l D cL cI cR A F hF (va_up T 8 f) (va_up top 8 0) (pv, rt, en, w, co, lo) 8 (by omega) k (by omega) (zR ((lN 2) * (zcs pv q k (2 ^ q + 1))) (((2 : Int64) * (lN (2 ^ q))) * (1048576 : Int64))) (va_up T 8 (vp_updL f k (zR ((lN 2) * (zcs pv q k (2 ^ q + 1))) (((2 : Int64) * (lN (2 ^ q))) * (1048576 : Int64))))) (by first | rfl | simp only [bx_uu, va_up_eq])) gX2_interpolate_X1_put rfl (by decide +kernel) ⟨Nat.le_of_ble_eq_true rfl, Nat.le_of_ble_eq_true rfl⟩ rfl (by omega) (zC_s (by omega)) rfl rfl hAm hP hS rfl hl.1 rfl (Nat.le_of_ble_eq_true rfl) dX2_interpolate_95 ⟨Nat.zero_le _, Nat.zero_le _⟩ (zkn (fun H locs hP hS => ?_))
              refine W.eq (g2 := F0 m 98 ls []) rfl ?_
              refine lv_iinc (v := (nI (k + 1))) (lv' := [(5, .int (nI (k + 1))), (6, .int (nI 2)), (0, .ref (F 24)), (1, .int (nI q)), (3, .ref (F t)), (4, .int (nI (2 ^ q)))]) hx hb dX2_interpolate_98 hl (k := 5) rfl (zinc (by omega)) (by decide) rfl (fun ls hl => ?_)
              refine lv_goto (tgt := 38) hx hb dX2_interpolate_101 (by decide) ?_
              exact ih38 (k + 1) _ (by omega) (fun j hj => by unfold vp_updL; split; (rename_i h; rw [h, if_pos (by omega)]; unfold zint; rw [if_pos (by omega)]; (first | rw [if_pos (by omega)] | rw [if_neg (by omega)]) <;> rfl); (rw [hf j hj]; by_cases h : j < k; (rw [if_pos h, if_pos (by omega)]); (rw [if_neg h, if_neg (by omega)]))) (by omega) H _ hP hS ls (lv_sub hl [2, 3, 4, 5, 0] rfl)
            ·
              refine lv_iconst (v := nI 1) hx hb dX2_interpolate_57 (by decide +kernel) ?_
              refine lv_goto (tgt := 62) hx hb dX2_interpolate_58 (by decide) ?_
              refine lv_istore (lv' := [(6, .int (nI 1)), (0, .ref (F 24)), (1, .int (nI q)), (3, .ref (F t)), (4, .int (nI (2 ^ q))), (5, .int (nI k))]) hx hb dX2_interpolate_62 hl (by decide) rfl (fun ls hl => ?_)
              refine lv_aload_n hx hb dX2_interpolate_64 rfl (lv_at hl 1 rfl) ?_
              refine zget (q := 24) (k := 3) (v := .ref (F 8)) hx hb hts hinX2 hown hAm hP (by omega) (zC_o) rfl (by decide) (hts (.fieldLink RX2 27 "CosineSeries" "made" "LCosineSeries$Series;") (by decide +kernel)) (by first | rfl | simp [va_up, *]) dX2_interpolate_65 ?_
              refine lv_iload hx hb dX2_interpolate_68 (lv_at hl 5 rfl) ?_
              refine lv_iload hx hb dX2_interpolate_70 (lv_at hl 0 rfl) ?_
              refine zi2l hx hb (by omega) dX2_interpolate_72 ?_
              refine lv_aload_n hx hb dX2_interpolate_73 rfl (lv_at hl 1 rfl) ?_
              refine lv_iload_n hx hb dX2_interpolate_74 rfl (lv_at hl 2 rfl) ?_
              refine lv_iload hx hb dX2_interpolate_75 (lv_at hl 5 rfl) ?_
              refine zcallV (As := [.int (nI q), .int (nI k)]) (rest := [.long (lN 1), .int (nI k), .ref (F 8)]) (q := 24) (k := 2) hx hb hml hown hts (kX2_cosineSum l D cL cI cR A F hF (va_up T 8 f) (va_up top 8 0) pv rt en w co lo q k hq (by omega)) gX2_interpolate_X2_cosineSum rfl (by decide +kernel) ⟨Nat.le_of_ble_eq_true rfl, Nat.le_of_ble_eq_true rfl⟩ rfl (by omega) (zC_o) rfl rfl hAm hP hS rfl hl.1 rfl (Nat.le_of_ble_eq_true rfl) dX2_interpolate_77 ⟨Nat.zero_le _, Nat.zero_le _⟩ (zkn (fun H locs hP hS => ?_))
              refine W.eq (g2 := F0 m 80 ls [.long (zcs pv q k (2 ^ q + 1)), .long (lN 1), .int (nI k), .ref (F 8)]) rfl ?_
              refine lv_lmul hx hb dX2_interpolate_80 ?_
              refine lv_ldc2 hx hb hown (hts (.constantLong RX2 117 (2)) (by decide +kernel)) dX2_interpolate_81 ?_
              refine lv_iload hx hb dX2_interpolate_84 (lv_at hl 4 rfl) ?_
              refine zi2l hx hb (by omega) dX2_interpolate_86 ?_
              refine lv_lmul hx hb dX2_interpolate_87 ?_
              refine lv_ldc2 hx hb hown (hts (.constantLong RX2 115 (1048576)) (by decide +kernel)) dX2_interpolate_88 ?_
              refine lv_lmul hx hb dX2_interpolate_91 ?_
              refine zcallS (As := [.long ((lN 1) * (zcs pv q k (2 ^ q + 1))), .long (((2 : Int64) * (lN (2 ^ q))) * (1048576 : Int64))]) (rest := [.int (nI k), .ref (F 8)]) (k := 2) hx hb hml hown hts (kX2_rounded l D cL cI cR A F 30 (zCE cL cR F (va_up T 8 f) (va_up top 8 0) (pv, rt, en, w, co, lo)) ((lN 1) * (zcs pv q k (2 ^ q + 1))) (((2 : Int64) * (lN (2 ^ q))) * (1048576 : Int64)) (zipos hq)) gX2_interpolate_X2_rounded rfl (by decide +kernel) ⟨Nat.le_of_ble_eq_true rfl, Nat.le_of_ble_eq_true rfl⟩ hAm hP hS rfl hl.1 rfl (Nat.le_of_ble_eq_true rfl) dX2_interpolate_92 ⟨Nat.zero_le _, Nat.zero_le _⟩ (zkn (fun H locs hP hS => ?_))
              refine W.eq (g2 := F0 m 95 ls [.long (zR ((lN 1) * (zcs pv q k (2 ^ q + 1))) (((2 : Int64) * (lN (2 ^ q))) * (1048576 : Int64))), .int (nI k), .ref (F 8)]) rfl ?_
              refine zcallV (As := [.int (nI k), .long (zR ((lN 1) * (zcs pv q k (2 ^ q + 1))) (((2 : Int64) * (lN (2 ^ q))) * (1048576 : Int64)))]) (rest := []) (q := 8) (k := 2) hx hb hml hown hts (kX1_put l D cL cI cR A F hF (va_up T 8 f) (va_up top 8 0) (pv, rt, en, w, co, lo) 8 (by omega) k (by omega) (zR ((lN 1) * (zcs pv q k (2 ^ q + 1))) (((2 : Int64) * (lN (2 ^ q))) * (1048576 : Int64))) (va_up T 8 (vp_updL f k (zR ((lN 1) * (zcs pv q k (2 ^ q + 1))) (((2 : Int64) * (lN (2 ^ q))) * (1048576 : Int64))))) (by first | rfl | simp only [bx_uu, va_up_eq])) gX2_interpolate_X1_put rfl (by decide +kernel) ⟨Nat.le_of_ble_eq_true rfl, Nat.le_of_ble_eq_true rfl⟩ rfl (by omega) (zC_s (by omega)) rfl rfl hAm hP hS rfl hl.1 rfl (Nat.le_of_ble_eq_true rfl) dX2_interpolate_95 ⟨Nat.zero_le _, Nat.zero_le _⟩ (zkn (fun H locs hP hS => ?_))
              refine W.eq (g2 := F0 m 98 ls []) rfl ?_
              refine lv_iinc (v := (nI (k + 1))) (lv' := [(5, .int (nI (k + 1))), (6, .int (nI 1)), (0, .ref (F 24)), (1, .int (nI q)), (3, .ref (F t)), (4, .int (nI (2 ^ q)))]) hx hb dX2_interpolate_98 hl (k := 5) rfl (zinc (by omega)) (by decide) rfl (fun ls hl => ?_)
              refine lv_goto (tgt := 38) hx hb dX2_interpolate_101 (by decide) ?_
              exact ih38 (k + 1) _ (by omega) (fun j hj => by unfold vp_updL; split; (rename_i h; rw [h, if_pos (by omega)]; unfold zint; rw [if_pos (by omega)]; (first | rw [if_pos (by omega)] | rw [if_neg (by omega)]) <;> rfl); (rw [hf j hj]; by_cases h : j < k; (rw [if_pos h, if_pos (by omega)]); (rw [if_neg h, if_neg (by omega)]))) (by omega) H _ hP hS ls (lv_sub hl [2, 3, 4, 5, 0] rfl)
    exact L38 _ 0 _ (by omega) (fun j _ => by rw [if_neg (by omega)]) (Nat.lt_succ_self _) H _ hP hS ls (lv_sub hl [3, 4, 2, 1, 0] rfl)
  ·
    exfalso; omega

set_option maxHeartbeats 4000000 in
set_option maxRecDepth 100000 in
theorem kX2_sample (l : Launch) (D : va_G) (cL cI cR : ClassId) (A : Nat → Prop) (F : Nat → Nat) (hF : zq_F A F 30) (T : Nat → Nat → Int64) (top : Nat → Nat) (pv rt en : Nat → Int64) (w co lo : Nat) (P : Nat → Nat → Int64) (n0 : Nat → Nat) (hTP : ∀ i, i < 8 → T i = P i ∧ top i = n0 i) (h24 : ∀ i, i < 8 → n0 i ≤ 24) (a : Nat) (ha : a ≤ 7) (q : Nat) (hq : q ≤ 4) : zCt l yX2_sample wsX2_sample 3 81 D cL cI cR A F 30 (zCE cL cR F T top (pv, rt, en, w, co, lo)) [.ref (F 24), .int (nI a), .int (nI q)] (zPC cL cR F (if zsok (P a) (n0 a) q (2 ^ q + 1) = true then lN (2 ^ q + 1) else -9000000000000000003) P n0 (if zsok (P a) (n0 a) q (2 ^ q + 1) = true then zspv (P a) (n0 a) q pv else pv)) := by
  refine zStart (cc := cX2_sample) (maxL := 6) (ret := (some .long)) (by decide +kernel) rfl (Nat.le_of_ble_eq_true rfl) ?_
  intro p e s m below meth c hx hb hr hml hlk hown hts hAm H hP hS ls hl
  have hown : s.vm.findClass RX2 = some m.cls := hown
  have hl : lv_has ls 6 [(0, .ref (F 24)), (1, .int (nI a)), (2, .int (nI q))] := hl
  have hinX2 : ∀ w ∈ u_ws RX2 TX2 7, w ∈ wsX2_sample := by decide +kernel
  obtain ⟨hTa, hNa⟩ := hTP a (by omega)
  have h24a : top a ≤ 24 := by rw [hNa]; exact h24 a (by omega)
  have h2q := zp2 hq
  refine lv_aload_n hx hb dX2_sample_0 rfl (lv_at hl 0 rfl) ?_
  refine lv_iload_n hx hb dX2_sample_1 rfl (lv_at hl 1 rfl) ?_
  refine zcallV (As := [.int (nI a)]) (rest := []) (q := 24) (k := 1) hx hb hml hown hts (kX2_find_in l D cL cI cR A F hF T top (pv, rt, en, w, co, lo) (nI a) a (by omega) rfl) gX2_sample_X2_find rfl (by decide +kernel) ⟨Nat.le_of_ble_eq_true rfl, Nat.le_of_ble_eq_true rfl⟩ rfl (by omega) (zC_o) rfl rfl hAm hP hS rfl hl.1 rfl (Nat.le_of_ble_eq_true rfl) dX2_sample_2 ⟨Nat.zero_le _, Nat.zero_le _⟩ (zkn (fun H locs hP hS => ?_))
  refine W.eq (g2 := F0 m 5 ls [.ref (F a)]) rfl ?_
  refine lv_astore_n (lv' := [(3, .ref (F a)), (0, .ref (F 24)), (1, .int (nI a)), (2, .int (nI q))]) hx hb dX2_sample_5 rfl hl (by decide) rfl (fun ls hl => ?_)
  refine lv_aload_n hx hb dX2_sample_6 rfl (lv_at hl 0 rfl) ?_
  refine lv_ifnull hx hb dX2_sample_7 ?_
  refine lv_iload_n hx hb dX2_sample_10 rfl (lv_at hl 3 rfl) ?_
  refine lv_iconst (v := nI 0) hx hb dX2_sample_11 (by decide +kernel) ?_
  refine lv_iconst (v := nI 4) hx hb dX2_sample_12 (by decide +kernel) ?_
  refine zcallS (As := [.int (nI q), .int (nI 0), .int (nI 4)]) (rest := []) (k := 3) hx hb hml hown hts (kX2_isOutside l D cL cI cR A F 30 (zCE cL cR F T top (pv, rt, en, w, co, lo)) (nI q) (nI 0) (nI 4) 0 (zo0 rfl rfl (zin_nI (a := 4) (by omega) (by decide)))) gX2_sample_X2_isOutside rfl (by decide +kernel) ⟨Nat.le_of_ble_eq_true rfl, Nat.le_of_ble_eq_true rfl⟩ hAm hP hS rfl hl.1 rfl (Nat.le_of_ble_eq_true rfl) dX2_sample_13 ⟨Nat.zero_le _, Nat.zero_le _⟩ (zkn (fun H locs hP hS => ?_))
  refine W.eq (g2 := F0 m 16 ls [.int (nI 0)]) rfl ?_
  refine zf_eq (tgt := 23) hx hb dX2_sample_16 (by decide) (by omega) (fun c1 => ?_) (fun c1 => ?_)
  ·
    refine lv_iconst (v := nI 1) hx hb dX2_sample_23 (by decide +kernel) ?_
    refine lv_iload_n hx hb dX2_sample_24 rfl (lv_at hl 3 rfl) ?_
    refine lv_ishl hx hb dX2_sample_25 ?_
    refine W.eq (g2 := F0 m 26 ls [.int (nI (2 ^ q))]) (by rw [zsh1 hq]) ?_
    refine lv_istore (lv' := [(4, .int (nI (2 ^ q))), (3, .ref (F a)), (0, .ref (F 24)), (1, .int (nI a)), (2, .int (nI q))]) hx hb dX2_sample_26 hl (by decide) rfl (fun ls hl => ?_)
    refine lv_iconst (v := nI 0) hx hb dX2_sample_28 (by decide +kernel) ?_
    refine lv_istore (lv' := [(5, .int (nI 0)), (4, .int (nI (2 ^ q))), (3, .ref (F a)), (0, .ref (F 24)), (1, .int (nI a)), (2, .int (nI q))]) hx hb dX2_sample_29 hl (by decide) rfl (fun ls hl => ?_)
    have L31 : ∀ (n : Nat) (k : Nat) (hk : k ≤ 2 ^ q + 1) (hg : zsok (T a) (top a) q k = true) (hn : 2 ^ q + 1 - k < n) (H : Heap) (locs : List Loc), va_P D vwCl (zq_wd F 30 (zCE cL cR F T top (pv, rt, en, w, co, lo))) H → va_S A s.heap H locs → ∀ (ls : Array Slot), lv_has ls 6 [(0, .ref (F 24)), (2, .int (nI q)), (3, .ref (F a)), (4, .int (nI (2 ^ q))), (5, .int (nI k))] → W p l e ({ frames := 3, cells := 0, slots := 0, locals := 81 }) s m ([.ref (F 24), .int (nI a), .int (nI q)] : List Value).toArray below meth c H locs 0 0 (zQ below D A F 30 [.ref (F 24), .int (nI a), .int (nI q)] s (zPC cL cR F (if zsok (P a) (n0 a) q (2 ^ q + 1) = true then lN (2 ^ q + 1) else -9000000000000000003) P n0 (if zsok (P a) (n0 a) q (2 ^ q + 1) = true then zspv (P a) (n0 a) q pv else pv))) (F0 m 31 ls []) := by
      intro n
      induction n with
      | zero =>
        intro k hk hg hn
        exact absurd hn (Nat.not_lt_zero _)
      | succ n ih31 =>
        intro k hk hg hn H locs hP hS ls hl
        refine lv_iload hx hb dX2_sample_31 (lv_at hl 4 rfl) ?_
        refine lv_iload hx hb dX2_sample_33 (lv_at hl 3 rfl) ?_
        refine zi_gt (tgt := 69) hx hb dX2_sample_35 (by decide) (by omega) (by omega) (fun c2 => ?_) (fun c2 => ?_)
        ·
          have hok : zsok (T a) (top a) q (2 ^ q + 1) = true := by rw [show 2 ^ q + 1 = k by omega]; exact hg
          refine lv_iconst (v := nI 0) hx hb dX2_sample_69 (by decide +kernel) ?_
          refine lv_istore (lv' := [(5, .int (nI 0)), (0, .ref (F 24)), (2, .int (nI q)), (3, .ref (F a)), (4, .int (nI (2 ^ q)))]) hx hb dX2_sample_70 hl (by decide) rfl (fun ls hl => ?_)
          have L72 : ∀ (n : Nat) (k2 : Nat) (g : Nat → Int64) (hk2 : k2 ≤ 2 ^ q + 1) (hg2 : ∀ j, j < 17 → g j = if j < k2 then zsv (T a) (top a) q j else pv j) (hn : 2 ^ q + 1 - k2 < n) (H : Heap) (locs : List Loc), va_P D vwCl (zq_wd F 30 (zCE cL cR F T top (g, rt, en, w, co, lo))) H → va_S A s.heap H locs → ∀ (ls : Array Slot), lv_has ls 6 [(0, .ref (F 24)), (2, .int (nI q)), (3, .ref (F a)), (4, .int (nI (2 ^ q))), (5, .int (nI k2))] → W p l e ({ frames := 3, cells := 0, slots := 0, locals := 81 }) s m ([.ref (F 24), .int (nI a), .int (nI q)] : List Value).toArray below meth c H locs 0 0 (zQ below D A F 30 [.ref (F 24), .int (nI a), .int (nI q)] s (zPC cL cR F (if zsok (P a) (n0 a) q (2 ^ q + 1) = true then lN (2 ^ q + 1) else -9000000000000000003) P n0 (if zsok (P a) (n0 a) q (2 ^ q + 1) = true then zspv (P a) (n0 a) q pv else pv))) (F0 m 72 ls []) := by
            intro n
            induction n with
            | zero =>
              intro k2 g hk2 hg2 hn
              exact absurd hn (Nat.not_lt_zero _)
            | succ n ih72 =>
              intro k2 g hk2 hg2 hn H locs hP hS ls hl
              refine lv_iload hx hb dX2_sample_72 (lv_at hl 4 rfl) ?_
              refine lv_iload hx hb dX2_sample_74 (lv_at hl 3 rfl) ?_
              refine zi_gt (tgt := 113) hx hb dX2_sample_76 (by decide) (by omega) (by omega) (fun c3 => ?_) (fun c3 => ?_)
              ·
                refine lv_iload hx hb dX2_sample_113 (lv_at hl 3 rfl) ?_
                refine lv_iconst (v := nI 1) hx hb dX2_sample_115 (by decide +kernel) ?_
                refine ziadd (d := ((2 ^ q) + 1)) hx hb (by omega) dX2_sample_116 ?_
                refine zi2l hx hb (by omega) dX2_sample_117 ?_
                exact zretL hx hb hr hlk hS hP dX2_sample_118 ⟨_, _, _, rfl, by rw [← hTa, ← hNa, if_pos hok], hTP, fun j hj => by rw [← hTa, ← hNa, if_pos hok]; unfold zspv; show g j = _; rw [hg2 j hj]; by_cases h : j < k2; (rw [if_pos h, if_pos (by omega)]); (rw [if_neg h, if_neg (by omega)])⟩
              ·
                refine lv_iload hx hb dX2_sample_79 (lv_at hl 4 rfl) ?_
                refine lv_aload_n hx hb dX2_sample_81 rfl (lv_at hl 0 rfl) ?_
                refine zget (q := 24) (k := 1) (v := .ref (F 26)) hx hb hts hinX2 hown hAm hP (by omega) (zC_o) rfl (by decide) (hts (.fieldLink RX2 15 "CosineSeries" "pointValues" "[J") (by decide +kernel)) (by first | rfl | simp [va_up, *]) dX2_sample_82 ?_
                refine zalen (N := 17) (q := 26) (t0 := 0) hx hb hAm hP (by omega) (zC_pv) rfl rfl dX2_sample_85 ?_
                refine zi_ge (tgt := 113) hx hb dX2_sample_86 (by decide) (by omega) (by omega) (fun c4 => ?_) (fun c4 => ?_)
                ·
                  exfalso; omega
                ·
                  refine lv_aload_n hx hb dX2_sample_89 rfl (lv_at hl 0 rfl) ?_
                  refine zget (q := 24) (k := 1) (v := .ref (F 26)) hx hb hts hinX2 hown hAm hP (by omega) (zC_o) rfl (by decide) (hts (.fieldLink RX2 15 "CosineSeries" "pointValues" "[J") (by decide +kernel)) (by first | rfl | simp [va_up, *]) dX2_sample_90 ?_
                  refine lv_iload hx hb dX2_sample_93 (lv_at hl 4 rfl) ?_
                  refine lv_aload_n hx hb dX2_sample_95 rfl (lv_at hl 2 rfl) ?_
                  refine lv_iload_n hx hb dX2_sample_96 rfl (lv_at hl 1 rfl) ?_
                  refine lv_iload hx hb dX2_sample_97 (lv_at hl 4 rfl) ?_
                  refine zcallS (As := [.int (nI q), .int (nI k2)]) (rest := [.ref (F a), .int (nI k2), .ref (F 26)]) (k := 2) hx hb hml hown hts (kX2_pointAt l D cL cI cR A F 30 (zCE cL cR F T top (g, rt, en, w, co, lo)) q k2 hq (by omega)) gX2_sample_X2_pointAt rfl (by decide +kernel) ⟨Nat.le_of_ble_eq_true rfl, Nat.le_of_ble_eq_true rfl⟩ hAm hP hS rfl hl.1 rfl (Nat.le_of_ble_eq_true rfl) dX2_sample_99 ⟨Nat.zero_le _, Nat.zero_le _⟩ (zkn (fun H locs hP hS => ?_))
                  refine W.eq (g2 := F0 m 102 ls [.int (zcosv (k2 * 2 ^ (4 - q))), .ref (F a), .int (nI k2), .ref (F 26)]) rfl ?_
                  refine lv_i2l (v := (zcosv (k2 * 2 ^ (4 - q))).toInt64) hx hb dX2_sample_102 rfl ?_
                  refine zcallV (As := [.long ((zcosv (k2 * 2 ^ (4 - q))).toInt64)]) (rest := [.int (nI k2), .ref (F 26)]) (q := a) (k := 1) hx hb hml hown hts (kX1_valueAt l D cL cI cR A F hF T top (g, rt, en, w, co, lo) a (by omega) ((zcosv (k2 * 2 ^ (4 - q))).toInt64) (T a) (by first | rfl | simp [va_up, *]) (top a) (by first | rfl | simp [va_up, *]) (by omega)) gX2_sample_X1_valueAt rfl (by decide +kernel) ⟨Nat.le_of_ble_eq_true rfl, Nat.le_of_ble_eq_true rfl⟩ rfl (by omega) (zC_s (by omega)) rfl rfl hAm hP hS rfl hl.1 rfl (Nat.le_of_ble_eq_true rfl) dX2_sample_103 ⟨Nat.zero_le _, Nat.zero_le _⟩ (zkn (fun H locs hP hS => ?_))
                  refine W.eq (g2 := F0 m 106 ls [.long (zval (T a) (top a) ((zcosv (k2 * 2 ^ (4 - q))).toInt64)), .int (nI k2), .ref (F 26)]) rfl ?_
                  refine zlast (q := 26) (k := k2) (E' := (zCE cL cR F T top ((vp_updL g k2 (zval (T a) (top a) ((zcosv (k2 * 2 ^ (4 - q))).toInt64))), rt, en, w, co, lo))) hx hb hAm hP hF hS (by omega) (zC_pv) (by omega) (by decide) dX2_sample_106 (zC_upv) (fun H locs hP hS => ?_)
                  refine lv_iinc (v := (nI (k2 + 1))) (lv' := [(5, .int (nI (k2 + 1))), (0, .ref (F 24)), (2, .int (nI q)), (3, .ref (F a)), (4, .int (nI (2 ^ q)))]) hx hb dX2_sample_107 hl (k := 4) rfl (zinc (by omega)) (by decide) rfl (fun ls hl => ?_)
                  refine lv_goto (tgt := 72) hx hb dX2_sample_110 (by decide) ?_
                  exact ih72 (k2 + 1) _ (by omega) (fun j hj => by unfold vp_updL; split; (rename_i h; rw [h, if_pos (by omega)]; rfl); (rw [hg2 j hj]; by_cases h : j < k2; (rw [if_pos h, if_pos (by omega)]); (rw [if_neg h, if_neg (by omega)]))) (by omega) H _ hP hS ls (lv_sub hl [1, 2, 3, 4, 0] rfl)
          exact L72 _ 0 _ (by omega) (fun j _ => by rw [if_neg (by omega)]) (Nat.lt_succ_self _) H _ hP hS ls (lv_sub hl [1, 2, 3, 4, 0] rfl)
        ·
          refine lv_aload_n hx hb dX2_sample_38 rfl (lv_at hl 2 rfl) ?_
          refine lv_iload_n hx hb dX2_sample_39 rfl (lv_at hl 1 rfl) ?_
          refine lv_iload hx hb dX2_sample_40 (lv_at hl 4 rfl) ?_
          refine zcallS (As := [.int (nI q), .int (nI k)]) (rest := [.ref (F a)]) (k := 2) hx hb hml hown hts (kX2_pointAt l D cL cI cR A F 30 (zCE cL cR F T top (pv, rt, en, w, co, lo)) q k hq (by omega)) gX2_sample_X2_pointAt rfl (by decide +kernel) ⟨Nat.le_of_ble_eq_true rfl, Nat.le_of_ble_eq_true rfl⟩ hAm hP hS rfl hl.1 rfl (Nat.le_of_ble_eq_true rfl) dX2_sample_42 ⟨Nat.zero_le _, Nat.zero_le _⟩ (zkn (fun H locs hP hS => ?_))
          refine W.eq (g2 := F0 m 45 ls [.int (zcosv (k * 2 ^ (4 - q))), .ref (F a)]) rfl ?_
          refine lv_i2l (v := (zcosv (k * 2 ^ (4 - q))).toInt64) hx hb dX2_sample_45 rfl ?_
          refine zcallV (As := [.long ((zcosv (k * 2 ^ (4 - q))).toInt64)]) (rest := []) (q := a) (k := 1) hx hb hml hown hts (kX1_valueAt l D cL cI cR A F hF T top (pv, rt, en, w, co, lo) a (by omega) ((zcosv (k * 2 ^ (4 - q))).toInt64) (T a) (by first | rfl | simp [va_up, *]) (top a) (by first | rfl | simp [va_up, *]) (by omega)) gX2_sample_X1_valueAt rfl (by decide +kernel) ⟨Nat.le_of_ble_eq_true rfl, Nat.le_of_ble_eq_true rfl⟩ rfl (by omega) (zC_s (by omega)) rfl rfl hAm hP hS rfl hl.1 rfl (Nat.le_of_ble_eq_true rfl) dX2_sample_46 ⟨Nat.zero_le _, Nat.zero_le _⟩ (zkn (fun H locs hP hS => ?_))
          refine W.eq (g2 := F0 m 49 ls [.long (zval (T a) (top a) ((zcosv (k * 2 ^ (4 - q))).toInt64))]) rfl ?_
          refine va_mabs_long hx hb (hml.trans hl.1.symm) hown (hts (.methodLink RX2 125 Lib.MathLoose.abs_long.x) (by decide +kernel)) (hts (.static Lib.MathLoose.abs_long.x) (by decide +kernel)) (hts (.initialized "java/lang/Math") (by decide +kernel)) (hts (.code Lib.MathLoose.abs_long.x Lib.MathLoose.abs_long.code 2 (some .long)) (by decide +kernel)) (Nat.le_of_ble_eq_true rfl) (Nat.le_of_ble_eq_true rfl) (Nat.zero_le _) (Nat.zero_le _) dX2_sample_49 ?_
          refine W.eq (g2 := F0 m 52 ls [.long (zabs (zval (T a) (top a) ((zcosv (k * 2 ^ (4 - q))).toInt64)))]) rfl ?_
          refine lv_ldc2 hx hb hown (hts (.constantLong RX2 145 (134217728)) (by decide +kernel)) dX2_sample_52 ?_
          refine zl_le (tgt := 63) hx hb dX2_sample_55 dX2_sample_56 (by decide) (fun c5 => ?_) (fun c5 => ?_)
          ·
            have c2 := c5
            refine lv_iinc (v := (nI (k + 1))) (lv' := [(5, .int (nI (k + 1))), (0, .ref (F 24)), (2, .int (nI q)), (3, .ref (F a)), (4, .int (nI (2 ^ q)))]) hx hb dX2_sample_63 hl (k := 4) rfl (zinc (by omega)) (by decide) rfl (fun ls hl => ?_)
            refine lv_goto (tgt := 31) hx hb dX2_sample_66 (by decide) ?_
            exact ih31 (k + 1) (by omega) (by unfold zsok; rw [hg]; exact decide_eq_true c2) (by omega) H _ hP hS ls (lv_sub hl [1, 2, 3, 4, 0] rfl)
          ·
            refine lv_ldc2 hx hb hown (hts (.constantLong RX2 147 (-9000000000000000003)) (by decide +kernel)) dX2_sample_59 ?_
            exact zretL hx hb hr hlk hS hP dX2_sample_62 ⟨_, _, _, rfl, by rw [← hTa, ← hNa, if_neg (by rw [zsok_bad (by exact c5) _ (by omega)]; decide)], hTP, fun j _ => by rw [← hTa, ← hNa, if_neg (by rw [zsok_bad (by exact c5) _ (by omega)]; decide)]⟩
    exact L31 _ 0 (by omega) rfl (Nat.lt_succ_self _) H _ hP hS ls (lv_sub hl [3, 5, 2, 1, 0] rfl)
  ·
    exfalso; omega

set_option maxHeartbeats 4000000 in
set_option maxRecDepth 100000 in
theorem kX2_misfit (l : Launch) (D : va_G) (cL cI cR : ClassId) (A : Nat → Prop) (F : Nat → Nat) (hF : zq_F A F 30) (T : Nat → Nat → Int64) (top : Nat → Nat) (pv rt en : Nat → Int64) (w co lo : Nat) (P : Nat → Nat → Int64) (n0 : Nat → Nat) (hTP : ∀ i, i < 8 → T i = P i ∧ top i = n0 i) (h24 : ∀ i, i < 8 → n0 i ≤ 24) (a : Nat) (ha : a ≤ 7) (q : Nat) (hq : q ≤ 4) : zCt l yX2_misfit wsX2_misfit 3 81 D cL cI cR A F 30 (zCE cL cR F T top (pv, rt, en, w, co, lo)) [.ref (F 24), .int (nI a), .int (nI q)] (zPC cL cR F (zmis (P a) (n0 a) q pv (2 ^ q + 1)) P n0 pv) := by
  refine zStart (cc := cX2_misfit) (maxL := 8) (ret := (some .long)) (by decide +kernel) rfl (Nat.le_of_ble_eq_true rfl) ?_
  intro p e s m below meth c hx hb hr hml hlk hown hts hAm H hP hS ls hl
  have hown : s.vm.findClass RX2 = some m.cls := hown
  have hl : lv_has ls 8 [(0, .ref (F 24)), (1, .int (nI a)), (2, .int (nI q))] := hl
  have hinX2 : ∀ w ∈ u_ws RX2 TX2 7, w ∈ wsX2_misfit := by decide +kernel
  obtain ⟨hTa, hNa⟩ := hTP a (by omega)
  have h24a : top a ≤ 24 := by rw [hNa]; exact h24 a (by omega)
  have h2q := zp2 hq
  refine lv_aload_n hx hb dX2_misfit_0 rfl (lv_at hl 0 rfl) ?_
  refine lv_iload_n hx hb dX2_misfit_1 rfl (lv_at hl 1 rfl) ?_
  refine zcallV (As := [.int (nI a)]) (rest := []) (q := 24) (k := 1) hx hb hml hown hts (kX2_find_in l D cL cI cR A F hF T top (pv, rt, en, w, co, lo) (nI a) a (by omega) rfl) gX2_misfit_X2_find rfl (by decide +kernel) ⟨Nat.le_of_ble_eq_true rfl, Nat.le_of_ble_eq_true rfl⟩ rfl (by omega) (zC_o) rfl rfl hAm hP hS rfl hl.1 rfl (Nat.le_of_ble_eq_true rfl) dX2_misfit_2 ⟨Nat.zero_le _, Nat.zero_le _⟩ (zkn (fun H locs hP hS => ?_))
  refine W.eq (g2 := F0 m 5 ls [.ref (F a)]) rfl ?_
  refine lv_astore_n (lv' := [(3, .ref (F a)), (0, .ref (F 24)), (1, .int (nI a)), (2, .int (nI q))]) hx hb dX2_misfit_5 rfl hl (by decide) rfl (fun ls hl => ?_)
  refine lv_aload_n hx hb dX2_misfit_6 rfl (lv_at hl 0 rfl) ?_
  refine lv_ifnull hx hb dX2_misfit_7 ?_
  refine lv_iload_n hx hb dX2_misfit_10 rfl (lv_at hl 3 rfl) ?_
  refine lv_iconst (v := nI 0) hx hb dX2_misfit_11 (by decide +kernel) ?_
  refine lv_iconst (v := nI 4) hx hb dX2_misfit_12 (by decide +kernel) ?_
  refine zcallS (As := [.int (nI q), .int (nI 0), .int (nI 4)]) (rest := []) (k := 3) hx hb hml hown hts (kX2_isOutside l D cL cI cR A F 30 (zCE cL cR F T top (pv, rt, en, w, co, lo)) (nI q) (nI 0) (nI 4) 0 (zo0 rfl rfl (zin_nI (a := 4) (by omega) (by decide)))) gX2_misfit_X2_isOutside rfl (by decide +kernel) ⟨Nat.le_of_ble_eq_true rfl, Nat.le_of_ble_eq_true rfl⟩ hAm hP hS rfl hl.1 rfl (Nat.le_of_ble_eq_true rfl) dX2_misfit_13 ⟨Nat.zero_le _, Nat.zero_le _⟩ (zkn (fun H locs hP hS => ?_))
  refine W.eq (g2 := F0 m 16 ls [.int (nI 0)]) rfl ?_
  refine zf_eq (tgt := 23) hx hb dX2_misfit_16 (by decide) (by omega) (fun c1 => ?_) (fun c1 => ?_)
  ·
    refine lv_iconst (v := nI 1) hx hb dX2_misfit_23 (by decide +kernel) ?_
    refine lv_iload_n hx hb dX2_misfit_24 rfl (lv_at hl 3 rfl) ?_
    refine lv_ishl hx hb dX2_misfit_25 ?_
    refine W.eq (g2 := F0 m 26 ls [.int (nI (2 ^ q))]) (by rw [zsh1 hq]) ?_
    refine lv_istore (lv' := [(4, .int (nI (2 ^ q))), (3, .ref (F a)), (0, .ref (F 24)), (1, .int (nI a)), (2, .int (nI q))]) hx hb dX2_misfit_26 hl (by decide) rfl (fun ls hl => ?_)
    refine lv_lconst (v := (0 : Int64)) hx hb dX2_misfit_28 (by decide +kernel) ?_
    refine lv_lstore (lv' := [(5, .long (0 : Int64)), (4, .int (nI (2 ^ q))), (3, .ref (F a)), (0, .ref (F 24)), (1, .int (nI a)), (2, .int (nI q))]) hx hb dX2_misfit_29 hl (by decide) rfl (fun ls hl => ?_)
    refine lv_iconst (v := nI 0) hx hb dX2_misfit_31 (by decide +kernel) ?_
    refine lv_istore (lv' := [(7, .int (nI 0)), (5, .long (0 : Int64)), (4, .int (nI (2 ^ q))), (3, .ref (F a)), (0, .ref (F 24)), (1, .int (nI a)), (2, .int (nI q))]) hx hb dX2_misfit_32 hl (by decide) rfl (fun ls hl => ?_)
    have L34 : ∀ (n : Nat) (k : Nat) (u : Int64) (hk : k ≤ 2 ^ q + 1) (hu : u = zmis (T a) (top a) q pv k) (hn : 2 ^ q + 1 - k < n) (H : Heap) (locs : List Loc), va_P D vwCl (zq_wd F 30 (zCE cL cR F T top (pv, rt, en, w, co, lo))) H → va_S A s.heap H locs → ∀ (ls : Array Slot), lv_has ls 8 [(0, .ref (F 24)), (2, .int (nI q)), (3, .ref (F a)), (4, .int (nI (2 ^ q))), (5, .long u), (7, .int (nI k))] → W p l e ({ frames := 3, cells := 0, slots := 0, locals := 81 }) s m ([.ref (F 24), .int (nI a), .int (nI q)] : List Value).toArray below meth c H locs 0 0 (zQ below D A F 30 [.ref (F 24), .int (nI a), .int (nI q)] s (zPC cL cR F (zmis (P a) (n0 a) q pv (2 ^ q + 1)) P n0 pv)) (F0 m 34 ls []) := by
      intro n
      induction n with
      | zero =>
        intro k u hk hu hn
        exact absurd hn (Nat.not_lt_zero _)
      | succ n ih34 =>
        intro k u hk hu hn H locs hP hS ls hl
        refine lv_iload hx hb dX2_misfit_34 (lv_at hl 5 rfl) ?_
        refine lv_iload hx hb dX2_misfit_36 (lv_at hl 3 rfl) ?_
        refine zi_gt (tgt := 86) hx hb dX2_misfit_38 (by decide) (by omega) (by omega) (fun c2 => ?_) (fun c2 => ?_)
        ·
          refine lv_lload hx hb dX2_misfit_86 (lv_at hl 4 rfl) ?_
          exact zretL hx hb hr hlk hS hP dX2_misfit_88 ⟨_, _, _, rfl, by rw [hu, show k = 2 ^ q + 1 by omega, hTa, hNa], hTP, fun _ _ => rfl⟩
        ·
          refine lv_iload hx hb dX2_misfit_41 (lv_at hl 5 rfl) ?_
          refine lv_aload_n hx hb dX2_misfit_43 rfl (lv_at hl 0 rfl) ?_
          refine zget (q := 24) (k := 1) (v := .ref (F 26)) hx hb hts hinX2 hown hAm hP (by omega) (zC_o) rfl (by decide) (hts (.fieldLink RX2 15 "CosineSeries" "pointValues" "[J") (by decide +kernel)) (by first | rfl | simp [va_up, *]) dX2_misfit_44 ?_
          refine zalen (N := 17) (q := 26) (t0 := 0) hx hb hAm hP (by omega) (zC_pv) rfl rfl dX2_misfit_47 ?_
          refine zi_ge (tgt := 86) hx hb dX2_misfit_48 (by decide) (by omega) (by omega) (fun c3 => ?_) (fun c3 => ?_)
          ·
            exfalso; omega
          ·
            refine lv_lload hx hb dX2_misfit_51 (lv_at hl 4 rfl) ?_
            refine lv_aload_n hx hb dX2_misfit_53 rfl (lv_at hl 2 rfl) ?_
            refine lv_iload_n hx hb dX2_misfit_54 rfl (lv_at hl 1 rfl) ?_
            refine lv_iload hx hb dX2_misfit_55 (lv_at hl 5 rfl) ?_
            refine zcallS (As := [.int (nI q), .int (nI k)]) (rest := [.ref (F a), .long u]) (k := 2) hx hb hml hown hts (kX2_pointAt l D cL cI cR A F 30 (zCE cL cR F T top (pv, rt, en, w, co, lo)) q k hq (by omega)) gX2_misfit_X2_pointAt rfl (by decide +kernel) ⟨Nat.le_of_ble_eq_true rfl, Nat.le_of_ble_eq_true rfl⟩ hAm hP hS rfl hl.1 rfl (Nat.le_of_ble_eq_true rfl) dX2_misfit_57 ⟨Nat.zero_le _, Nat.zero_le _⟩ (zkn (fun H locs hP hS => ?_))
            refine W.eq (g2 := F0 m 60 ls [.int (zcosv (k * 2 ^ (4 - q))), .ref (F a), .long u]) rfl ?_
            refine lv_i2l (v := (zcosv (k * 2 ^ (4 - q))).toInt64) hx hb dX2_misfit_60 rfl ?_
            refine zcallV (As := [.long ((zcosv (k * 2 ^ (4 - q))).toInt64)]) (rest := [.long u]) (q := a) (k := 1) hx hb hml hown hts (kX1_valueAt l D cL cI cR A F hF T top (pv, rt, en, w, co, lo) a (by omega) ((zcosv (k * 2 ^ (4 - q))).toInt64) (T a) (by first | rfl | simp [va_up, *]) (top a) (by first | rfl | simp [va_up, *]) (by omega)) gX2_misfit_X1_valueAt rfl (by decide +kernel) ⟨Nat.le_of_ble_eq_true rfl, Nat.le_of_ble_eq_true rfl⟩ rfl (by omega) (zC_s (by omega)) rfl rfl hAm hP hS rfl hl.1 rfl (Nat.le_of_ble_eq_true rfl) dX2_misfit_61 ⟨Nat.zero_le _, Nat.zero_le _⟩ (zkn (fun H locs hP hS => ?_))
            refine W.eq (g2 := F0 m 64 ls [.long (zval (T a) (top a) ((zcosv (k * 2 ^ (4 - q))).toInt64)), .long u]) rfl ?_
            refine lv_aload_n hx hb dX2_misfit_64 rfl (lv_at hl 0 rfl) ?_
            refine zget (q := 24) (k := 1) (v := .ref (F 26)) hx hb hts hinX2 hown hAm hP (by omega) (zC_o) rfl (by decide) (hts (.fieldLink RX2 15 "CosineSeries" "pointValues" "[J") (by decide +kernel)) (by first | rfl | simp [va_up, *]) dX2_misfit_65 ?_
            refine lv_iload hx hb dX2_misfit_68 (lv_at hl 5 rfl) ?_
            refine zlald (q := 26) (k := k) (v := (pv k)) hx hb hAm hP (by omega) (zC_pv) (by omega) (by decide) (by first | rfl | simp [va_up, *]) dX2_misfit_70 ?_
            refine lv_lsub hx hb dX2_misfit_71 ?_
            refine va_mabs_long hx hb (hml.trans hl.1.symm) hown (hts (.methodLink RX2 125 Lib.MathLoose.abs_long.x) (by decide +kernel)) (hts (.static Lib.MathLoose.abs_long.x) (by decide +kernel)) (hts (.initialized "java/lang/Math") (by decide +kernel)) (hts (.code Lib.MathLoose.abs_long.x Lib.MathLoose.abs_long.code 2 (some .long)) (by decide +kernel)) (Nat.le_of_ble_eq_true rfl) (Nat.le_of_ble_eq_true rfl) (Nat.zero_le _) (Nat.zero_le _) dX2_misfit_72 ?_
            refine W.eq (g2 := F0 m 75 ls [.long (zabs ((zval (T a) (top a) ((zcosv (k * 2 ^ (4 - q))).toInt64)) - (pv k))), .long u]) rfl ?_
            refine va_mmax_long hx hb (hml.trans hl.1.symm) hown (hts (.methodLink RX2 149 Lib.MathLoose.max_long.x) (by decide +kernel)) (hts (.static Lib.MathLoose.max_long.x) (by decide +kernel)) (hts (.initialized "java/lang/Math") (by decide +kernel)) (hts (.code Lib.MathLoose.max_long.x Lib.MathLoose.max_long.code 4 (some .long)) (by decide +kernel)) (Nat.le_of_ble_eq_true rfl) (Nat.le_of_ble_eq_true rfl) (Nat.zero_le _) (Nat.zero_le _) dX2_misfit_75 ?_
            refine W.eq (g2 := F0 m 78 ls [.long (zmax u (zabs ((zval (T a) (top a) ((zcosv (k * 2 ^ (4 - q))).toInt64)) - (pv k))))]) rfl ?_
            refine lv_lstore (lv' := [(5, .long (zmax u (zabs ((zval (T a) (top a) ((zcosv (k * 2 ^ (4 - q))).toInt64)) - (pv k))))), (0, .ref (F 24)), (2, .int (nI q)), (3, .ref (F a)), (4, .int (nI (2 ^ q))), (7, .int (nI k))]) hx hb dX2_misfit_78 hl (by decide) rfl (fun ls hl => ?_)
            refine lv_iinc (v := (nI (k + 1))) (lv' := [(7, .int (nI (k + 1))), (5, .long (zmax u (zabs ((zval (T a) (top a) ((zcosv (k * 2 ^ (4 - q))).toInt64)) - (pv k))))), (0, .ref (F 24)), (2, .int (nI q)), (3, .ref (F a)), (4, .int (nI (2 ^ q)))]) hx hb dX2_misfit_80 hl (k := 5) rfl (zinc (by omega)) (by decide) rfl (fun ls hl => ?_)
            refine lv_goto (tgt := 34) hx hb dX2_misfit_83 (by decide) ?_
            exact ih34 (k + 1) (zmax u (zabs ((zval (T a) (top a) ((zcosv (k * 2 ^ (4 - q))).toInt64)) - (pv k)))) (by omega) (by rw [hu]; rfl) (by omega) H _ hP hS ls (lv_sub hl [2, 3, 4, 5, 1, 0] rfl)
    exact L34 _ 0 0 (by omega) rfl (Nat.lt_succ_self _) H _ hP hS ls (lv_sub hl [4, 6, 3, 2, 1, 0] rfl)
  ·
    exfalso; omega

set_option maxHeartbeats 4000000 in
set_option maxRecDepth 100000 in
theorem kX2_root (l : Launch) (D : va_G) (cL cI cR : ClassId) (A : Nat → Prop) (F : Nat → Nat) (hF : zq_F A F 30) (T : Nat → Nat → Int64) (top : Nat → Nat) (pv rt en : Nat → Int64) (w co lo : Nat) (P : Nat → Nat → Int64) (n0 : Nat → Nat) (hTP : ∀ i, i < 8 → T i = P i ∧ top i = n0 i) (h24 : ∀ i, i < 8 → n0 i ≤ 24) (a : Nat) (ha : a ≤ 7) (ix : Int32) (hix : -1 ≤ ix.toInt) : zCt l yX2_root wsX2_root 5 139 D cL cI cR A F 30 (zCE cL cR F T top (pv, rt, en, w, co, lo)) [.ref (F 24), .int (nI a), .int ix] (zPC cL cR F (zrootr (zroots (P a) (n0 a)).1 ix) P n0 pv) := by
  refine zStart (cc := cX2_root) (maxL := 4) (ret := (some .long)) (by decide +kernel) rfl (Nat.le_of_ble_eq_true rfl) ?_
  intro p e s m below meth c hx hb hr hml hlk hown hts hAm H hP hS ls hl
  have hown : s.vm.findClass RX2 = some m.cls := hown
  have hl : lv_has ls 4 [(0, .ref (F 24)), (1, .int (nI a)), (2, .int ix)] := hl
  have hinX2 : ∀ w ∈ u_ws RX2 TX2 7, w ∈ wsX2_root := by decide +kernel
  obtain ⟨hTa, hNa⟩ := hTP a (by omega)
  have h24a : top a ≤ 24 := by rw [hNa]; exact h24 a (by omega)
  have h48r : top a ≤ 48 := by omega
  have hzl := zroots_len (T a) (top a)
  refine lv_aload_n hx hb dX2_root_0 rfl (lv_at hl 0 rfl) ?_
  refine lv_iload_n hx hb dX2_root_1 rfl (lv_at hl 1 rfl) ?_
  refine zcallV (As := [.int (nI a)]) (rest := []) (q := 24) (k := 1) hx hb hml hown hts (kX2_find_in l D cL cI cR A F hF T top (pv, rt, en, w, co, lo) (nI a) a (by omega) rfl) gX2_root_X2_find rfl (by decide +kernel) ⟨Nat.le_of_ble_eq_true rfl, Nat.le_of_ble_eq_true rfl⟩ rfl (by omega) (zC_o) rfl rfl hAm hP hS rfl hl.1 rfl (Nat.le_of_ble_eq_true rfl) dX2_root_2 ⟨Nat.zero_le _, Nat.zero_le _⟩ (zkn (fun H locs hP hS => ?_))
  refine W.eq (g2 := F0 m 5 ls [.ref (F a)]) rfl ?_
  refine lv_astore_n (lv' := [(3, .ref (F a)), (0, .ref (F 24)), (1, .int (nI a)), (2, .int ix)]) hx hb dX2_root_5 rfl hl (by decide) rfl (fun ls hl => ?_)
  refine lv_aload_n hx hb dX2_root_6 rfl (lv_at hl 0 rfl) ?_
  refine lv_ifnull hx hb dX2_root_7 ?_
  refine lv_iload_n hx hb dX2_root_10 rfl (lv_at hl 3 rfl) ?_
  refine lv_iconst (v := (-1 : Int32)) hx hb dX2_root_11 (by decide +kernel) ?_
  refine lv_icmp_ge (tgt := 19) hx hb dX2_root_12 (by decide) (fun c1 => ?_) (fun c1 => ?_)
  ·
    refine lv_aload_n hx hb dX2_root_19 rfl (lv_at hl 1 rfl) ?_
    refine zget (q := 24) (k := 2) (v := .ref (F 27)) hx hb hts hinX2 hown hAm hP (by omega) (zC_o) rfl (by decide) (hts (.fieldLink RX2 22 "CosineSeries" "search" "LCosineSeries$RootSearch;") (by decide +kernel)) (by first | rfl | simp [va_up, *]) dX2_root_20 ?_
    refine lv_aload_n hx hb dX2_root_23 rfl (lv_at hl 0 rfl) ?_
    refine zcallV (As := [.ref (F a)]) (rest := []) (q := 27) (k := 1) hx hb hml hown hts (kX0_run l D cL cI cR A F hF T top pv rt en w co lo a (by omega) h48r) gX2_root_X0_run rfl (by decide +kernel) ⟨Nat.le_of_ble_eq_true rfl, Nat.le_of_ble_eq_true rfl⟩ rfl (by omega) (zC_se) rfl rfl hAm hP hS rfl hl.1 rfl (Nat.le_of_ble_eq_true rfl) dX2_root_24 ⟨Nat.zero_le _, Nat.zero_le _⟩ (fun v9 E9 H locs hPQ9 hP _ hS => ?_)
    obtain ⟨rt2, en2, w2, rfl, rfl, hrt2⟩ := hPQ9
    skip
    refine W.eq (g2 := F0 m 27 ls []) rfl ?_
    refine lv_iload_n hx hb dX2_root_27 rfl (lv_at hl 3 rfl) ?_
    refine lv_iconst (v := (-1 : Int32)) hx hb dX2_root_28 (by decide +kernel) ?_
    refine lv_icmp_ne (tgt := 41) hx hb dX2_root_29 (by decide) (fun c2 => ?_) (fun c2 => ?_)
    ·
      have hne := c2
      refine lv_iload_n hx hb dX2_root_41 rfl (lv_at hl 3 rfl) ?_
      refine lv_aload_n hx hb dX2_root_42 rfl (lv_at hl 1 rfl) ?_
      refine zget (q := 24) (k := 2) (v := .ref (F 27)) hx hb hts hinX2 hown hAm hP (by omega) (zC_o) rfl (by decide) (hts (.fieldLink RX2 22 "CosineSeries" "search" "LCosineSeries$RootSearch;") (by decide +kernel)) (by first | rfl | simp [va_up, *]) dX2_root_43 ?_
      refine zcallV (As := []) (rest := [.int ix]) (q := 27) (k := 0) hx hb hml hown hts (kX0_count l D cL cI cR A F hF T top pv rt2 en2 w2 (zroots (T a) (top a)).1.length (zroots (T a) (top a)).2) gX2_root_X0_count rfl (by decide +kernel) ⟨Nat.le_of_ble_eq_true rfl, Nat.le_of_ble_eq_true rfl⟩ rfl (by omega) (zC_se) rfl rfl hAm hP hS rfl hl.1 rfl (Nat.le_of_ble_eq_true rfl) dX2_root_46 ⟨Nat.zero_le _, Nat.zero_le _⟩ (zkn (fun H locs hP hS => ?_))
      refine W.eq (g2 := F0 m 49 ls [.int (nI ((zroots (T a) (top a)).1.length)), .int ix]) rfl ?_
      refine lv_icmp_ge (tgt := 63) hx hb dX2_root_49 (by decide) (fun c3 => ?_) (fun c3 => ?_)
      ·
        refine lv_ldc2 hx hb hown (hts (.constantLong RX2 133 (-9000000000000000004)) (by decide +kernel)) dX2_root_63 ?_
        exact zretL hx hb hr hlk hS hP dX2_root_66 ⟨_, _, _, rfl, by rw [← hTa, ← hNa]; unfold zrootr; rw [if_neg hne, if_neg (by have h9 := c3; rw [Int32.le_iff_toInt_le, nI_toInt (by omega)] at h9; omega)], hTP, fun _ _ => rfl⟩
      ·
        obtain ⟨j, hj, hje⟩ := zidx hix hne c3 hzl.1
        have hl : lv_has ls 4 [(3, .ref (F a)), (0, .ref (F 24)), (1, .int (nI a)), (2, .int (nI j))] := by rw [hje] at hl; exact hl
        refine lv_aload_n hx hb dX2_root_52 rfl (lv_at hl 1 rfl) ?_
        refine zget (q := 24) (k := 2) (v := .ref (F 27)) hx hb hts hinX2 hown hAm hP (by omega) (zC_o) rfl (by decide) (hts (.fieldLink RX2 22 "CosineSeries" "search" "LCosineSeries$RootSearch;") (by decide +kernel)) (by first | rfl | simp [va_up, *]) dX2_root_53 ?_
        refine lv_iload_n hx hb dX2_root_56 rfl (lv_at hl 3 rfl) ?_
        refine zcallV (As := [.int (nI j)]) (rest := []) (q := 27) (k := 1) hx hb hml hown hts (kX0_found l D cL cI cR A F hF T top pv rt2 en2 w2 (zroots (T a) (top a)).1.length (zroots (T a) (top a)).2 j (by omega)) gX2_root_X0_found rfl (by decide +kernel) ⟨Nat.le_of_ble_eq_true rfl, Nat.le_of_ble_eq_true rfl⟩ rfl (by omega) (zC_se) rfl rfl hAm hP hS rfl hl.1 rfl (Nat.le_of_ble_eq_true rfl) dX2_root_57 ⟨Nat.zero_le _, Nat.zero_le _⟩ (zkn (fun H locs hP hS => ?_))
        refine W.eq (g2 := F0 m 60 ls [.long (rt2 j)]) rfl ?_
        refine lv_goto (tgt := 66) hx hb dX2_root_60 (by decide) ?_
        exact zretL hx hb hr hlk hS hP dX2_root_66 ⟨_, _, _, rfl, by rw [← hTa, ← hNa]; unfold zrootr; rw [if_neg hne, if_pos (by rw [hje, nI_toInt (by omega)]; omega), hje, nI_toInt (by omega), zrts_get _ hrt2 j hj]; rfl, hTP, fun _ _ => rfl⟩
    ·
      refine lv_aload_n hx hb dX2_root_32 rfl (lv_at hl 1 rfl) ?_
      refine zget (q := 24) (k := 2) (v := .ref (F 27)) hx hb hts hinX2 hown hAm hP (by omega) (zC_o) rfl (by decide) (hts (.fieldLink RX2 22 "CosineSeries" "search" "LCosineSeries$RootSearch;") (by decide +kernel)) (by first | rfl | simp [va_up, *]) dX2_root_33 ?_
      refine zcallV (As := []) (rest := []) (q := 27) (k := 0) hx hb hml hown hts (kX0_count l D cL cI cR A F hF T top pv rt2 en2 w2 (zroots (T a) (top a)).1.length (zroots (T a) (top a)).2) gX2_root_X0_count rfl (by decide +kernel) ⟨Nat.le_of_ble_eq_true rfl, Nat.le_of_ble_eq_true rfl⟩ rfl (by omega) (zC_se) rfl rfl hAm hP hS rfl hl.1 rfl (Nat.le_of_ble_eq_true rfl) dX2_root_36 ⟨Nat.zero_le _, Nat.zero_le _⟩ (zkn (fun H locs hP hS => ?_))
      refine W.eq (g2 := F0 m 39 ls [.int (nI ((zroots (T a) (top a)).1.length))]) rfl ?_
      refine zi2l hx hb (by omega) dX2_root_39 ?_
      exact zretL hx hb hr hlk hS hP dX2_root_40 ⟨_, _, _, rfl, by rw [← hTa, ← hNa]; unfold zrootr; rw [if_pos c2], hTP, fun _ _ => rfl⟩
  ·
    exact absurd (by rw [Int32.le_iff_toInt_le]; exact hix) c1

set_option maxHeartbeats 4000000 in
set_option maxRecDepth 100000 in
theorem kX2_greatest (l : Launch) (D : va_G) (cL cI cR : ClassId) (A : Nat → Prop) (F : Nat → Nat) (hF : zq_F A F 30) (T : Nat → Nat → Int64) (top : Nat → Nat) (pv rt en : Nat → Int64) (w co lo : Nat) (P : Nat → Nat → Int64) (n0 : Nat → Nat) (hTP : ∀ i, i < 8 → T i = P i ∧ top i = n0 i) (h24 : ∀ i, i < 8 → n0 i ≤ 24) (a : Nat) (ha : a ≤ 7) : zCt l yX2_greatest wsX2_greatest 5 139 D cL cI cR A F 30 (zCE cL cR F T top (pv, rt, en, w, co, lo)) [.ref (F 24), .int (nI a)] (zPC cL cR F (zgr (P a) (n0 a)) P n0 pv) := by
  refine zStart (cc := cX2_greatest) (maxL := 8) (ret := (some .long)) (by decide +kernel) rfl (Nat.le_of_ble_eq_true rfl) ?_
  intro p e s m below meth c hx hb hr hml hlk hown hts hAm H hP hS ls hl
  have hown : s.vm.findClass RX2 = some m.cls := hown
  have hl : lv_has ls 8 [(0, .ref (F 24)), (1, .int (nI a))] := hl
  have hinX2 : ∀ w ∈ u_ws RX2 TX2 7, w ∈ wsX2_greatest := by decide +kernel
  obtain ⟨hTa, hNa⟩ := hTP a (by omega)
  have h24a : top a ≤ 24 := by rw [hNa]; exact h24 a (by omega)
  obtain ⟨f2, hf2⟩ : ∃ f : Nat → Int64, f = zder (T a) (top a) := ⟨_, rfl⟩
  have h48g := ztop_le f2 48
  have h48r : va_up top 8 (ztop f2 48) 8 ≤ 48 := by rw [va_up_eq]; exact h48g
  have hzl := zroots_len f2 (ztop f2 48)
  refine lv_aload_n hx hb dX2_greatest_0 rfl (lv_at hl 0 rfl) ?_
  refine lv_iload_n hx hb dX2_greatest_1 rfl (lv_at hl 1 rfl) ?_
  refine zcallV (As := [.int (nI a)]) (rest := []) (q := 24) (k := 1) hx hb hml hown hts (kX2_find_in l D cL cI cR A F hF T top (pv, rt, en, w, co, lo) (nI a) a (by omega) rfl) gX2_greatest_X2_find rfl (by decide +kernel) ⟨Nat.le_of_ble_eq_true rfl, Nat.le_of_ble_eq_true rfl⟩ rfl (by omega) (zC_o) rfl rfl hAm hP hS rfl hl.1 rfl (Nat.le_of_ble_eq_true rfl) dX2_greatest_2 ⟨Nat.zero_le _, Nat.zero_le _⟩ (zkn (fun H locs hP hS => ?_))
  refine W.eq (g2 := F0 m 5 ls [.ref (F a)]) rfl ?_
  refine lv_astore_n (lv' := [(2, .ref (F a)), (0, .ref (F 24)), (1, .int (nI a))]) hx hb dX2_greatest_5 rfl hl (by decide) rfl (fun ls hl => ?_)
  refine lv_aload_n hx hb dX2_greatest_6 rfl (lv_at hl 0 rfl) ?_
  refine lv_ifnonnull (tgt := 14) hx hb dX2_greatest_7 (by decide) ?_
  refine lv_aload_n hx hb dX2_greatest_14 rfl (lv_at hl 1 rfl) ?_
  refine zget (q := 24) (k := 3) (v := .ref (F 8)) hx hb hts hinX2 hown hAm hP (by omega) (zC_o) rfl (by decide) (hts (.fieldLink RX2 27 "CosineSeries" "made" "LCosineSeries$Series;") (by decide +kernel)) (by first | rfl | simp [va_up, *]) dX2_greatest_15 ?_
  refine lv_aload_n hx hb dX2_greatest_18 rfl (lv_at hl 0 rfl) ?_
  refine zcallV (As := [.ref (F a)]) (rest := []) (q := 8) (k := 1) hx hb hml hown hts (kX1_becomeDerivative l D cL cI cR A F hF T top (pv, rt, en, w, co, lo) 8 (by omega) a (by omega) (by omega) h24a f2 hf2) gX2_greatest_X1_becomeDerivative rfl (by decide +kernel) ⟨Nat.le_of_ble_eq_true rfl, Nat.le_of_ble_eq_true rfl⟩ rfl (by omega) (zC_s (by omega)) rfl rfl hAm hP hS rfl hl.1 rfl (Nat.le_of_ble_eq_true rfl) dX2_greatest_19 ⟨Nat.zero_le _, Nat.zero_le _⟩ (zkn (fun H locs hP hS => ?_))
  refine W.eq (g2 := F0 m 22 ls []) rfl ?_
  refine lv_aload_n hx hb dX2_greatest_22 rfl (lv_at hl 1 rfl) ?_
  refine zget (q := 24) (k := 3) (v := .ref (F 8)) hx hb hts hinX2 hown hAm hP (by omega) (zC_o) rfl (by decide) (hts (.fieldLink RX2 27 "CosineSeries" "made" "LCosineSeries$Series;") (by decide +kernel)) (by first | rfl | simp [va_up, *]) dX2_greatest_23 ?_
  refine zcallV (As := []) (rest := []) (q := 8) (k := 0) hx hb hml hown hts (kX1_error l D cL cI cR A F hF (va_up T 8 f2) (va_up top 8 (ztop f2 48)) (pv, rt, en, w, co, lo) 8 (by omega) f2 (va_up_eq _ _ _) (ztop f2 48) (va_up_eq _ _ _) (by omega)) gX2_greatest_X1_error rfl (by decide +kernel) ⟨Nat.le_of_ble_eq_true rfl, Nat.le_of_ble_eq_true rfl⟩ rfl (by omega) (zC_s (by omega)) rfl rfl hAm hP hS rfl hl.1 rfl (Nat.le_of_ble_eq_true rfl) dX2_greatest_26 ⟨Nat.zero_le _, Nat.zero_le _⟩ (zkn (fun H locs hP hS => ?_))
  refine W.eq (g2 := F0 m 29 ls [.long (zke f2)]) rfl ?_
  refine lv_lstore_n (lv' := [(3, .long (zke f2)), (2, .ref (F a)), (0, .ref (F 24)), (1, .int (nI a))]) hx hb dX2_greatest_29 rfl hl (by decide) rfl (fun ls hl => ?_)
  refine lv_lload_n hx hb dX2_greatest_30 rfl (lv_at hl 0 rfl) ?_
  refine lv_lconst (v := (0 : Int64)) hx hb dX2_greatest_31 (by decide +kernel) ?_
  refine zl_eq (tgt := 38) hx hb dX2_greatest_32 dX2_greatest_33 (by decide) (fun c1 => ?_) (fun c1 => ?_)
  ·
    have hke := c1
    refine lv_aload_n hx hb dX2_greatest_38 rfl (lv_at hl 2 rfl) ?_
    refine zget (q := 24) (k := 2) (v := .ref (F 27)) hx hb hts hinX2 hown hAm hP (by omega) (zC_o) rfl (by decide) (hts (.fieldLink RX2 22 "CosineSeries" "search" "LCosineSeries$RootSearch;") (by decide +kernel)) (by first | rfl | simp [va_up, *]) dX2_greatest_39 ?_
    refine lv_aload_n hx hb dX2_greatest_42 rfl (lv_at hl 2 rfl) ?_
    refine zget (q := 24) (k := 3) (v := .ref (F 8)) hx hb hts hinX2 hown hAm hP (by omega) (zC_o) rfl (by decide) (hts (.fieldLink RX2 27 "CosineSeries" "made" "LCosineSeries$Series;") (by decide +kernel)) (by first | rfl | simp [va_up, *]) dX2_greatest_43 ?_
    refine zcallV (As := [.ref (F 8)]) (rest := []) (q := 27) (k := 1) hx hb hml hown hts (kX0_run l D cL cI cR A F hF (va_up T 8 f2) (va_up top 8 (ztop f2 48)) pv rt en w co lo 8 (by omega) h48r) gX2_greatest_X0_run rfl (by decide +kernel) ⟨Nat.le_of_ble_eq_true rfl, Nat.le_of_ble_eq_true rfl⟩ rfl (by omega) (zC_se) rfl rfl hAm hP hS rfl hl.1 rfl (Nat.le_of_ble_eq_true rfl) dX2_greatest_46 ⟨Nat.zero_le _, Nat.zero_le _⟩ (fun v9 E9 H locs hPQ9 hP _ hS => ?_)
    obtain ⟨rt2, en2, w2, rfl, rfl, hrt2⟩ := hPQ9
    rw [va_up_eq, va_up_eq] at hP hrt2
    refine W.eq (g2 := F0 m 49 ls []) rfl ?_
    refine lv_aload_n hx hb dX2_greatest_49 rfl (lv_at hl 1 rfl) ?_
    refine lv_ldc2 hx hb hown (hts (.constantLong RX2 168 (-1048576)) (by decide +kernel)) dX2_greatest_50 ?_
    refine zcallV (As := [.long (-1048576 : Int64)]) (rest := []) (q := a) (k := 1) hx hb hml hown hts (kX1_valueAt l D cL cI cR A F hF (va_up T 8 f2) (va_up top 8 (ztop f2 48)) (pv, rt2, en2, w2, (zroots f2 (ztop f2 48)).1.length, (zroots f2 (ztop f2 48)).2) a (by omega) (-1048576) (T a) (zup8 _ _ (by omega)) (top a) (zup8 _ _ (by omega)) (by omega)) gX2_greatest_X1_valueAt rfl (by decide +kernel) ⟨Nat.le_of_ble_eq_true rfl, Nat.le_of_ble_eq_true rfl⟩ rfl (by omega) (zC_s (by omega)) rfl rfl hAm hP hS rfl hl.1 rfl (Nat.le_of_ble_eq_true rfl) dX2_greatest_53 ⟨Nat.zero_le _, Nat.zero_le _⟩ (zkn (fun H locs hP hS => ?_))
    refine W.eq (g2 := F0 m 56 ls [.long (zval (T a) (top a) (-1048576))]) rfl ?_
    refine lv_aload_n hx hb dX2_greatest_56 rfl (lv_at hl 1 rfl) ?_
    refine lv_ldc2 hx hb hown (hts (.constantLong RX2 115 (1048576)) (by decide +kernel)) dX2_greatest_57 ?_
    refine zcallV (As := [.long (1048576 : Int64)]) (rest := [.long (zval (T a) (top a) (-1048576))]) (q := a) (k := 1) hx hb hml hown hts (kX1_valueAt l D cL cI cR A F hF (va_up T 8 f2) (va_up top 8 (ztop f2 48)) (pv, rt2, en2, w2, (zroots f2 (ztop f2 48)).1.length, (zroots f2 (ztop f2 48)).2) a (by omega) 1048576 (T a) (zup8 _ _ (by omega)) (top a) (zup8 _ _ (by omega)) (by omega)) gX2_greatest_X1_valueAt rfl (by decide +kernel) ⟨Nat.le_of_ble_eq_true rfl, Nat.le_of_ble_eq_true rfl⟩ rfl (by omega) (zC_s (by omega)) rfl rfl hAm hP hS rfl hl.1 rfl (Nat.le_of_ble_eq_true rfl) dX2_greatest_60 ⟨Nat.zero_le _, Nat.zero_le _⟩ (zkn (fun H locs hP hS => ?_))
    refine W.eq (g2 := F0 m 63 ls [.long (zval (T a) (top a) 1048576), .long (zval (T a) (top a) (-1048576))]) rfl ?_
    refine va_mmax_long hx hb (hml.trans hl.1.symm) hown (hts (.methodLink RX2 149 Lib.MathLoose.max_long.x) (by decide +kernel)) (hts (.static Lib.MathLoose.max_long.x) (by decide +kernel)) (hts (.initialized "java/lang/Math") (by decide +kernel)) (hts (.code Lib.MathLoose.max_long.x Lib.MathLoose.max_long.code 4 (some .long)) (by decide +kernel)) (Nat.le_of_ble_eq_true rfl) (Nat.le_of_ble_eq_true rfl) (Nat.zero_le _) (Nat.zero_le _) dX2_greatest_63 ?_
    refine W.eq (g2 := F0 m 66 ls [.long (zmax (zval (T a) (top a) (-1048576)) (zval (T a) (top a) 1048576))]) rfl ?_
    refine lv_lstore (lv' := [(5, .long (zmax (zval (T a) (top a) (-1048576)) (zval (T a) (top a) 1048576))), (3, .long (zke f2)), (2, .ref (F a)), (0, .ref (F 24)), (1, .int (nI a))]) hx hb dX2_greatest_66 hl (by decide) rfl (fun ls hl => ?_)
    refine lv_iconst (v := nI 0) hx hb dX2_greatest_68 (by decide +kernel) ?_
    refine lv_istore (lv' := [(7, .int (nI 0)), (5, .long (zmax (zval (T a) (top a) (-1048576)) (zval (T a) (top a) 1048576))), (3, .long (zke f2)), (2, .ref (F a)), (0, .ref (F 24)), (1, .int (nI a))]) hx hb dX2_greatest_69 hl (by decide) rfl (fun ls hl => ?_)
    have L71 : ∀ (n : Nat) (k : Nat) (u : Int64) (hk : k ≤ (zroots f2 (ztop f2 48)).1.length) (hu : u = zgm (T a) (top a) (zroots f2 (ztop f2 48)).1 k) (hn : (zroots f2 (ztop f2 48)).1.length - k < n) (H : Heap) (locs : List Loc), va_P D vwCl (zq_wd F 30 (zCE cL cR F (va_up T 8 f2) (va_up top 8 (ztop f2 48)) (pv, rt2, en2, w2, (zroots f2 (ztop f2 48)).1.length, (zroots f2 (ztop f2 48)).2))) H → va_S A s.heap H locs → ∀ (ls : Array Slot), lv_has ls 8 [(0, .ref (F 24)), (2, .ref (F a)), (5, .long u), (7, .int (nI k))] → W p l e ({ frames := 5, cells := 0, slots := 0, locals := 139 }) s m ([.ref (F 24), .int (nI a)] : List Value).toArray below meth c H locs 0 0 (zQ below D A F 30 [.ref (F 24), .int (nI a)] s (zPC cL cR F (zgr (P a) (n0 a)) P n0 pv)) (F0 m 71 ls []) := by
      intro n
      induction n with
      | zero =>
        intro k u hk hu hn
        exact absurd hn (Nat.not_lt_zero _)
      | succ n ih71 =>
        intro k u hk hu hn H locs hP hS ls hl
        refine lv_iload hx hb dX2_greatest_71 (lv_at hl 3 rfl) ?_
        refine lv_aload_n hx hb dX2_greatest_73 rfl (lv_at hl 0 rfl) ?_
        refine zget (q := 24) (k := 2) (v := .ref (F 27)) hx hb hts hinX2 hown hAm hP (by omega) (zC_o) rfl (by decide) (hts (.fieldLink RX2 22 "CosineSeries" "search" "LCosineSeries$RootSearch;") (by decide +kernel)) (by first | rfl | simp [va_up, *]) dX2_greatest_74 ?_
        refine zcallV (As := []) (rest := [.int (nI k)]) (q := 27) (k := 0) hx hb hml hown hts (kX0_count l D cL cI cR A F hF (va_up T 8 f2) (va_up top 8 (ztop f2 48)) pv rt2 en2 w2 (zroots f2 (ztop f2 48)).1.length (zroots f2 (ztop f2 48)).2) gX2_greatest_X0_count rfl (by decide +kernel) ⟨Nat.le_of_ble_eq_true rfl, Nat.le_of_ble_eq_true rfl⟩ rfl (by omega) (zC_se) rfl rfl hAm hP hS rfl hl.1 rfl (Nat.le_of_ble_eq_true rfl) dX2_greatest_77 ⟨Nat.zero_le _, Nat.zero_le _⟩ (zkn (fun H locs hP hS => ?_))
        refine W.eq (g2 := F0 m 80 ls [.int (nI ((zroots f2 (ztop f2 48)).1.length)), .int (nI k)]) rfl ?_
        refine zi_ge (tgt := 109) hx hb dX2_greatest_80 (by decide) (by omega) (by omega) (fun c2 => ?_) (fun c2 => ?_)
        ·
          refine lv_lload hx hb dX2_greatest_109 (lv_at hl 2 rfl) ?_
          exact zretL hx hb hr hlk hS hP dX2_greatest_111 ⟨_, _, _, rfl, by rw [← hTa, ← hNa]; unfold zgr; rw [← hf2, if_pos hke, hu, show k = (zroots f2 (ztop f2 48)).1.length by omega], zend_8 hTP, fun _ _ => rfl⟩
        ·
          refine lv_lload hx hb dX2_greatest_83 (lv_at hl 2 rfl) ?_
          refine lv_aload_n hx hb dX2_greatest_85 rfl (lv_at hl 1 rfl) ?_
          refine lv_aload_n hx hb dX2_greatest_86 rfl (lv_at hl 0 rfl) ?_
          refine zget (q := 24) (k := 2) (v := .ref (F 27)) hx hb hts hinX2 hown hAm hP (by omega) (zC_o) rfl (by decide) (hts (.fieldLink RX2 22 "CosineSeries" "search" "LCosineSeries$RootSearch;") (by decide +kernel)) (by first | rfl | simp [va_up, *]) dX2_greatest_87 ?_
          refine lv_iload hx hb dX2_greatest_90 (lv_at hl 3 rfl) ?_
          refine zcallV (As := [.int (nI k)]) (rest := [.ref (F a), .long u]) (q := 27) (k := 1) hx hb hml hown hts (kX0_found l D cL cI cR A F hF (va_up T 8 f2) (va_up top 8 (ztop f2 48)) pv rt2 en2 w2 (zroots f2 (ztop f2 48)).1.length (zroots f2 (ztop f2 48)).2 k (by omega)) gX2_greatest_X0_found rfl (by decide +kernel) ⟨Nat.le_of_ble_eq_true rfl, Nat.le_of_ble_eq_true rfl⟩ rfl (by omega) (zC_se) rfl rfl hAm hP hS rfl hl.1 rfl (Nat.le_of_ble_eq_true rfl) dX2_greatest_92 ⟨Nat.zero_le _, Nat.zero_le _⟩ (zkn (fun H locs hP hS => ?_))
          refine W.eq (g2 := F0 m 95 ls [.long (rt2 k), .ref (F a), .long u]) rfl ?_
          refine zcallV (As := [.long (rt2 k)]) (rest := [.long u]) (q := a) (k := 1) hx hb hml hown hts (kX1_valueAt l D cL cI cR A F hF (va_up T 8 f2) (va_up top 8 (ztop f2 48)) (pv, rt2, en2, w2, (zroots f2 (ztop f2 48)).1.length, (zroots f2 (ztop f2 48)).2) a (by omega) (rt2 k) (T a) (zup8 _ _ (by omega)) (top a) (zup8 _ _ (by omega)) (by omega)) gX2_greatest_X1_valueAt rfl (by decide +kernel) ⟨Nat.le_of_ble_eq_true rfl, Nat.le_of_ble_eq_true rfl⟩ rfl (by omega) (zC_s (by omega)) rfl rfl hAm hP hS rfl hl.1 rfl (Nat.le_of_ble_eq_true rfl) dX2_greatest_95 ⟨Nat.zero_le _, Nat.zero_le _⟩ (zkn (fun H locs hP hS => ?_))
          refine W.eq (g2 := F0 m 98 ls [.long (zval (T a) (top a) (rt2 k)), .long u]) rfl ?_
          refine va_mmax_long hx hb (hml.trans hl.1.symm) hown (hts (.methodLink RX2 149 Lib.MathLoose.max_long.x) (by decide +kernel)) (hts (.static Lib.MathLoose.max_long.x) (by decide +kernel)) (hts (.initialized "java/lang/Math") (by decide +kernel)) (hts (.code Lib.MathLoose.max_long.x Lib.MathLoose.max_long.code 4 (some .long)) (by decide +kernel)) (Nat.le_of_ble_eq_true rfl) (Nat.le_of_ble_eq_true rfl) (Nat.zero_le _) (Nat.zero_le _) dX2_greatest_98 ?_
          refine W.eq (g2 := F0 m 101 ls [.long (zmax u (zval (T a) (top a) (rt2 k)))]) rfl ?_
          refine lv_lstore (lv' := [(5, .long (zmax u (zval (T a) (top a) (rt2 k)))), (0, .ref (F 24)), (2, .ref (F a)), (7, .int (nI k))]) hx hb dX2_greatest_101 hl (by decide) rfl (fun ls hl => ?_)
          refine lv_iinc (v := (nI (k + 1))) (lv' := [(7, .int (nI (k + 1))), (5, .long (zmax u (zval (T a) (top a) (rt2 k)))), (0, .ref (F 24)), (2, .ref (F a))]) hx hb dX2_greatest_103 hl (k := 3) rfl (zinc (by omega)) (by decide) rfl (fun ls hl => ?_)
          refine lv_goto (tgt := 71) hx hb dX2_greatest_106 (by decide) ?_
          exact ih71 (k + 1) (zmax u (zval (T a) (top a) (rt2 k))) (by omega) (by rw [hu, zrts_get _ hrt2 k (by omega)]; rfl) (by omega) H _ hP hS ls (lv_sub hl [2, 3, 1, 0] rfl)
    exact L71 _ 0 _ (by omega) rfl (Nat.lt_succ_self _) H _ hP hS ls (lv_sub hl [4, 3, 1, 0] rfl)
  ·
    refine lv_lload_n hx hb dX2_greatest_36 rfl (lv_at hl 0 rfl) ?_
    exact zretL hx hb hr hlk hS hP dX2_greatest_37 ⟨_, _, _, rfl, by rw [← hTa, ← hNa]; unfold zgr; rw [← hf2, if_neg c1], zend_8 hTP, fun _ _ => rfl⟩

set_option maxHeartbeats 4000000 in
set_option maxRecDepth 100000 in
theorem kX2_compose (l : Launch) (D : va_G) (cL cI cR : ClassId) (A : Nat → Prop) (F : Nat → Nat) (hF : zq_F A F 30) (T : Nat → Nat → Int64) (top : Nat → Nat) (Z : zZC) (P : Nat → Nat → Int64) (n0 : Nat → Nat) (hTP : ∀ i, i < 8 → T i = P i ∧ top i = n0 i) (h24 : ∀ i, i < 8 → n0 i ≤ 24) (a : Nat) (ha : a ≤ 7) (b : Nat) (hb : b ≤ 7) (t : Nat) (ht : t ≤ 7) : zCt l yX2_compose wsX2_compose 5 130 D cL cI cR A F 30 (zCE cL cR F T top Z) [.ref (F 24), .int (nI a), .int (nI b), .int (nI t)] (zPC cL cR F (if (zcomp (P a) (P b) (n0 b) (n0 a) (fun _ => 0) 0 (fun _ => 0)).1 = 0 then zkr (zcomp (P a) (P b) (n0 b) (n0 a) (fun _ => 0) 0 (fun _ => 0)).2 else (zcomp (P a) (P b) (n0 b) (n0 a) (fun _ => 0) 0 (fun _ => 0)).1) (if (zcomp (P a) (P b) (n0 b) (n0 a) (fun _ => 0) 0 (fun _ => 0)).1 = 0 then zkP P t (zcomp (P a) (P b) (n0 b) (n0 a) (fun _ => 0) 0 (fun _ => 0)).2 else P) (if (zcomp (P a) (P b) (n0 b) (n0 a) (fun _ => 0) 0 (fun _ => 0)).1 = 0 then zkN n0 t (zcomp (P a) (P b) (n0 b) (n0 a) (fun _ => 0) 0 (fun _ => 0)).2 else n0) Z.1) := by
  refine zStart (cc := cX2_compose) (maxL := 9) (ret := (some .long)) (by decide +kernel) rfl (Nat.le_of_ble_eq_true rfl) ?_
  intro p e s m below meth c hx hb hr hml hlk hown hts hAm H hP hS ls hl
  have hown : s.vm.findClass RX2 = some m.cls := hown
  have hl : lv_has ls 9 [(0, .ref (F 24)), (1, .int (nI a)), (2, .int (nI b)), (3, .int (nI t))] := hl
  obtain ⟨hTa, hNa⟩ := hTP a (by omega)
  have h24a : top a ≤ 24 := by rw [hNa]; exact h24 a (by omega)
  obtain ⟨hTb, hNb⟩ := hTP b (by omega)
  have h24b : top b ≤ 24 := by rw [hNb]; exact h24 b (by omega)
  obtain ⟨hTt, hNt⟩ := hTP t (by omega)
  have h24t : top t ≤ 24 := by rw [hNt]; exact h24 t (by omega)
  obtain ⟨rz, hrz⟩ : ∃ q : Int64 × (Nat → Int64), q = (zcomp (T a) (T b) (top b) (top a) (fun _ => 0) 0 (fun _ => 0)) := ⟨_, rfl⟩
  have hrzP : rz = (zcomp (P a) (P b) (n0 b) (n0 a) (fun _ => 0) 0 (fun _ => 0)) := by rw [hrz, hTa, hTb, hNa, hNb]
  refine lv_aload_n hx hb dX2_compose_0 rfl (lv_at hl 0 rfl) ?_
  refine lv_iload_n hx hb dX2_compose_1 rfl (lv_at hl 1 rfl) ?_
  refine zcallV (As := [.int (nI a)]) (rest := []) (q := 24) (k := 1) hx hb hml hown hts (kX2_find_in l D cL cI cR A F hF T top Z (nI a) a (by omega) rfl) gX2_compose_X2_find rfl (by decide +kernel) ⟨Nat.le_of_ble_eq_true rfl, Nat.le_of_ble_eq_true rfl⟩ rfl (by omega) (zC_o) rfl rfl hAm hP hS rfl hl.1 rfl (Nat.le_of_ble_eq_true rfl) dX2_compose_2 ⟨Nat.zero_le _, Nat.zero_le _⟩ (zkn (fun H locs hP hS => ?_))
  refine W.eq (g2 := F0 m 5 ls [.ref (F a)]) rfl ?_
  refine lv_astore (lv' := [(4, .ref (F a)), (0, .ref (F 24)), (1, .int (nI a)), (2, .int (nI b)), (3, .int (nI t))]) hx hb dX2_compose_5 hl (by decide) rfl (fun ls hl => ?_)
  refine lv_aload_n hx hb dX2_compose_7 rfl (lv_at hl 1 rfl) ?_
  refine lv_iload_n hx hb dX2_compose_8 rfl (lv_at hl 3 rfl) ?_
  refine zcallV (As := [.int (nI b)]) (rest := []) (q := 24) (k := 1) hx hb hml hown hts (kX2_find_in l D cL cI cR A F hF T top Z (nI b) b (by omega) rfl) gX2_compose_X2_find rfl (by decide +kernel) ⟨Nat.le_of_ble_eq_true rfl, Nat.le_of_ble_eq_true rfl⟩ rfl (by omega) (zC_o) rfl rfl hAm hP hS rfl hl.1 rfl (Nat.le_of_ble_eq_true rfl) dX2_compose_9 ⟨Nat.zero_le _, Nat.zero_le _⟩ (zkn (fun H locs hP hS => ?_))
  refine W.eq (g2 := F0 m 12 ls [.ref (F b)]) rfl ?_
  refine lv_astore (lv' := [(5, .ref (F b)), (4, .ref (F a)), (0, .ref (F 24)), (1, .int (nI a)), (2, .int (nI b)), (3, .int (nI t))]) hx hb dX2_compose_12 hl (by decide) rfl (fun ls hl => ?_)
  refine lv_aload_n hx hb dX2_compose_14 rfl (lv_at hl 2 rfl) ?_
  refine lv_iload_n hx hb dX2_compose_15 rfl (lv_at hl 5 rfl) ?_
  refine zcallV (As := [.int (nI t)]) (rest := []) (q := 24) (k := 1) hx hb hml hown hts (kX2_find_in l D cL cI cR A F hF T top Z (nI t) t (by omega) rfl) gX2_compose_X2_find rfl (by decide +kernel) ⟨Nat.le_of_ble_eq_true rfl, Nat.le_of_ble_eq_true rfl⟩ rfl (by omega) (zC_o) rfl rfl hAm hP hS rfl hl.1 rfl (Nat.le_of_ble_eq_true rfl) dX2_compose_16 ⟨Nat.zero_le _, Nat.zero_le _⟩ (zkn (fun H locs hP hS => ?_))
  refine W.eq (g2 := F0 m 19 ls [.ref (F t)]) rfl ?_
  refine lv_astore (lv' := [(6, .ref (F t)), (5, .ref (F b)), (4, .ref (F a)), (0, .ref (F 24)), (1, .int (nI a)), (2, .int (nI b)), (3, .int (nI t))]) hx hb dX2_compose_19 hl (by decide) rfl (fun ls hl => ?_)
  refine lv_aload hx hb dX2_compose_21 (lv_at hl 2 rfl) ?_
  refine lv_ifnull hx hb dX2_compose_23 ?_
  refine lv_aload hx hb dX2_compose_26 (lv_at hl 1 rfl) ?_
  refine lv_ifnull hx hb dX2_compose_28 ?_
  refine lv_aload hx hb dX2_compose_31 (lv_at hl 0 rfl) ?_
  refine lv_ifnonnull (tgt := 40) hx hb dX2_compose_33 (by decide) ?_
  refine lv_aload_n hx hb dX2_compose_40 rfl (lv_at hl 3 rfl) ?_
  refine lv_aload hx hb dX2_compose_41 (lv_at hl 2 rfl) ?_
  refine lv_aload hx hb dX2_compose_43 (lv_at hl 1 rfl) ?_
  refine zcallV (As := [.ref (F a), .ref (F b)]) (rest := []) (q := 24) (k := 2) hx hb hml hown hts (kX2_makeComposition l D cL cI cR A F hF T top Z a (by omega) b (by omega) h24a h24b) gX2_compose_X2_makeComposition rfl (by decide +kernel) ⟨Nat.le_of_ble_eq_true rfl, Nat.le_of_ble_eq_true rfl⟩ rfl (by omega) (zC_o) rfl rfl hAm hP hS rfl hl.1 rfl (Nat.le_of_ble_eq_true rfl) dX2_compose_45 ⟨Nat.zero_le _, Nat.zero_le _⟩ (fun v9 E9 H locs hPQ9 hP _ hS => ?_)
  obtain ⟨T2, top2, rfl, rfl, hlow, hfin⟩ := hPQ9
  rw [← hrz] at hfin
  refine W.eq (g2 := F0 m 48 ls [.long rz.1]) (by rw [hrz]; rfl) ?_
  refine W.eq (g2 := F0 m 48 ls [.long rz.1]) rfl ?_
  refine lv_lstore (lv' := [(7, .long rz.1), (6, .ref (F t)), (5, .ref (F b)), (4, .ref (F a)), (0, .ref (F 24)), (1, .int (nI a)), (2, .int (nI b)), (3, .int (nI t))]) hx hb dX2_compose_48 hl (by decide) rfl (fun ls hl => ?_)
  refine lv_lload hx hb dX2_compose_50 (lv_at hl 0 rfl) ?_
  refine lv_lconst (v := (0 : Int64)) hx hb dX2_compose_52 (by decide +kernel) ?_
  refine zl_eq (tgt := 62) hx hb dX2_compose_53 dX2_compose_54 (by decide) (fun c1 => ?_) (fun c1 => ?_)
  ·
    have hr0 := c1
    obtain ⟨hm8, hn8⟩ := hfin hr0
    refine lv_aload_n hx hb dX2_compose_62 rfl (lv_at hl 4 rfl) ?_
    refine lv_aload hx hb dX2_compose_63 (lv_at hl 1 rfl) ?_
    refine zcallV (As := [.ref (F t)]) (rest := []) (q := 24) (k := 1) hx hb hml hown hts (kX2_keepMade l D cL cI cR A F hF T2 top2 Z t (by omega) rz.2 hm8 hn8 (zkP T2 t rz.2) (zkN top2 t rz.2) rfl rfl) gX2_compose_X2_keepMade rfl (by decide +kernel) ⟨Nat.le_of_ble_eq_true rfl, Nat.le_of_ble_eq_true rfl⟩ rfl (by omega) (zC_o) rfl rfl hAm hP hS rfl hl.1 rfl (Nat.le_of_ble_eq_true rfl) dX2_compose_65 ⟨Nat.zero_le _, Nat.zero_le _⟩ (zkn (fun H locs hP hS => ?_))
    refine W.eq (g2 := F0 m 68 ls [.long (zkr rz.2)]) rfl ?_
    exact zretL hx hb hr hlk hS hP dX2_compose_68 ⟨_, _, _, rfl, by rw [← hrzP, if_pos hr0], fun i hi => by rw [← hrzP, if_pos hr0, if_pos hr0]; exact zend_keep2 (fun i hi => ⟨(hlow i hi).1.trans (hTP i hi).1, (hlow i hi).2.trans (hTP i hi).2⟩) i hi, fun _ _ => rfl⟩
  ·
    refine lv_lload hx hb dX2_compose_57 (lv_at hl 0 rfl) ?_
    refine lv_goto (tgt := 68) hx hb dX2_compose_59 (by decide) ?_
    exact zretL hx hb hr hlk hS hP dX2_compose_68 ⟨_, _, _, rfl, by rw [← hrzP, if_neg c1], fun i hi => by rw [← hrzP, if_neg c1, if_neg c1]; exact ⟨(hlow i hi).1.trans (hTP i hi).1, (hlow i hi).2.trans (hTP i hi).2⟩, fun _ _ => rfl⟩
