/-! the reference: the calls that are not refused -/
theorem zrtoI {a b : Nat → Int64} : zinn a b 0 = 2 * a 0 * b 0 := rfl
theorem z2ab (x y : Int64) : x * y + x * y = 2 * x * y := by
  rw [show (2 : Int64) = 1 + 1 from rfl, Int64.add_mul, Int64.add_mul, Int64.one_mul]
theorem zmaxle {x y : Int64} (h : x ≤ y) : y = zmax y x := by
  unfold zmax
  split
  · rfl
  · rename_i h1
    exact Int64.le_antisymm (Int64.not_lt.mp h1) h
theorem zmaxlt {x y : Int64} (h : ¬ x ≤ y) : x = zmax y x := by
  unfold zmax
  rw [if_neg]
  exact fun h1 => h (Int64.le_of_lt h1)
theorem zsum_0 {fa fb : Int64} {a b : Nat → Int64} {na nb : Nat} (ha : ∀ j, na < j → a j = 0) (hb : ∀ j, nb < j → b j = 0) (h1 : na ≤ 24) (h2 : nb ≤ 24) : ∀ j, 24 < j → zsum fa fb a b j = 0 := by
  intro j hj
  unfold zsum
  rw [ha j (by omega), hb j (by omega), Int64.mul_zero, Int64.mul_zero, Int64.add_zero]
theorem zderF_0 (c : Nat → Int64) {n : Nat} : ∀ (k : Nat) (f : Nat → Int64), k ≤ n → (∀ j, n < j → f j = 0) → ∀ j, n < j → zderF c k f j = 0 := by
  intro k
  induction k with
  | zero => intro f _ hf; exact hf
  | succ k ih =>
    intro f hk hf j hj
    unfold zderF
    refine ih _ (by omega) (fun j hj => ?_) j hj
    unfold vp_updL
    rw [if_neg (by omega)]
    exact hf j hj
theorem zder_0 (c : Nat → Int64) (n : Nat) : ∀ j, n < j → zder c n j = 0 := by
  intro j hj
  unfold zder vp_updL
  rw [if_neg (by omega)]
  exact zderF_0 c n _ (Nat.le_refl _) (fun _ _ => rfl) j hj
theorem zant_0 (c : Nat → Int64) (n : Nat) : ∀ j, n + 1 < j → zant c n j = 0 := by
  intro j hj
  unfold zant
  rw [if_neg (by omega), if_neg (by omega)]
theorem zquoF_0 (c : Nat → Int64) (r : Int64) {n : Nat} : ∀ (k : Nat) (f : Nat → Int64), k ≤ n → (∀ j, n ≤ j → f j = 0) → ∀ j, n ≤ j → zquoF c r k f j = 0 := by
  intro k
  induction k with
  | zero => intro f _ hf; exact hf
  | succ k ih =>
    intro f hk hf
    cases k with
    | zero => exact hf
    | succ k =>
      intro j hj
      show zquoF c r (k + 1) _ j = 0
      refine ih _ (by omega) (fun j hj => ?_) j hj
      unfold vp_updL
      rw [if_neg (by omega)]
      exact hf j hj
theorem zquo_0 (c : Nat → Int64) (n : Nat) (r : Int64) : ∀ j, (if n = 0 then 0 else n - 1) < j → zquo c n r j = 0 := by
  intro j hj
  unfold zquo vp_updL
  split at hj
  · rename_i h
    rw [if_neg (by omega), h]
    rfl
  · rw [if_neg (by omega)]
    exact zquoF_0 c r n _ (Nat.le_refl _) (fun _ _ => rfl) j (by omega)
theorem zquo_n0 (c : Nat → Int64) (r : Int64) (h : c 1 = 0) : vp_updL (fun _ => 0) 0 0 = zquo c 0 r := by
  have e : c 1 + zR (r * (0 : Int64)) 1048576 - zR 0 2 = 0 := by
    rw [h, Int64.mul_zero]
    decide
  unfold zquo
  show _ = vp_updL (fun _ => 0) 0 (c 1 + zR (r * (0 : Int64)) 1048576 - zR 0 2)
  rw [e]
theorem zint_0 (pv : Nat → Int64) (p : Nat) : ∀ j, 2 ^ p < j → zint pv p j = 0 := by
  intro j hj
  unfold zint
  rw [if_neg (by omega)]
theorem zplc {c : Nat → Int64} {k o : Nat} (hk : -268435456 ≤ (c k).toInt ∧ (c k).toInt ≤ 268435456) (ho : -268435456 ≤ (c o).toInt ∧ (c o).toInt ≤ 268435456) : (0 < zabs (c o) - zabs (c k) ↔ zabs (c k) < zabs (c o)) ∧ (zabs (c o) - zabs (c k) = 0 ↔ zabs (c o) = zabs (c k)) := by
  have habs : ∀ x : Int64, -268435456 ≤ x.toInt ∧ x.toInt ≤ 268435456 → 0 ≤ (zabs x).toInt ∧ (zabs x).toInt ≤ 268435456 := by
    intro x hx
    unfold zabs
    split
    · rename_i h
      rw [Int64.lt_iff_toInt_lt] at h
      have e : (0 : Int64).toInt = 0 := rfl
      omega
    · rename_i h
      rw [Int64.lt_iff_toInt_lt] at h
      have e : (0 : Int64).toInt = 0 := rfl
      rw [e] at h
      have e2 : (-x).toInt = -x.toInt := by
        rw [Int64.toInt_neg]
        apply Int.bmod_eq_of_le <;> omega
      omega
  have h1 := habs _ hk
  have h2 := habs _ ho
  have e : (zabs (c o) - zabs (c k)).toInt = (zabs (c o)).toInt - (zabs (c k)).toInt := by
    rw [Int64.toInt_sub]
    apply Int.bmod_eq_of_le <;> omega
  have e0 : (0 : Int64).toInt = 0 := rfl
  rw [Int64.lt_iff_toInt_lt, Int64.lt_iff_toInt_lt, ← Int64.toInt_inj, ← Int64.toInt_inj, e, e0]
  omega
theorem zix {x : Int32} (h : ¬ 0 ≤ x) (h2 : -1 ≤ x.toInt) : x = -1 := by
  rw [Int32.le_iff_toInt_le] at h
  have e : (0 : Int32).toInt = 0 := rfl
  rw [e] at h
  apply Int32.toInt_inj.mp
  show x.toInt = -1
  omega

set_option maxHeartbeats 4000000 in
set_option maxRecDepth 100000 in
theorem kX3_setCoefficient (l : Launch) (D : va_G) (cL cI cR : ClassId) (A : Nat → Prop) (F : Nat → Nat) (hF : zq_F A F 7) (C : Nat → Nat → Int64) (dg : Nat → Nat) (Y : zZM) (P : Nat → Nat → Int64) (n0 : Nat → Nat) (hCP : ∀ i, i < 8 → C i = P i ∧ dg i = n0 i) (h24 : ∀ i, i < 8 → n0 i ≤ 24) (hzz : ∀ i, i < 8 → ∀ j, n0 i < j → P i j = 0) (a : Nat) (ha : a ≤ 7) (k : Nat) (hk : k ≤ 24) (vx : Int32) (hv : zin (-268435456) 268435456 vx) : zCt l yX3_setCoefficient wsX3_setCoefficient 3 70 D cL cI cR A F 7 (zME cL cI F C dg Y) [.ref (F 0), .int (nI a), .int (nI k), .int vx] (zPM cL cI F (zkr (vp_updL (P a) k vx.toInt64)) (zkP P a (vp_updL (P a) k vx.toInt64)) (zkN n0 a (vp_updL (P a) k vx.toInt64)) Y.1) := by
  refine zStart (cc := cX3_setCoefficient) (maxL := 4) (ret := (some .long)) (by decide +kernel) rfl (Nat.le_of_ble_eq_true rfl) ?_
  intro p e s m below meth c hx hb hr hml hlk hown hts hAm H hP hS ls hl
  have hown : s.vm.findClass RX3 = some m.cls := hown
  have hl : lv_has ls 4 [(0, .ref (F 0)), (1, .int (nI a)), (2, .int (nI k)), (3, .int vx)] := hl
  have hinX3 : ∀ w ∈ u_ws RX3 TX3 8, w ∈ wsX3_setCoefficient := by decide +kernel
  obtain ⟨hCa, hNa⟩ := hCP a (by omega)
  have h24a : dg a ≤ 24 := by rw [hNa]; exact h24 a (by omega)
  have hza : ∀ j, dg a < j → C a j = 0 := fun j hj => by rw [hCa]; exact hzz a (by omega) j (by rw [← hNa]; exact hj)
  obtain ⟨f2, hf2⟩ : ∃ f : Nat → Int64, f = (vp_updL (P a) k vx.toInt64) := ⟨_, rfl⟩
  have hf2C : f2 = vp_updL (C a) k vx.toInt64 := by rw [hf2, hCa]
  have hf2z : ∀ d, dg a ≤ d → k ≤ d → ∀ j, d < j → f2 j = 0 := fun d h1 h2 j hj => by rw [hf2C]; unfold vp_updL; rw [if_neg (by omega)]; exact hza j (by omega)
  refine lv_iload_n hx hb dX3_setCoefficient_0 rfl (lv_at hl 1 rfl) ?_
  refine zcallS (As := [.int (nI a)]) (rest := []) (k := 1) hx hb hml hown hts (kX3_isSeries l D cL cI cR A F 7 (zME cL cI F C dg Y) (nI a) 1 (if_pos (zin_nI (a := 7) (by omega) (by decide))).symm) gX3_setCoefficient_X3_isSeries rfl (by decide +kernel) ⟨Nat.le_of_ble_eq_true rfl, Nat.le_of_ble_eq_true rfl⟩ hAm hP hS rfl hl.1 rfl (Nat.le_of_ble_eq_true rfl) dX3_setCoefficient_1 ⟨Nat.zero_le _, Nat.zero_le _⟩ (zkn (fun H locs hP hS => ?_))
  refine W.eq (g2 := F0 m 4 ls [.int (nI 1)]) rfl ?_
  refine zf_eq (tgt := 33) hx hb dX3_setCoefficient_4 (by decide) (by omega) (fun c1 => ?_) (fun c1 => ?_)
  ·
    exfalso; omega
  ·
    refine lv_iload_n hx hb dX3_setCoefficient_7 rfl (lv_at hl 2 rfl) ?_
    refine zi2l hx hb (by omega) dX3_setCoefficient_8 ?_
    refine lv_lconst (v := (0 : Int64)) hx hb dX3_setCoefficient_9 (by decide +kernel) ?_
    refine lv_ldc2 hx hb hown (hts (.constantLong RX3 79 (24)) (by decide +kernel)) dX3_setCoefficient_10 ?_
    refine zcallS (As := [.long (lN k), .long (0 : Int64), .long (24 : Int64)]) (rest := []) (k := 3) hx hb hml hown hts (kX3_in l D cL cI cR A F 7 (zME cL cI F C dg Y) (lN k) (0 : Int64) (24 : Int64) 1 (zn1N (m := 24) (by decide) (by omega) (by decide))) gX3_setCoefficient_X3_in rfl (by decide +kernel) ⟨Nat.le_of_ble_eq_true rfl, Nat.le_of_ble_eq_true rfl⟩ hAm hP hS rfl hl.1 rfl (Nat.le_of_ble_eq_true rfl) dX3_setCoefficient_13 ⟨Nat.zero_le _, Nat.zero_le _⟩ (zkn (fun H locs hP hS => ?_))
    refine W.eq (g2 := F0 m 16 ls [.int (nI 1)]) rfl ?_
    refine zf_eq (tgt := 33) hx hb dX3_setCoefficient_16 (by decide) (by omega) (fun c2 => ?_) (fun c2 => ?_)
    ·
      exfalso; omega
    ·
      refine lv_iload_n hx hb dX3_setCoefficient_19 rfl (lv_at hl 3 rfl) ?_
      refine lv_i2l (v := vx.toInt64) hx hb dX3_setCoefficient_20 rfl ?_
      refine lv_ldc2 hx hb hown (hts (.constantLong RX3 81 (-268435456)) (by decide +kernel)) dX3_setCoefficient_21 ?_
      refine lv_ldc2 hx hb hown (hts (.constantLong RX3 63 (268435456)) (by decide +kernel)) dX3_setCoefficient_24 ?_
      refine zcallS (As := [.long vx.toInt64, .long (-268435456 : Int64), .long (268435456 : Int64)]) (rest := []) (k := 3) hx hb hml hown hts (kX3_in l D cL cI cR A F 7 (zME cL cI F C dg Y) vx.toInt64 (-268435456 : Int64) (268435456 : Int64) 1 (zn1 rfl rfl hv)) gX3_setCoefficient_X3_in rfl (by decide +kernel) ⟨Nat.le_of_ble_eq_true rfl, Nat.le_of_ble_eq_true rfl⟩ hAm hP hS rfl hl.1 rfl (Nat.le_of_ble_eq_true rfl) dX3_setCoefficient_27 ⟨Nat.zero_le _, Nat.zero_le _⟩ (zkn (fun H locs hP hS => ?_))
      refine W.eq (g2 := F0 m 30 ls [.int (nI 1)]) rfl ?_
      refine zf_ne (tgt := 37) hx hb dX3_setCoefficient_30 (by decide) (by omega) (fun c3 => ?_) (fun c3 => ?_)
      ·
        refine lv_aload_n hx hb dX3_setCoefficient_37 rfl (lv_at hl 0 rfl) ?_
        refine lv_iload_n hx hb dX3_setCoefficient_38 rfl (lv_at hl 1 rfl) ?_
        refine lv_bipush (v := nI 8) hx hb dX3_setCoefficient_39 (by decide +kernel) ?_
        refine zcallV (As := [.int (nI a), .int (nI 8)]) (rest := []) (q := 0) (k := 2) hx hb hml hown hts (kX3_copies l D cL cI cR A F hF C dg Y a (by omega) 8 (by omega) (C a) (by first | rfl | simp [va_up, *]) (dg a) (by first | rfl | simp [va_up, *]) (by omega)) gX3_setCoefficient_X3_copies rfl (by decide +kernel) ⟨Nat.le_of_ble_eq_true rfl, Nat.le_of_ble_eq_true rfl⟩ rfl (by omega) (zM_o) rfl rfl hAm hP hS rfl hl.1 rfl (Nat.le_of_ble_eq_true rfl) dX3_setCoefficient_41 ⟨Nat.zero_le _, Nat.zero_le _⟩ (zkn (fun H locs hP hS => ?_))
        refine W.eq (g2 := F0 m 44 ls []) rfl ?_
        refine lv_aload_n hx hb dX3_setCoefficient_44 rfl (lv_at hl 0 rfl) ?_
        refine lv_bipush (v := nI 8) hx hb dX3_setCoefficient_45 (by decide +kernel) ?_
        refine lv_iload_n hx hb dX3_setCoefficient_47 rfl (lv_at hl 2 rfl) ?_
        refine lv_iload_n hx hb dX3_setCoefficient_48 rfl (lv_at hl 3 rfl) ?_
        refine lv_i2l (v := vx.toInt64) hx hb dX3_setCoefficient_49 rfl ?_
        refine zcallV (As := [.int (nI 8), .int (nI k), .long vx.toInt64]) (rest := []) (q := 0) (k := 3) hx hb hml hown hts (kX3_sets l D cL cI cR A F hF (va_up C 8 (C a)) (va_up dg 8 (dg a)) Y 8 (by omega) k (by omega) vx.toInt64 (va_up C 8 f2) (by rw [bx_uu, va_up_eq, hf2C])) gX3_setCoefficient_X3_sets rfl (by decide +kernel) ⟨Nat.le_of_ble_eq_true rfl, Nat.le_of_ble_eq_true rfl⟩ rfl (by omega) (zM_o) rfl rfl hAm hP hS rfl hl.1 rfl (Nat.le_of_ble_eq_true rfl) dX3_setCoefficient_50 ⟨Nat.zero_le _, Nat.zero_le _⟩ (zkn (fun H locs hP hS => ?_))
        refine W.eq (g2 := F0 m 53 ls []) rfl ?_
        refine lv_aload_n hx hb dX3_setCoefficient_53 rfl (lv_at hl 0 rfl) ?_
        refine zget (q := 0) (k := 1) (v := .ref (F 2)) hx hb hts hinX3 hown hAm hP (by omega) (zM_o) rfl (by decide) (hts (.fieldLink RX3 13 "CosineSeriesModel" "degrees" "[I") (by decide +kernel)) (by first | rfl | simp [va_up, *]) dX3_setCoefficient_54 ?_
        refine lv_bipush (v := nI 8) hx hb dX3_setCoefficient_57 (by decide +kernel) ?_
        refine lv_iload_n hx hb dX3_setCoefficient_59 rfl (lv_at hl 2 rfl) ?_
        refine lv_aload_n hx hb dX3_setCoefficient_60 rfl (lv_at hl 0 rfl) ?_
        refine zget (q := 0) (k := 1) (v := .ref (F 2)) hx hb hts hinX3 hown hAm hP (by omega) (zM_o) rfl (by decide) (hts (.fieldLink RX3 13 "CosineSeriesModel" "degrees" "[I") (by decide +kernel)) (by first | rfl | simp [va_up, *]) dX3_setCoefficient_61 ?_
        refine lv_bipush (v := nI 8) hx hb dX3_setCoefficient_64 (by decide +kernel) ?_
        refine ziald (q := 2) (k := 8) (v := (nI (dg a))) hx hb hAm hP (by omega) (zM_d) (by omega) (by decide) (by first | rfl | simp [va_up, *]) dX3_setCoefficient_66 ?_
        refine zi_le (tgt := 74) hx hb dX3_setCoefficient_67 (by decide) (by omega) (by omega) (fun c4 => ?_) (fun c4 => ?_)
        ·
          refine lv_aload_n hx hb dX3_setCoefficient_74 rfl (lv_at hl 0 rfl) ?_
          refine zget (q := 0) (k := 1) (v := .ref (F 2)) hx hb hts hinX3 hown hAm hP (by omega) (zM_o) rfl (by decide) (hts (.fieldLink RX3 13 "CosineSeriesModel" "degrees" "[I") (by decide +kernel)) (by first | rfl | simp [va_up, *]) dX3_setCoefficient_75 ?_
          refine lv_bipush (v := nI 8) hx hb dX3_setCoefficient_78 (by decide +kernel) ?_
          refine ziald (q := 2) (k := 8) (v := (nI (dg a))) hx hb hAm hP (by omega) (zM_d) (by omega) (by decide) (by first | rfl | simp [va_up, *]) dX3_setCoefficient_80 ?_
          refine ziast (q := 2) (k := 8) (E' := (zME cL cI F (va_up C 8 f2) (va_up dg 8 (dg a)) Y)) hx hb hAm hP hF hS (by omega) (zM_d) (by omega) (by decide) dX3_setCoefficient_81 (by first | exact zM_ud | (rw [zM_ud]; simp only [bx_uu, va_up_eq])) (fun H locs hP hS => ?_)
          refine lv_aload_n hx hb dX3_setCoefficient_82 rfl (lv_at hl 0 rfl) ?_
          refine lv_iload_n hx hb dX3_setCoefficient_83 rfl (lv_at hl 1 rfl) ?_
          refine zcallV (As := [.int (nI a)]) (rest := []) (q := 0) (k := 1) hx hb hml hown hts (kX3_gives l D cL cI cR A F hF (va_up C 8 f2) (va_up dg 8 (dg a)) Y a (by omega) f2 (va_up_eq _ _ _) (dg a) (va_up_eq _ _ _) (by omega) (hf2z _ (by omega) (by omega)) (zkP (va_up C 8 f2) a f2) (zkN (va_up (va_up dg 8 (dg a)) 8 (ztop f2 48)) a f2) rfl rfl) gX3_setCoefficient_X3_gives rfl (by decide +kernel) ⟨Nat.le_of_ble_eq_true rfl, Nat.le_of_ble_eq_true rfl⟩ rfl (by omega) (zM_o) rfl rfl hAm hP hS rfl hl.1 rfl (Nat.le_of_ble_eq_true rfl) dX3_setCoefficient_84 ⟨Nat.zero_le _, Nat.zero_le _⟩ (zkn (fun H locs hP hS => ?_))
          refine W.eq (g2 := F0 m 87 ls [.long (zkr f2)]) rfl ?_
          exact zretL hx hb hr hlk hS hP dX3_setCoefficient_87 ⟨_, _, _, rfl, by rw [← hf2], by rw [← hf2]; exact (fun i hi => zend_keep2 (fun i hi => ⟨by (repeat rw [zup8 _ _ (by omega)]); exact (hCP i hi).1, by (repeat rw [zup8 _ _ (by omega)]); exact (hCP i hi).2⟩) i hi), fun _ _ => rfl⟩
        ·
          refine lv_iload_n hx hb dX3_setCoefficient_70 rfl (lv_at hl 2 rfl) ?_
          refine lv_goto (tgt := 81) hx hb dX3_setCoefficient_71 (by decide) ?_
          refine ziast (q := 2) (k := 8) (E' := (zME cL cI F (va_up C 8 f2) (va_up dg 8 k) Y)) hx hb hAm hP hF hS (by omega) (zM_d) (by omega) (by decide) dX3_setCoefficient_81 (by first | exact zM_ud | (rw [zM_ud]; simp only [bx_uu, va_up_eq])) (fun H locs hP hS => ?_)
          refine lv_aload_n hx hb dX3_setCoefficient_82 rfl (lv_at hl 0 rfl) ?_
          refine lv_iload_n hx hb dX3_setCoefficient_83 rfl (lv_at hl 1 rfl) ?_
          refine zcallV (As := [.int (nI a)]) (rest := []) (q := 0) (k := 1) hx hb hml hown hts (kX3_gives l D cL cI cR A F hF (va_up C 8 f2) (va_up dg 8 k) Y a (by omega) f2 (va_up_eq _ _ _) k (va_up_eq _ _ _) (by omega) (hf2z _ (by omega) (by omega)) (zkP (va_up C 8 f2) a f2) (zkN (va_up (va_up dg 8 k) 8 (ztop f2 48)) a f2) rfl rfl) gX3_setCoefficient_X3_gives rfl (by decide +kernel) ⟨Nat.le_of_ble_eq_true rfl, Nat.le_of_ble_eq_true rfl⟩ rfl (by omega) (zM_o) rfl rfl hAm hP hS rfl hl.1 rfl (Nat.le_of_ble_eq_true rfl) dX3_setCoefficient_84 ⟨Nat.zero_le _, Nat.zero_le _⟩ (zkn (fun H locs hP hS => ?_))
          refine W.eq (g2 := F0 m 87 ls [.long (zkr f2)]) rfl ?_
          exact zretL hx hb hr hlk hS hP dX3_setCoefficient_87 ⟨_, _, _, rfl, by rw [← hf2], by rw [← hf2]; exact (fun i hi => zend_keep2 (fun i hi => ⟨by (repeat rw [zup8 _ _ (by omega)]); exact (hCP i hi).1, by (repeat rw [zup8 _ _ (by omega)]); exact (hCP i hi).2⟩) i hi), fun _ _ => rfl⟩
      ·
        exfalso; omega

set_option maxHeartbeats 4000000 in
set_option maxRecDepth 100000 in
theorem kX3_coefficient (l : Launch) (D : va_G) (cL cI cR : ClassId) (A : Nat → Prop) (F : Nat → Nat) (hF : zq_F A F 7) (C : Nat → Nat → Int64) (dg : Nat → Nat) (Y : zZM) (P : Nat → Nat → Int64) (n0 : Nat → Nat) (hCP : ∀ i, i < 8 → C i = P i ∧ dg i = n0 i) (h24 : ∀ i, i < 8 → n0 i ≤ 24) (hzz : ∀ i, i < 8 → ∀ j, n0 i < j → P i j = 0) (a : Nat) (ha : a ≤ 7) (k : Nat) (hk : k ≤ 24) : zCt l yX3_coefficient wsX3_coefficient 2 45 D cL cI cR A F 7 (zME cL cI F C dg Y) [.ref (F 0), .int (nI a), .int (nI k)] (zPM cL cI F (P a k) P n0 Y.1) := by
  refine zStart (cc := cX3_coefficient) (maxL := 3) (ret := (some .long)) (by decide +kernel) rfl (Nat.le_of_ble_eq_true rfl) ?_
  intro p e s m below meth c hx hb hr hml hlk hown hts hAm H hP hS ls hl
  have hown : s.vm.findClass RX3 = some m.cls := hown
  have hl : lv_has ls 3 [(0, .ref (F 0)), (1, .int (nI a)), (2, .int (nI k))] := hl
  obtain ⟨hCa, hNa⟩ := hCP a (by omega)
  have h24a : dg a ≤ 24 := by rw [hNa]; exact h24 a (by omega)
  have hza : ∀ j, dg a < j → C a j = 0 := fun j hj => by rw [hCa]; exact hzz a (by omega) j (by rw [← hNa]; exact hj)
  refine lv_iload_n hx hb dX3_coefficient_0 rfl (lv_at hl 1 rfl) ?_
  refine zcallS (As := [.int (nI a)]) (rest := []) (k := 1) hx hb hml hown hts (kX3_isSeries l D cL cI cR A F 7 (zME cL cI F C dg Y) (nI a) 1 (if_pos (zin_nI (a := 7) (by omega) (by decide))).symm) gX3_coefficient_X3_isSeries rfl (by decide +kernel) ⟨Nat.le_of_ble_eq_true rfl, Nat.le_of_ble_eq_true rfl⟩ hAm hP hS rfl hl.1 rfl (Nat.le_of_ble_eq_true rfl) dX3_coefficient_1 ⟨Nat.zero_le _, Nat.zero_le _⟩ (zkn (fun H locs hP hS => ?_))
  refine W.eq (g2 := F0 m 4 ls [.int (nI 1)]) rfl ?_
  refine zf_eq (tgt := 28) hx hb dX3_coefficient_4 (by decide) (by omega) (fun c1 => ?_) (fun c1 => ?_)
  ·
    exfalso; omega
  ·
    refine lv_iload_n hx hb dX3_coefficient_7 rfl (lv_at hl 2 rfl) ?_
    refine zi2l hx hb (by omega) dX3_coefficient_8 ?_
    refine lv_lconst (v := (0 : Int64)) hx hb dX3_coefficient_9 (by decide +kernel) ?_
    refine lv_ldc2 hx hb hown (hts (.constantLong RX3 79 (24)) (by decide +kernel)) dX3_coefficient_10 ?_
    refine zcallS (As := [.long (lN k), .long (0 : Int64), .long (24 : Int64)]) (rest := []) (k := 3) hx hb hml hown hts (kX3_in l D cL cI cR A F 7 (zME cL cI F C dg Y) (lN k) (0 : Int64) (24 : Int64) 1 (zn1N (m := 24) (by decide) (by omega) (by decide))) gX3_coefficient_X3_in rfl (by decide +kernel) ⟨Nat.le_of_ble_eq_true rfl, Nat.le_of_ble_eq_true rfl⟩ hAm hP hS rfl hl.1 rfl (Nat.le_of_ble_eq_true rfl) dX3_coefficient_13 ⟨Nat.zero_le _, Nat.zero_le _⟩ (zkn (fun H locs hP hS => ?_))
    refine W.eq (g2 := F0 m 16 ls [.int (nI 1)]) rfl ?_
    refine zf_eq (tgt := 28) hx hb dX3_coefficient_16 (by decide) (by omega) (fun c2 => ?_) (fun c2 => ?_)
    ·
      exfalso; omega
    ·
      refine lv_aload_n hx hb dX3_coefficient_19 rfl (lv_at hl 0 rfl) ?_
      refine lv_iload_n hx hb dX3_coefficient_20 rfl (lv_at hl 1 rfl) ?_
      refine lv_iload_n hx hb dX3_coefficient_21 rfl (lv_at hl 2 rfl) ?_
      refine zcallV (As := [.int (nI a), .int (nI k)]) (rest := []) (q := 0) (k := 2) hx hb hml hown hts (kX3_of l D cL cI cR A F hF C dg Y a (by omega) k (by omega) ((C a) k) (by first | rfl | simp [va_up, *])) gX3_coefficient_X3_of rfl (by decide +kernel) ⟨Nat.le_of_ble_eq_true rfl, Nat.le_of_ble_eq_true rfl⟩ rfl (by omega) (zM_o) rfl rfl hAm hP hS rfl hl.1 rfl (Nat.le_of_ble_eq_true rfl) dX3_coefficient_22 ⟨Nat.zero_le _, Nat.zero_le _⟩ (zkn (fun H locs hP hS => ?_))
      refine W.eq (g2 := F0 m 25 ls [.long ((C a) k)]) rfl ?_
      refine lv_goto (tgt := 31) hx hb dX3_coefficient_25 (by decide) ?_
      exact zretL hx hb hr hlk hS hP dX3_coefficient_31 ⟨_, _, _, rfl, by rw [hCa], hCP, fun _ _ => rfl⟩

set_option maxHeartbeats 4000000 in
set_option maxRecDepth 100000 in
theorem kX3_degree (l : Launch) (D : va_G) (cL cI cR : ClassId) (A : Nat → Prop) (F : Nat → Nat) (hF : zq_F A F 7) (C : Nat → Nat → Int64) (dg : Nat → Nat) (Y : zZM) (P : Nat → Nat → Int64) (n0 : Nat → Nat) (hCP : ∀ i, i < 8 → C i = P i ∧ dg i = n0 i) (h24 : ∀ i, i < 8 → n0 i ≤ 24) (hzz : ∀ i, i < 8 → ∀ j, n0 i < j → P i j = 0) (a : Nat) (ha : a ≤ 7) : zCt l yX3_degree wsX3_degree 2 45 D cL cI cR A F 7 (zME cL cI F C dg Y) [.ref (F 0), .int (nI a)] (zPM cL cI F (lN (n0 a)) P n0 Y.1) := by
  refine zStart (cc := cX3_degree) (maxL := 2) (ret := (some .long)) (by decide +kernel) rfl (Nat.le_of_ble_eq_true rfl) ?_
  intro p e s m below meth c hx hb hr hml hlk hown hts hAm H hP hS ls hl
  have hown : s.vm.findClass RX3 = some m.cls := hown
  have hl : lv_has ls 2 [(0, .ref (F 0)), (1, .int (nI a))] := hl
  have hinX3 : ∀ w ∈ u_ws RX3 TX3 8, w ∈ wsX3_degree := by decide +kernel
  obtain ⟨hCa, hNa⟩ := hCP a (by omega)
  have h24a : dg a ≤ 24 := by rw [hNa]; exact h24 a (by omega)
  have hza : ∀ j, dg a < j → C a j = 0 := fun j hj => by rw [hCa]; exact hzz a (by omega) j (by rw [← hNa]; exact hj)
  refine lv_iload_n hx hb dX3_degree_0 rfl (lv_at hl 1 rfl) ?_
  refine zcallS (As := [.int (nI a)]) (rest := []) (k := 1) hx hb hml hown hts (kX3_isSeries l D cL cI cR A F 7 (zME cL cI F C dg Y) (nI a) 1 (if_pos (zin_nI (a := 7) (by omega) (by decide))).symm) gX3_degree_X3_isSeries rfl (by decide +kernel) ⟨Nat.le_of_ble_eq_true rfl, Nat.le_of_ble_eq_true rfl⟩ hAm hP hS rfl hl.1 rfl (Nat.le_of_ble_eq_true rfl) dX3_degree_1 ⟨Nat.zero_le _, Nat.zero_le _⟩ (zkn (fun H locs hP hS => ?_))
  refine W.eq (g2 := F0 m 4 ls [.int (nI 1)]) rfl ?_
  refine zf_eq (tgt := 17) hx hb dX3_degree_4 (by decide) (by omega) (fun c1 => ?_) (fun c1 => ?_)
  ·
    exfalso; omega
  ·
    refine lv_aload_n hx hb dX3_degree_7 rfl (lv_at hl 0 rfl) ?_
    refine zget (q := 0) (k := 1) (v := .ref (F 2)) hx hb hts hinX3 hown hAm hP (by omega) (zM_o) rfl (by decide) (hts (.fieldLink RX3 13 "CosineSeriesModel" "degrees" "[I") (by decide +kernel)) (by first | rfl | simp [va_up, *]) dX3_degree_8 ?_
    refine lv_iload_n hx hb dX3_degree_11 rfl (lv_at hl 1 rfl) ?_
    refine ziald (q := 2) (k := a) (v := (nI (dg a))) hx hb hAm hP (by omega) (zM_d) (by omega) (by decide) (by first | rfl | simp [va_up, *]) dX3_degree_12 ?_
    refine zi2l hx hb (by omega) dX3_degree_13 ?_
    refine lv_goto (tgt := 20) hx hb dX3_degree_14 (by decide) ?_
    exact zretL hx hb hr hlk hS hP dX3_degree_20 ⟨_, _, _, rfl, by rw [hNa], hCP, fun _ _ => rfl⟩

set_option maxHeartbeats 4000000 in
set_option maxRecDepth 100000 in
theorem kX3_copy (l : Launch) (D : va_G) (cL cI cR : ClassId) (A : Nat → Prop) (F : Nat → Nat) (hF : zq_F A F 7) (C : Nat → Nat → Int64) (dg : Nat → Nat) (Y : zZM) (P : Nat → Nat → Int64) (n0 : Nat → Nat) (hCP : ∀ i, i < 8 → C i = P i ∧ dg i = n0 i) (h24 : ∀ i, i < 8 → n0 i ≤ 24) (hzz : ∀ i, i < 8 → ∀ j, n0 i < j → P i j = 0) (a : Nat) (ha : a ≤ 7) (t : Nat) (ht : t ≤ 7) : zCt l yX3_copy wsX3_copy 2 47 D cL cI cR A F 7 (zME cL cI F C dg Y) [.ref (F 0), .int (nI a), .int (nI t)] (zPM cL cI F (lN (n0 a)) (va_up P t (P a)) (va_up n0 t (n0 a)) Y.1) := by
  refine zStart (cc := cX3_copy) (maxL := 3) (ret := (some .long)) (by decide +kernel) rfl (Nat.le_of_ble_eq_true rfl) ?_
  intro p e s m below meth c hx hb hr hml hlk hown hts hAm H hP hS ls hl
  have hown : s.vm.findClass RX3 = some m.cls := hown
  have hl : lv_has ls 3 [(0, .ref (F 0)), (1, .int (nI a)), (2, .int (nI t))] := hl
  have hinX3 : ∀ w ∈ u_ws RX3 TX3 8, w ∈ wsX3_copy := by decide +kernel
  obtain ⟨hCa, hNa⟩ := hCP a (by omega)
  have h24a : dg a ≤ 24 := by rw [hNa]; exact h24 a (by omega)
  have hza : ∀ j, dg a < j → C a j = 0 := fun j hj => by rw [hCa]; exact hzz a (by omega) j (by rw [← hNa]; exact hj)
  obtain ⟨hCt, hNt⟩ := hCP t (by omega)
  have h24t : dg t ≤ 24 := by rw [hNt]; exact h24 t (by omega)
  have hzt : ∀ j, dg t < j → C t j = 0 := fun j hj => by rw [hCt]; exact hzz t (by omega) j (by rw [← hNt]; exact hj)
  refine lv_iload_n hx hb dX3_copy_0 rfl (lv_at hl 1 rfl) ?_
  refine zcallS (As := [.int (nI a)]) (rest := []) (k := 1) hx hb hml hown hts (kX3_isSeries l D cL cI cR A F 7 (zME cL cI F C dg Y) (nI a) 1 (if_pos (zin_nI (a := 7) (by omega) (by decide))).symm) gX3_copy_X3_isSeries rfl (by decide +kernel) ⟨Nat.le_of_ble_eq_true rfl, Nat.le_of_ble_eq_true rfl⟩ hAm hP hS rfl hl.1 rfl (Nat.le_of_ble_eq_true rfl) dX3_copy_1 ⟨Nat.zero_le _, Nat.zero_le _⟩ (zkn (fun H locs hP hS => ?_))
  refine W.eq (g2 := F0 m 4 ls [.int (nI 1)]) rfl ?_
  refine zf_eq (tgt := 14) hx hb dX3_copy_4 (by decide) (by omega) (fun c1 => ?_) (fun c1 => ?_)
  ·
    exfalso; omega
  ·
    refine lv_iload_n hx hb dX3_copy_7 rfl (lv_at hl 2 rfl) ?_
    refine zcallS (As := [.int (nI t)]) (rest := []) (k := 1) hx hb hml hown hts (kX3_isSeries l D cL cI cR A F 7 (zME cL cI F C dg Y) (nI t) 1 (if_pos (zin_nI (a := 7) (by omega) (by decide))).symm) gX3_copy_X3_isSeries rfl (by decide +kernel) ⟨Nat.le_of_ble_eq_true rfl, Nat.le_of_ble_eq_true rfl⟩ hAm hP hS rfl hl.1 rfl (Nat.le_of_ble_eq_true rfl) dX3_copy_8 ⟨Nat.zero_le _, Nat.zero_le _⟩ (zkn (fun H locs hP hS => ?_))
    refine W.eq (g2 := F0 m 11 ls [.int (nI 1)]) rfl ?_
    refine zf_ne (tgt := 18) hx hb dX3_copy_11 (by decide) (by omega) (fun c2 => ?_) (fun c2 => ?_)
    ·
      refine lv_aload_n hx hb dX3_copy_18 rfl (lv_at hl 0 rfl) ?_
      refine lv_iload_n hx hb dX3_copy_19 rfl (lv_at hl 1 rfl) ?_
      refine lv_iload_n hx hb dX3_copy_20 rfl (lv_at hl 2 rfl) ?_
      refine zcallV (As := [.int (nI a), .int (nI t)]) (rest := []) (q := 0) (k := 2) hx hb hml hown hts (kX3_copies l D cL cI cR A F hF C dg Y a (by omega) t (by omega) (C a) (by first | rfl | simp [va_up, *]) (dg a) (by first | rfl | simp [va_up, *]) (by omega)) gX3_copy_X3_copies rfl (by decide +kernel) ⟨Nat.le_of_ble_eq_true rfl, Nat.le_of_ble_eq_true rfl⟩ rfl (by omega) (zM_o) rfl rfl hAm hP hS rfl hl.1 rfl (Nat.le_of_ble_eq_true rfl) dX3_copy_21 ⟨Nat.zero_le _, Nat.zero_le _⟩ (zkn (fun H locs hP hS => ?_))
      refine W.eq (g2 := F0 m 24 ls []) rfl ?_
      refine lv_aload_n hx hb dX3_copy_24 rfl (lv_at hl 0 rfl) ?_
      refine zget (q := 0) (k := 1) (v := .ref (F 2)) hx hb hts hinX3 hown hAm hP (by omega) (zM_o) rfl (by decide) (hts (.fieldLink RX3 13 "CosineSeriesModel" "degrees" "[I") (by decide +kernel)) (by first | rfl | simp [va_up, *]) dX3_copy_25 ?_
      refine lv_iload_n hx hb dX3_copy_28 rfl (lv_at hl 2 rfl) ?_
      refine ziald (q := 2) (k := t) (v := (nI (dg a))) hx hb hAm hP (by omega) (zM_d) (by omega) (by decide) (by first | rfl | simp [va_up, *]) dX3_copy_29 ?_
      refine zi2l hx hb (by omega) dX3_copy_30 ?_
      exact zretL hx hb hr hlk hS hP dX3_copy_31 ⟨_, _, _, rfl, by rw [hNa], zend_up hCP hCa hNa, fun _ _ => rfl⟩
    ·
      exfalso; omega

set_option maxHeartbeats 4000000 in
set_option maxRecDepth 100000 in
theorem kX3_value (l : Launch) (D : va_G) (cL cI cR : ClassId) (A : Nat → Prop) (F : Nat → Nat) (hF : zq_F A F 7) (C : Nat → Nat → Int64) (dg : Nat → Nat) (Y : zZM) (P : Nat → Nat → Int64) (n0 : Nat → Nat) (hCP : ∀ i, i < 8 → C i = P i ∧ dg i = n0 i) (h24 : ∀ i, i < 8 → n0 i ≤ 24) (hzz : ∀ i, i < 8 → ∀ j, n0 i < j → P i j = 0) (a : Nat) (ha : a ≤ 7) (x0 : Int32) (hx0 : zin (-1048576) 1048576 x0) : zCt l yX3_value wsX3_value 2 55 D cL cI cR A F 7 (zME cL cI F C dg Y) [.ref (F 0), .int (nI a), .int x0] (zPM cL cI F (zval (P a) (n0 a) x0.toInt64) P n0 Y.1) := by
  refine zStart (cc := cX3_value) (maxL := 3) (ret := (some .long)) (by decide +kernel) rfl (Nat.le_of_ble_eq_true rfl) ?_
  intro p e s m below meth c hx hb hr hml hlk hown hts hAm H hP hS ls hl
  have hown : s.vm.findClass RX3 = some m.cls := hown
  have hl : lv_has ls 3 [(0, .ref (F 0)), (1, .int (nI a)), (2, .int x0)] := hl
  obtain ⟨hCa, hNa⟩ := hCP a (by omega)
  have h24a : dg a ≤ 24 := by rw [hNa]; exact h24 a (by omega)
  have hza : ∀ j, dg a < j → C a j = 0 := fun j hj => by rw [hCa]; exact hzz a (by omega) j (by rw [← hNa]; exact hj)
  refine lv_iload_n hx hb dX3_value_0 rfl (lv_at hl 1 rfl) ?_
  refine zcallS (As := [.int (nI a)]) (rest := []) (k := 1) hx hb hml hown hts (kX3_isSeries l D cL cI cR A F 7 (zME cL cI F C dg Y) (nI a) 1 (if_pos (zin_nI (a := 7) (by omega) (by decide))).symm) gX3_value_X3_isSeries rfl (by decide +kernel) ⟨Nat.le_of_ble_eq_true rfl, Nat.le_of_ble_eq_true rfl⟩ hAm hP hS rfl hl.1 rfl (Nat.le_of_ble_eq_true rfl) dX3_value_1 ⟨Nat.zero_le _, Nat.zero_le _⟩ (zkn (fun H locs hP hS => ?_))
  refine W.eq (g2 := F0 m 4 ls [.int (nI 1)]) rfl ?_
  refine zf_eq (tgt := 24) hx hb dX3_value_4 (by decide) (by omega) (fun c1 => ?_) (fun c1 => ?_)
  ·
    exfalso; omega
  ·
    refine lv_iload_n hx hb dX3_value_7 rfl (lv_at hl 2 rfl) ?_
    refine zcallS (As := [.int x0]) (rest := []) (k := 1) hx hb hml hown hts (kX3_isPoint l D cL cI cR A F 7 (zME cL cI F C dg Y) x0 1 (if_pos hx0).symm) gX3_value_X3_isPoint rfl (by decide +kernel) ⟨Nat.le_of_ble_eq_true rfl, Nat.le_of_ble_eq_true rfl⟩ hAm hP hS rfl hl.1 rfl (Nat.le_of_ble_eq_true rfl) dX3_value_8 ⟨Nat.zero_le _, Nat.zero_le _⟩ (zkn (fun H locs hP hS => ?_))
    refine W.eq (g2 := F0 m 11 ls [.int (nI 1)]) rfl ?_
    refine zf_eq (tgt := 24) hx hb dX3_value_11 (by decide) (by omega) (fun c2 => ?_) (fun c2 => ?_)
    ·
      exfalso; omega
    ·
      refine lv_aload_n hx hb dX3_value_14 rfl (lv_at hl 0 rfl) ?_
      refine lv_iload_n hx hb dX3_value_15 rfl (lv_at hl 1 rfl) ?_
      refine lv_iload_n hx hb dX3_value_16 rfl (lv_at hl 2 rfl) ?_
      refine lv_i2l (v := x0.toInt64) hx hb dX3_value_17 rfl ?_
      refine zcallV (As := [.int (nI a), .long x0.toInt64]) (rest := []) (q := 0) (k := 2) hx hb hml hown hts (kX3_valueAt l D cL cI cR A F hF C dg Y a (by omega) x0.toInt64 (C a) (by first | rfl | simp [va_up, *]) (dg a) (by first | rfl | simp [va_up, *]) (by omega)) gX3_value_X3_valueAt rfl (by decide +kernel) ⟨Nat.le_of_ble_eq_true rfl, Nat.le_of_ble_eq_true rfl⟩ rfl (by omega) (zM_o) rfl rfl hAm hP hS rfl hl.1 rfl (Nat.le_of_ble_eq_true rfl) dX3_value_18 ⟨Nat.zero_le _, Nat.zero_le _⟩ (zkn (fun H locs hP hS => ?_))
      refine W.eq (g2 := F0 m 21 ls [.long (zval (C a) (dg a) x0.toInt64)]) rfl ?_
      refine lv_goto (tgt := 27) hx hb dX3_value_21 (by decide) ?_
      exact zretL hx hb hr hlk hS hP dX3_value_27 ⟨_, _, _, rfl, by rw [hCa, hNa], hCP, fun _ _ => rfl⟩

set_option maxHeartbeats 4000000 in
set_option maxRecDepth 100000 in
theorem kX3_add (l : Launch) (D : va_G) (cL cI cR : ClassId) (A : Nat → Prop) (F : Nat → Nat) (hF : zq_F A F 7) (C : Nat → Nat → Int64) (dg : Nat → Nat) (Y : zZM) (P : Nat → Nat → Int64) (n0 : Nat → Nat) (hCP : ∀ i, i < 8 → C i = P i ∧ dg i = n0 i) (h24 : ∀ i, i < 8 → n0 i ≤ 24) (hzz : ∀ i, i < 8 → ∀ j, n0 i < j → P i j = 0) (a : Nat) (ha : a ≤ 7) (b : Nat) (hb : b ≤ 7) (t : Nat) (ht : t ≤ 7) (fa fb : Int32) (hfa : zin (-1000) 1000 fa) (hfb : zin (-1000) 1000 fb) : zCt l yX3_add wsX3_add 3 70 D cL cI cR A F 7 (zME cL cI F C dg Y) [.ref (F 0), .int (nI a), .int fa, .int (nI b), .int fb, .int (nI t)] (zPM cL cI F (zkr (zsum fa.toInt64 fb.toInt64 (P a) (P b))) (zkP P t (zsum fa.toInt64 fb.toInt64 (P a) (P b))) (zkN n0 t (zsum fa.toInt64 fb.toInt64 (P a) (P b))) Y.1) := by
  refine zStart (cc := cX3_add) (maxL := 7) (ret := (some .long)) (by decide +kernel) rfl (Nat.le_of_ble_eq_true rfl) ?_
  intro p e s m below meth c hx hb hr hml hlk hown hts hAm H hP hS ls hl
  have hown : s.vm.findClass RX3 = some m.cls := hown
  have hl : lv_has ls 7 [(0, .ref (F 0)), (1, .int (nI a)), (2, .int fa), (3, .int (nI b)), (4, .int fb), (5, .int (nI t))] := hl
  obtain ⟨hCa, hNa⟩ := hCP a (by omega)
  have h24a : dg a ≤ 24 := by rw [hNa]; exact h24 a (by omega)
  have hza : ∀ j, dg a < j → C a j = 0 := fun j hj => by rw [hCa]; exact hzz a (by omega) j (by rw [← hNa]; exact hj)
  obtain ⟨hCb, hNb⟩ := hCP b (by omega)
  have h24b : dg b ≤ 24 := by rw [hNb]; exact h24 b (by omega)
  have hzb : ∀ j, dg b < j → C b j = 0 := fun j hj => by rw [hCb]; exact hzz b (by omega) j (by rw [← hNb]; exact hj)
  obtain ⟨hCt, hNt⟩ := hCP t (by omega)
  have h24t : dg t ≤ 24 := by rw [hNt]; exact h24 t (by omega)
  have hzt : ∀ j, dg t < j → C t j = 0 := fun j hj => by rw [hCt]; exact hzz t (by omega) j (by rw [← hNt]; exact hj)
  obtain ⟨f2, hf2⟩ : ∃ f : Nat → Int64, f = (zsum fa.toInt64 fb.toInt64 (P a) (P b)) := ⟨_, rfl⟩
  have hf2z : ∀ j, 24 < j → f2 j = 0 := by rw [hf2, ← hCa, ← hCb]; exact zsum_0 hza hzb h24a h24b
  refine lv_iload_n hx hb dX3_add_0 rfl (lv_at hl 1 rfl) ?_
  refine zcallS (As := [.int (nI a)]) (rest := []) (k := 1) hx hb hml hown hts (kX3_isSeries l D cL cI cR A F 7 (zME cL cI F C dg Y) (nI a) 1 (if_pos (zin_nI (a := 7) (by omega) (by decide))).symm) gX3_add_X3_isSeries rfl (by decide +kernel) ⟨Nat.le_of_ble_eq_true rfl, Nat.le_of_ble_eq_true rfl⟩ hAm hP hS rfl hl.1 rfl (Nat.le_of_ble_eq_true rfl) dX3_add_1 ⟨Nat.zero_le _, Nat.zero_le _⟩ (zkn (fun H locs hP hS => ?_))
  refine W.eq (g2 := F0 m 4 ls [.int (nI 1)]) rfl ?_
  refine zf_eq (tgt := 51) hx hb dX3_add_4 (by decide) (by omega) (fun c1 => ?_) (fun c1 => ?_)
  ·
    exfalso; omega
  ·
    refine lv_iload_n hx hb dX3_add_7 rfl (lv_at hl 2 rfl) ?_
    refine lv_i2l (v := fa.toInt64) hx hb dX3_add_8 rfl ?_
    refine lv_ldc2 hx hb hown (hts (.constantLong RX3 99 (-1000)) (by decide +kernel)) dX3_add_9 ?_
    refine lv_ldc2 hx hb hown (hts (.constantLong RX3 101 (1000)) (by decide +kernel)) dX3_add_12 ?_
    refine zcallS (As := [.long fa.toInt64, .long (-1000 : Int64), .long (1000 : Int64)]) (rest := []) (k := 3) hx hb hml hown hts (kX3_in l D cL cI cR A F 7 (zME cL cI F C dg Y) fa.toInt64 (-1000 : Int64) (1000 : Int64) 1 (zn1 rfl rfl hfa)) gX3_add_X3_in rfl (by decide +kernel) ⟨Nat.le_of_ble_eq_true rfl, Nat.le_of_ble_eq_true rfl⟩ hAm hP hS rfl hl.1 rfl (Nat.le_of_ble_eq_true rfl) dX3_add_15 ⟨Nat.zero_le _, Nat.zero_le _⟩ (zkn (fun H locs hP hS => ?_))
    refine W.eq (g2 := F0 m 18 ls [.int (nI 1)]) rfl ?_
    refine zf_eq (tgt := 51) hx hb dX3_add_18 (by decide) (by omega) (fun c2 => ?_) (fun c2 => ?_)
    ·
      exfalso; omega
    ·
      refine lv_iload_n hx hb dX3_add_21 rfl (lv_at hl 3 rfl) ?_
      refine zcallS (As := [.int (nI b)]) (rest := []) (k := 1) hx hb hml hown hts (kX3_isSeries l D cL cI cR A F 7 (zME cL cI F C dg Y) (nI b) 1 (if_pos (zin_nI (a := 7) (by omega) (by decide))).symm) gX3_add_X3_isSeries rfl (by decide +kernel) ⟨Nat.le_of_ble_eq_true rfl, Nat.le_of_ble_eq_true rfl⟩ hAm hP hS rfl hl.1 rfl (Nat.le_of_ble_eq_true rfl) dX3_add_22 ⟨Nat.zero_le _, Nat.zero_le _⟩ (zkn (fun H locs hP hS => ?_))
      refine W.eq (g2 := F0 m 25 ls [.int (nI 1)]) rfl ?_
      refine zf_eq (tgt := 51) hx hb dX3_add_25 (by decide) (by omega) (fun c3 => ?_) (fun c3 => ?_)
      ·
        exfalso; omega
      ·
        refine lv_iload hx hb dX3_add_28 (lv_at hl 4 rfl) ?_
        refine lv_i2l (v := fb.toInt64) hx hb dX3_add_30 rfl ?_
        refine lv_ldc2 hx hb hown (hts (.constantLong RX3 99 (-1000)) (by decide +kernel)) dX3_add_31 ?_
        refine lv_ldc2 hx hb hown (hts (.constantLong RX3 101 (1000)) (by decide +kernel)) dX3_add_34 ?_
        refine zcallS (As := [.long fb.toInt64, .long (-1000 : Int64), .long (1000 : Int64)]) (rest := []) (k := 3) hx hb hml hown hts (kX3_in l D cL cI cR A F 7 (zME cL cI F C dg Y) fb.toInt64 (-1000 : Int64) (1000 : Int64) 1 (zn1 rfl rfl hfb)) gX3_add_X3_in rfl (by decide +kernel) ⟨Nat.le_of_ble_eq_true rfl, Nat.le_of_ble_eq_true rfl⟩ hAm hP hS rfl hl.1 rfl (Nat.le_of_ble_eq_true rfl) dX3_add_37 ⟨Nat.zero_le _, Nat.zero_le _⟩ (zkn (fun H locs hP hS => ?_))
        refine W.eq (g2 := F0 m 40 ls [.int (nI 1)]) rfl ?_
        refine zf_eq (tgt := 51) hx hb dX3_add_40 (by decide) (by omega) (fun c4 => ?_) (fun c4 => ?_)
        ·
          exfalso; omega
        ·
          refine lv_iload hx hb dX3_add_43 (lv_at hl 5 rfl) ?_
          refine zcallS (As := [.int (nI t)]) (rest := []) (k := 1) hx hb hml hown hts (kX3_isSeries l D cL cI cR A F 7 (zME cL cI F C dg Y) (nI t) 1 (if_pos (zin_nI (a := 7) (by omega) (by decide))).symm) gX3_add_X3_isSeries rfl (by decide +kernel) ⟨Nat.le_of_ble_eq_true rfl, Nat.le_of_ble_eq_true rfl⟩ hAm hP hS rfl hl.1 rfl (Nat.le_of_ble_eq_true rfl) dX3_add_45 ⟨Nat.zero_le _, Nat.zero_le _⟩ (zkn (fun H locs hP hS => ?_))
          refine W.eq (g2 := F0 m 48 ls [.int (nI 1)]) rfl ?_
          refine zf_ne (tgt := 55) hx hb dX3_add_48 (by decide) (by omega) (fun c5 => ?_) (fun c5 => ?_)
          ·
            refine lv_aload_n hx hb dX3_add_55 rfl (lv_at hl 0 rfl) ?_
            refine lv_bipush (v := nI 8) hx hb dX3_add_56 (by decide +kernel) ?_
            refine lv_bipush (v := nI 24) hx hb dX3_add_58 (by decide +kernel) ?_
            refine zcallV (As := [.int (nI 8), .int (nI 24)]) (rest := []) (q := 0) (k := 2) hx hb hml hown hts (kX3_clears l D cL cI cR A F hF C dg Y 8 (by omega) 24 (by omega)) gX3_add_X3_clears rfl (by decide +kernel) ⟨Nat.le_of_ble_eq_true rfl, Nat.le_of_ble_eq_true rfl⟩ rfl (by omega) (zM_o) rfl rfl hAm hP hS rfl hl.1 rfl (Nat.le_of_ble_eq_true rfl) dX3_add_60 ⟨Nat.zero_le _, Nat.zero_le _⟩ (zkn (fun H locs hP hS => ?_))
            refine W.eq (g2 := F0 m 63 ls []) rfl ?_
            refine lv_iconst (v := nI 0) hx hb dX3_add_63 (by decide +kernel) ?_
            refine lv_istore (lv' := [(6, .int (nI 0)), (0, .ref (F 0)), (1, .int (nI a)), (2, .int fa), (3, .int (nI b)), (4, .int fb), (5, .int (nI t))]) hx hb dX3_add_64 hl (by decide) rfl (fun ls hl => ?_)
            have L66 : ∀ (n : Nat) (k : Nat) (f : Nat → Int64) (hk : k ≤ 25) (hf : ∀ j, f j = if j < k then f2 j else 0) (hn : 25 - k < n) (H : Heap) (locs : List Loc), va_P D vwCl (zq_wd F 7 (zME cL cI F (va_up C 8 f) (va_up dg 8 24) Y)) H → va_S A s.heap H locs → ∀ (ls : Array Slot), lv_has ls 7 [(0, .ref (F 0)), (1, .int (nI a)), (2, .int fa), (3, .int (nI b)), (4, .int fb), (5, .int (nI t)), (6, .int (nI k))] → W p l e ({ frames := 3, cells := 0, slots := 0, locals := 70 }) s m ([.ref (F 0), .int (nI a), .int fa, .int (nI b), .int fb, .int (nI t)] : List Value).toArray below meth c H locs 0 0 (zQ below D A F 7 [.ref (F 0), .int (nI a), .int fa, .int (nI b), .int fb, .int (nI t)] s (zPM cL cI F (zkr (zsum fa.toInt64 fb.toInt64 (P a) (P b))) (zkP P t (zsum fa.toInt64 fb.toInt64 (P a) (P b))) (zkN n0 t (zsum fa.toInt64 fb.toInt64 (P a) (P b))) Y.1)) (F0 m 66 ls []) := by
              intro n
              induction n with
              | zero =>
                intro k f hk hf hn
                exact absurd hn (Nat.not_lt_zero _)
              | succ n ih66 =>
                intro k f hk hf hn H locs hP hS ls hl
                refine lv_iload hx hb dX3_add_66 (lv_at hl 6 rfl) ?_
                refine lv_bipush (v := nI 24) hx hb dX3_add_68 (by decide +kernel) ?_
                refine zi_gt (tgt := 109) hx hb dX3_add_70 (by decide) (by omega) (by omega) (fun c6 => ?_) (fun c6 => ?_)
                ·
                  have hfe : f = f2 := funext (fun j => by rw [hf j]; by_cases h : j < k; (rw [if_pos h]); (rw [if_neg h, hf2z j (by omega)]))
                  have hP : va_P D vwCl (zq_wd F 7 (zME cL cI F (va_up C 8 f2) (va_up dg 8 24) Y)) H := by rw [← hfe]; exact hP
                  refine lv_aload_n hx hb dX3_add_109 rfl (lv_at hl 0 rfl) ?_
                  refine lv_iload hx hb dX3_add_110 (lv_at hl 5 rfl) ?_
                  refine zcallV (As := [.int (nI t)]) (rest := []) (q := 0) (k := 1) hx hb hml hown hts (kX3_gives l D cL cI cR A F hF (va_up C 8 f2) (va_up dg 8 24) Y t (by omega) f2 (va_up_eq _ _ _) 24 (va_up_eq _ _ _) (by omega) hf2z (zkP (va_up C 8 f2) t f2) (zkN (va_up (va_up dg 8 24) 8 (ztop f2 48)) t f2) rfl rfl) gX3_add_X3_gives rfl (by decide +kernel) ⟨Nat.le_of_ble_eq_true rfl, Nat.le_of_ble_eq_true rfl⟩ rfl (by omega) (zM_o) rfl rfl hAm hP hS rfl hl.1 rfl (Nat.le_of_ble_eq_true rfl) dX3_add_112 ⟨Nat.zero_le _, Nat.zero_le _⟩ (zkn (fun H locs hP hS => ?_))
                  refine W.eq (g2 := F0 m 115 ls [.long (zkr f2)]) rfl ?_
                  exact zretL hx hb hr hlk hS hP dX3_add_115 ⟨_, _, _, rfl, by rw [← hf2], by rw [← hf2]; exact (fun i hi => zend_keep2 (fun i hi => ⟨by (repeat rw [zup8 _ _ (by omega)]); exact (hCP i hi).1, by (repeat rw [zup8 _ _ (by omega)]); exact (hCP i hi).2⟩) i hi), fun _ _ => rfl⟩
                ·
                  refine lv_aload_n hx hb dX3_add_73 rfl (lv_at hl 0 rfl) ?_
                  refine lv_bipush (v := nI 8) hx hb dX3_add_74 (by decide +kernel) ?_
                  refine lv_iload hx hb dX3_add_76 (lv_at hl 6 rfl) ?_
                  refine lv_iload_n hx hb dX3_add_78 rfl (lv_at hl 2 rfl) ?_
                  refine lv_i2l (v := fa.toInt64) hx hb dX3_add_79 rfl ?_
                  refine lv_aload_n hx hb dX3_add_80 rfl (lv_at hl 0 rfl) ?_
                  refine lv_iload_n hx hb dX3_add_81 rfl (lv_at hl 1 rfl) ?_
                  refine lv_iload hx hb dX3_add_82 (lv_at hl 6 rfl) ?_
                  refine zcallV (As := [.int (nI a), .int (nI k)]) (rest := [.long fa.toInt64, .int (nI k), .int (nI 8), .ref (F 0)]) (q := 0) (k := 2) hx hb hml hown hts (kX3_of l D cL cI cR A F hF (va_up C 8 f) (va_up dg 8 24) Y a (by omega) k (by omega) (C a k) (zup8a (by omega) _)) gX3_add_X3_of rfl (by decide +kernel) ⟨Nat.le_of_ble_eq_true rfl, Nat.le_of_ble_eq_true rfl⟩ rfl (by omega) (zM_o) rfl rfl hAm hP hS rfl hl.1 rfl (Nat.le_of_ble_eq_true rfl) dX3_add_84 ⟨Nat.zero_le _, Nat.zero_le _⟩ (zkn (fun H locs hP hS => ?_))
                  refine W.eq (g2 := F0 m 87 ls [.long (C a k), .long fa.toInt64, .int (nI k), .int (nI 8), .ref (F 0)]) rfl ?_
                  refine lv_lmul hx hb dX3_add_87 ?_
                  refine lv_iload hx hb dX3_add_88 (lv_at hl 4 rfl) ?_
                  refine lv_i2l (v := fb.toInt64) hx hb dX3_add_90 rfl ?_
                  refine lv_aload_n hx hb dX3_add_91 rfl (lv_at hl 0 rfl) ?_
                  refine lv_iload_n hx hb dX3_add_92 rfl (lv_at hl 3 rfl) ?_
                  refine lv_iload hx hb dX3_add_93 (lv_at hl 6 rfl) ?_
                  refine zcallV (As := [.int (nI b), .int (nI k)]) (rest := [.long fb.toInt64, .long (fa.toInt64 * (C a k)), .int (nI k), .int (nI 8), .ref (F 0)]) (q := 0) (k := 2) hx hb hml hown hts (kX3_of l D cL cI cR A F hF (va_up C 8 f) (va_up dg 8 24) Y b (by omega) k (by omega) (C b k) (zup8a (by omega) _)) gX3_add_X3_of rfl (by decide +kernel) ⟨Nat.le_of_ble_eq_true rfl, Nat.le_of_ble_eq_true rfl⟩ rfl (by omega) (zM_o) rfl rfl hAm hP hS rfl hl.1 rfl (Nat.le_of_ble_eq_true rfl) dX3_add_95 ⟨Nat.zero_le _, Nat.zero_le _⟩ (zkn (fun H locs hP hS => ?_))
                  refine W.eq (g2 := F0 m 98 ls [.long (C b k), .long fb.toInt64, .long (fa.toInt64 * (C a k)), .int (nI k), .int (nI 8), .ref (F 0)]) rfl ?_
                  refine lv_lmul hx hb dX3_add_98 ?_
                  refine lv_ladd hx hb dX3_add_99 ?_
                  refine zcallV (As := [.int (nI 8), .int (nI k), .long ((fa.toInt64 * (C a k)) + (fb.toInt64 * (C b k)))]) (rest := []) (q := 0) (k := 3) hx hb hml hown hts (kX3_sets l D cL cI cR A F hF (va_up C 8 f) (va_up dg 8 24) Y 8 (by omega) k (by omega) ((fa.toInt64 * (C a k)) + (fb.toInt64 * (C b k))) (va_up C 8 (vp_updL f k ((fa.toInt64 * (C a k)) + (fb.toInt64 * (C b k))))) (by first | rfl | simp only [bx_uu, va_up_eq])) gX3_add_X3_sets rfl (by decide +kernel) ⟨Nat.le_of_ble_eq_true rfl, Nat.le_of_ble_eq_true rfl⟩ rfl (by omega) (zM_o) rfl rfl hAm hP hS rfl hl.1 rfl (Nat.le_of_ble_eq_true rfl) dX3_add_100 ⟨Nat.zero_le _, Nat.zero_le _⟩ (zkn (fun H locs hP hS => ?_))
                  refine W.eq (g2 := F0 m 103 ls []) rfl ?_
                  refine lv_iinc (v := (nI (k + 1))) (lv' := [(6, .int (nI (k + 1))), (0, .ref (F 0)), (1, .int (nI a)), (2, .int fa), (3, .int (nI b)), (4, .int fb), (5, .int (nI t))]) hx hb dX3_add_103 hl (k := 6) rfl (zinc (by omega)) (by decide) rfl (fun ls hl => ?_)
                  refine lv_goto (tgt := 66) hx hb dX3_add_106 (by decide) ?_
                  exact ih66 (k + 1) _ (by omega) (fun j => by unfold vp_updL; split; (rename_i h; rw [h, if_pos (by omega), hf2, ← hCa, ← hCb]; rfl); (rw [hf j]; by_cases h : j < k; (rw [if_pos h, if_pos (by omega)]); (rw [if_neg h, if_neg (by omega)]))) (by omega) H _ hP hS ls (lv_sub hl [1, 2, 3, 4, 5, 6, 0] rfl)
            exact L66 _ 0 (fun _ => 0) (by omega) (fun j => by rw [if_neg (by omega)]) (Nat.lt_succ_self _) H _ hP hS ls (lv_sub hl [1, 2, 3, 4, 5, 6, 0] rfl)
          ·
            exfalso; omega

set_option maxHeartbeats 4000000 in
set_option maxRecDepth 100000 in
theorem kX3_multiply (l : Launch) (D : va_G) (cL cI cR : ClassId) (A : Nat → Prop) (F : Nat → Nat) (hF : zq_F A F 7) (C : Nat → Nat → Int64) (dg : Nat → Nat) (Y : zZM) (P : Nat → Nat → Int64) (n0 : Nat → Nat) (hCP : ∀ i, i < 8 → C i = P i ∧ dg i = n0 i) (h24 : ∀ i, i < 8 → n0 i ≤ 24) (hzz : ∀ i, i < 8 → ∀ j, n0 i < j → P i j = 0) (a : Nat) (ha : a ≤ 7) (b : Nat) (hb : b ≤ 7) (t : Nat) (ht : t ≤ 7) : zCt l yX3_multiply wsX3_multiply 3 74 D cL cI cR A F 7 (zME cL cI F C dg Y) [.ref (F 0), .int (nI a), .int (nI b), .int (nI t)] (zPM cL cI F (zkr (zprod (P a) (n0 a) (P b) (n0 b))) (zkP P t (zprod (P a) (n0 a) (P b) (n0 b))) (zkN n0 t (zprod (P a) (n0 a) (P b) (n0 b))) Y.1) := by
  refine zStart (cc := cX3_multiply) (maxL := 6) (ret := (some .long)) (by decide +kernel) rfl (Nat.le_of_ble_eq_true rfl) ?_
  intro p e s m below meth c hx hb hr hml hlk hown hts hAm H hP hS ls hl
  have hown : s.vm.findClass RX3 = some m.cls := hown
  have hl : lv_has ls 6 [(0, .ref (F 0)), (1, .int (nI a)), (2, .int (nI b)), (3, .int (nI t))] := hl
  obtain ⟨hCa, hNa⟩ := hCP a (by omega)
  have h24a : dg a ≤ 24 := by rw [hNa]; exact h24 a (by omega)
  have hza : ∀ j, dg a < j → C a j = 0 := fun j hj => by rw [hCa]; exact hzz a (by omega) j (by rw [← hNa]; exact hj)
  obtain ⟨hCb, hNb⟩ := hCP b (by omega)
  have h24b : dg b ≤ 24 := by rw [hNb]; exact h24 b (by omega)
  have hzb : ∀ j, dg b < j → C b j = 0 := fun j hj => by rw [hCb]; exact hzz b (by omega) j (by rw [← hNb]; exact hj)
  obtain ⟨hCt, hNt⟩ := hCP t (by omega)
  have h24t : dg t ≤ 24 := by rw [hNt]; exact h24 t (by omega)
  have hzt : ∀ j, dg t < j → C t j = 0 := fun j hj => by rw [hCt]; exact hzz t (by omega) j (by rw [← hNt]; exact hj)
  obtain ⟨f2, hf2⟩ : ∃ f : Nat → Int64, f = (zprod (P a) (n0 a) (P b) (n0 b)) := ⟨_, rfl⟩
  have hf2C : f2 = zprod (C a) (dg a) (C b) (dg b) := by rw [hf2, hCa, hCb, hNa, hNb]
  have h48 := ztop_le f2 48
  have hf2z : ∀ j, ztop f2 48 < j → f2 j = 0 := by rw [hf2C]; exact zprod_top h24a h24b
  refine lv_iload_n hx hb dX3_multiply_0 rfl (lv_at hl 1 rfl) ?_
  refine zcallS (As := [.int (nI a)]) (rest := []) (k := 1) hx hb hml hown hts (kX3_isSeries l D cL cI cR A F 7 (zME cL cI F C dg Y) (nI a) 1 (if_pos (zin_nI (a := 7) (by omega) (by decide))).symm) gX3_multiply_X3_isSeries rfl (by decide +kernel) ⟨Nat.le_of_ble_eq_true rfl, Nat.le_of_ble_eq_true rfl⟩ hAm hP hS rfl hl.1 rfl (Nat.le_of_ble_eq_true rfl) dX3_multiply_1 ⟨Nat.zero_le _, Nat.zero_le _⟩ (zkn (fun H locs hP hS => ?_))
  refine W.eq (g2 := F0 m 4 ls [.int (nI 1)]) rfl ?_
  refine zf_eq (tgt := 21) hx hb dX3_multiply_4 (by decide) (by omega) (fun c1 => ?_) (fun c1 => ?_)
  ·
    exfalso; omega
  ·
    refine lv_iload_n hx hb dX3_multiply_7 rfl (lv_at hl 2 rfl) ?_
    refine zcallS (As := [.int (nI b)]) (rest := []) (k := 1) hx hb hml hown hts (kX3_isSeries l D cL cI cR A F 7 (zME cL cI F C dg Y) (nI b) 1 (if_pos (zin_nI (a := 7) (by omega) (by decide))).symm) gX3_multiply_X3_isSeries rfl (by decide +kernel) ⟨Nat.le_of_ble_eq_true rfl, Nat.le_of_ble_eq_true rfl⟩ hAm hP hS rfl hl.1 rfl (Nat.le_of_ble_eq_true rfl) dX3_multiply_8 ⟨Nat.zero_le _, Nat.zero_le _⟩ (zkn (fun H locs hP hS => ?_))
    refine W.eq (g2 := F0 m 11 ls [.int (nI 1)]) rfl ?_
    refine zf_eq (tgt := 21) hx hb dX3_multiply_11 (by decide) (by omega) (fun c2 => ?_) (fun c2 => ?_)
    ·
      exfalso; omega
    ·
      refine lv_iload_n hx hb dX3_multiply_14 rfl (lv_at hl 3 rfl) ?_
      refine zcallS (As := [.int (nI t)]) (rest := []) (k := 1) hx hb hml hown hts (kX3_isSeries l D cL cI cR A F 7 (zME cL cI F C dg Y) (nI t) 1 (if_pos (zin_nI (a := 7) (by omega) (by decide))).symm) gX3_multiply_X3_isSeries rfl (by decide +kernel) ⟨Nat.le_of_ble_eq_true rfl, Nat.le_of_ble_eq_true rfl⟩ hAm hP hS rfl hl.1 rfl (Nat.le_of_ble_eq_true rfl) dX3_multiply_15 ⟨Nat.zero_le _, Nat.zero_le _⟩ (zkn (fun H locs hP hS => ?_))
      refine W.eq (g2 := F0 m 18 ls [.int (nI 1)]) rfl ?_
      refine zf_ne (tgt := 25) hx hb dX3_multiply_18 (by decide) (by omega) (fun c3 => ?_) (fun c3 => ?_)
      ·
        refine lv_aload_n hx hb dX3_multiply_25 rfl (lv_at hl 0 rfl) ?_
        refine lv_iload_n hx hb dX3_multiply_26 rfl (lv_at hl 1 rfl) ?_
        refine lv_iload_n hx hb dX3_multiply_27 rfl (lv_at hl 2 rfl) ?_
        refine zcallV (As := [.int (nI a), .int (nI b)]) (rest := []) (q := 0) (k := 2) hx hb hml hown hts (kX3_multiplies l D cL cI cR A F hF C dg Y a (by omega) (by omega) b (by omega) (by omega) h24a h24b (va_up C 8 f2) (va_up dg 8 (ztop f2 48)) (by rw [hf2C]) (by rw [hf2C])) gX3_multiply_X3_multiplies rfl (by decide +kernel) ⟨Nat.le_of_ble_eq_true rfl, Nat.le_of_ble_eq_true rfl⟩ rfl (by omega) (zM_o) rfl rfl hAm hP hS rfl hl.1 rfl (Nat.le_of_ble_eq_true rfl) dX3_multiply_28 ⟨Nat.zero_le _, Nat.zero_le _⟩ (zkn (fun H locs hP hS => ?_))
        refine W.eq (g2 := F0 m 31 ls [.long (zke (zprod (C a) (dg a) (C b) (dg b)))]) rfl ?_
        refine W.eq (g2 := F0 m 31 ls [.long (zke f2)]) (by rw [hf2C]) ?_
        refine lv_lstore (lv' := [(4, .long (zke f2)), (0, .ref (F 0)), (1, .int (nI a)), (2, .int (nI b)), (3, .int (nI t))]) hx hb dX3_multiply_31 hl (by decide) rfl (fun ls hl => ?_)
        refine lv_lload hx hb dX3_multiply_33 (lv_at hl 0 rfl) ?_
        refine lv_lconst (v := (0 : Int64)) hx hb dX3_multiply_35 (by decide +kernel) ?_
        refine zl_eq (tgt := 45) hx hb dX3_multiply_36 dX3_multiply_37 (by decide) (fun c4 => ?_) (fun c4 => ?_)
        ·
          refine lv_aload_n hx hb dX3_multiply_45 rfl (lv_at hl 1 rfl) ?_
          refine lv_iload_n hx hb dX3_multiply_46 rfl (lv_at hl 4 rfl) ?_
          refine zcallV (As := [.int (nI t)]) (rest := []) (q := 0) (k := 1) hx hb hml hown hts (kX3_gives l D cL cI cR A F hF (va_up C 8 f2) (va_up dg 8 (ztop f2 48)) Y t (by omega) f2 (va_up_eq _ _ _) (ztop f2 48) (va_up_eq _ _ _) (by omega) hf2z (zkP (va_up C 8 f2) t f2) (zkN (va_up (va_up dg 8 (ztop f2 48)) 8 (ztop f2 48)) t f2) rfl rfl) gX3_multiply_X3_gives rfl (by decide +kernel) ⟨Nat.le_of_ble_eq_true rfl, Nat.le_of_ble_eq_true rfl⟩ rfl (by omega) (zM_o) rfl rfl hAm hP hS rfl hl.1 rfl (Nat.le_of_ble_eq_true rfl) dX3_multiply_47 ⟨Nat.zero_le _, Nat.zero_le _⟩ (zkn (fun H locs hP hS => ?_))
          refine W.eq (g2 := F0 m 50 ls [.long (zkr f2)]) rfl ?_
          exact zretL hx hb hr hlk hS hP dX3_multiply_50 ⟨_, _, _, rfl, by rw [← hf2], by rw [← hf2]; exact (fun i hi => zend_keep2 (fun i hi => ⟨by (repeat rw [zup8 _ _ (by omega)]); exact (hCP i hi).1, by (repeat rw [zup8 _ _ (by omega)]); exact (hCP i hi).2⟩) i hi), fun _ _ => rfl⟩
        ·
          refine lv_lload hx hb dX3_multiply_40 (lv_at hl 0 rfl) ?_
          refine lv_goto (tgt := 50) hx hb dX3_multiply_42 (by decide) ?_
          exact zretL hx hb hr hlk hS hP dX3_multiply_50 ⟨_, _, _, rfl, by rw [← hf2]; unfold zkr; rw [if_neg c4], by rw [← hf2]; unfold zkP zkN; rw [if_neg c4, if_neg c4]; exact zend_8 hCP, fun _ _ => rfl⟩
      ·
        exfalso; omega

set_option maxHeartbeats 4000000 in
set_option maxRecDepth 100000 in
theorem kX3_differentiate (l : Launch) (D : va_G) (cL cI cR : ClassId) (A : Nat → Prop) (F : Nat → Nat) (hF : zq_F A F 7) (C : Nat → Nat → Int64) (dg : Nat → Nat) (Y : zZM) (P : Nat → Nat → Int64) (n0 : Nat → Nat) (hCP : ∀ i, i < 8 → C i = P i ∧ dg i = n0 i) (h24 : ∀ i, i < 8 → n0 i ≤ 24) (hzz : ∀ i, i < 8 → ∀ j, n0 i < j → P i j = 0) (a : Nat) (ha : a ≤ 7) (t : Nat) (ht : t ≤ 7) : zCt l yX3_differentiate wsX3_differentiate 3 70 D cL cI cR A F 7 (zME cL cI F C dg Y) [.ref (F 0), .int (nI a), .int (nI t)] (zPM cL cI F (zkr (zder (P a) (n0 a))) (zkP P t (zder (P a) (n0 a))) (zkN n0 t (zder (P a) (n0 a))) Y.1) := by
  refine zStart (cc := cX3_differentiate) (maxL := 3) (ret := (some .long)) (by decide +kernel) rfl (Nat.le_of_ble_eq_true rfl) ?_
  intro p e s m below meth c hx hb hr hml hlk hown hts hAm H hP hS ls hl
  have hown : s.vm.findClass RX3 = some m.cls := hown
  have hl : lv_has ls 3 [(0, .ref (F 0)), (1, .int (nI a)), (2, .int (nI t))] := hl
  obtain ⟨hCa, hNa⟩ := hCP a (by omega)
  have h24a : dg a ≤ 24 := by rw [hNa]; exact h24 a (by omega)
  have hza : ∀ j, dg a < j → C a j = 0 := fun j hj => by rw [hCa]; exact hzz a (by omega) j (by rw [← hNa]; exact hj)
  obtain ⟨hCt, hNt⟩ := hCP t (by omega)
  have h24t : dg t ≤ 24 := by rw [hNt]; exact h24 t (by omega)
  have hzt : ∀ j, dg t < j → C t j = 0 := fun j hj => by rw [hCt]; exact hzz t (by omega) j (by rw [← hNt]; exact hj)
  obtain ⟨f2, hf2⟩ : ∃ f : Nat → Int64, f = (zder (P a) (n0 a)) := ⟨_, rfl⟩
  have hf2C : f2 = zder (C a) (dg a) := by rw [hf2, hCa, hNa]
  have hf2z : ∀ j, dg a < j → f2 j = 0 := by rw [hf2C]; exact zder_0 _ _
  refine lv_iload_n hx hb dX3_differentiate_0 rfl (lv_at hl 1 rfl) ?_
  refine zcallS (As := [.int (nI a)]) (rest := []) (k := 1) hx hb hml hown hts (kX3_isSeries l D cL cI cR A F 7 (zME cL cI F C dg Y) (nI a) 1 (if_pos (zin_nI (a := 7) (by omega) (by decide))).symm) gX3_differentiate_X3_isSeries rfl (by decide +kernel) ⟨Nat.le_of_ble_eq_true rfl, Nat.le_of_ble_eq_true rfl⟩ hAm hP hS rfl hl.1 rfl (Nat.le_of_ble_eq_true rfl) dX3_differentiate_1 ⟨Nat.zero_le _, Nat.zero_le _⟩ (zkn (fun H locs hP hS => ?_))
  refine W.eq (g2 := F0 m 4 ls [.int (nI 1)]) rfl ?_
  refine zf_eq (tgt := 14) hx hb dX3_differentiate_4 (by decide) (by omega) (fun c1 => ?_) (fun c1 => ?_)
  ·
    exfalso; omega
  ·
    refine lv_iload_n hx hb dX3_differentiate_7 rfl (lv_at hl 2 rfl) ?_
    refine zcallS (As := [.int (nI t)]) (rest := []) (k := 1) hx hb hml hown hts (kX3_isSeries l D cL cI cR A F 7 (zME cL cI F C dg Y) (nI t) 1 (if_pos (zin_nI (a := 7) (by omega) (by decide))).symm) gX3_differentiate_X3_isSeries rfl (by decide +kernel) ⟨Nat.le_of_ble_eq_true rfl, Nat.le_of_ble_eq_true rfl⟩ hAm hP hS rfl hl.1 rfl (Nat.le_of_ble_eq_true rfl) dX3_differentiate_8 ⟨Nat.zero_le _, Nat.zero_le _⟩ (zkn (fun H locs hP hS => ?_))
    refine W.eq (g2 := F0 m 11 ls [.int (nI 1)]) rfl ?_
    refine zf_ne (tgt := 18) hx hb dX3_differentiate_11 (by decide) (by omega) (fun c2 => ?_) (fun c2 => ?_)
    ·
      refine lv_aload_n hx hb dX3_differentiate_18 rfl (lv_at hl 0 rfl) ?_
      refine lv_iload_n hx hb dX3_differentiate_19 rfl (lv_at hl 1 rfl) ?_
      refine zcallV (As := [.int (nI a)]) (rest := []) (q := 0) (k := 1) hx hb hml hown hts (kX3_derives l D cL cI cR A F hF C dg Y a (by omega) (by omega) h24a) gX3_differentiate_X3_derives rfl (by decide +kernel) ⟨Nat.le_of_ble_eq_true rfl, Nat.le_of_ble_eq_true rfl⟩ rfl (by omega) (zM_o) rfl rfl hAm hP hS rfl hl.1 rfl (Nat.le_of_ble_eq_true rfl) dX3_differentiate_20 ⟨Nat.zero_le _, Nat.zero_le _⟩ (zkn (fun H locs hP hS => ?_))
      refine W.eq (g2 := F0 m 23 ls []) rfl ?_
      have hP : va_P D vwCl (zq_wd F 7 (zME cL cI F (va_up C 8 f2) (va_up dg 8 (dg a)) Y)) H := by rw [hf2C]; exact hP
      refine lv_aload_n hx hb dX3_differentiate_23 rfl (lv_at hl 0 rfl) ?_
      refine lv_iload_n hx hb dX3_differentiate_24 rfl (lv_at hl 2 rfl) ?_
      refine zcallV (As := [.int (nI t)]) (rest := []) (q := 0) (k := 1) hx hb hml hown hts (kX3_gives l D cL cI cR A F hF (va_up C 8 f2) (va_up dg 8 (dg a)) Y t (by omega) f2 (va_up_eq _ _ _) (dg a) (va_up_eq _ _ _) (by omega) hf2z (zkP (va_up C 8 f2) t f2) (zkN (va_up (va_up dg 8 (dg a)) 8 (ztop f2 48)) t f2) rfl rfl) gX3_differentiate_X3_gives rfl (by decide +kernel) ⟨Nat.le_of_ble_eq_true rfl, Nat.le_of_ble_eq_true rfl⟩ rfl (by omega) (zM_o) rfl rfl hAm hP hS rfl hl.1 rfl (Nat.le_of_ble_eq_true rfl) dX3_differentiate_25 ⟨Nat.zero_le _, Nat.zero_le _⟩ (zkn (fun H locs hP hS => ?_))
      refine W.eq (g2 := F0 m 28 ls [.long (zkr f2)]) rfl ?_
      exact zretL hx hb hr hlk hS hP dX3_differentiate_28 ⟨_, _, _, rfl, by rw [← hf2], by rw [← hf2]; exact (fun i hi => zend_keep2 (fun i hi => ⟨by (repeat rw [zup8 _ _ (by omega)]); exact (hCP i hi).1, by (repeat rw [zup8 _ _ (by omega)]); exact (hCP i hi).2⟩) i hi), fun _ _ => rfl⟩
    ·
      exfalso; omega

set_option maxHeartbeats 4000000 in
set_option maxRecDepth 100000 in
theorem kX3_antidifferentiate (l : Launch) (D : va_G) (cL cI cR : ClassId) (A : Nat → Prop) (F : Nat → Nat) (hF : zq_F A F 7) (C : Nat → Nat → Int64) (dg : Nat → Nat) (Y : zZM) (P : Nat → Nat → Int64) (n0 : Nat → Nat) (hCP : ∀ i, i < 8 → C i = P i ∧ dg i = n0 i) (h24 : ∀ i, i < 8 → n0 i ≤ 24) (hzz : ∀ i, i < 8 → ∀ j, n0 i < j → P i j = 0) (a : Nat) (ha : a ≤ 7) (t : Nat) (ht : t ≤ 7) : zCt l yX3_antidifferentiate wsX3_antidifferentiate 3 70 D cL cI cR A F 7 (zME cL cI F C dg Y) [.ref (F 0), .int (nI a), .int (nI t)] (zPM cL cI F (zkr (zant (P a) (n0 a))) (zkP P t (zant (P a) (n0 a))) (zkN n0 t (zant (P a) (n0 a))) Y.1) := by
  refine zStart (cc := cX3_antidifferentiate) (maxL := 9) (ret := (some .long)) (by decide +kernel) rfl (Nat.le_of_ble_eq_true rfl) ?_
  intro p e s m below meth c hx hb hr hml hlk hown hts hAm H hP hS ls hl
  have hown : s.vm.findClass RX3 = some m.cls := hown
  have hl : lv_has ls 9 [(0, .ref (F 0)), (1, .int (nI a)), (2, .int (nI t))] := hl
  have hinX3 : ∀ w ∈ u_ws RX3 TX3 8, w ∈ wsX3_antidifferentiate := by decide +kernel
  obtain ⟨hCa, hNa⟩ := hCP a (by omega)
  have h24a : dg a ≤ 24 := by rw [hNa]; exact h24 a (by omega)
  have hza : ∀ j, dg a < j → C a j = 0 := fun j hj => by rw [hCa]; exact hzz a (by omega) j (by rw [← hNa]; exact hj)
  obtain ⟨hCt, hNt⟩ := hCP t (by omega)
  have h24t : dg t ≤ 24 := by rw [hNt]; exact h24 t (by omega)
  have hzt : ∀ j, dg t < j → C t j = 0 := fun j hj => by rw [hCt]; exact hzz t (by omega) j (by rw [← hNt]; exact hj)
  obtain ⟨f2, hf2⟩ : ∃ f : Nat → Int64, f = (zant (P a) (n0 a)) := ⟨_, rfl⟩
  have hf2C : f2 = zant (C a) (dg a) := by rw [hf2, hCa, hNa]
  have hf2z : ∀ j, dg a + 1 < j → f2 j = 0 := by rw [hf2C]; exact zant_0 _ _
  refine lv_iload_n hx hb dX3_antidifferentiate_0 rfl (lv_at hl 1 rfl) ?_
  refine zcallS (As := [.int (nI a)]) (rest := []) (k := 1) hx hb hml hown hts (kX3_isSeries l D cL cI cR A F 7 (zME cL cI F C dg Y) (nI a) 1 (if_pos (zin_nI (a := 7) (by omega) (by decide))).symm) gX3_antidifferentiate_X3_isSeries rfl (by decide +kernel) ⟨Nat.le_of_ble_eq_true rfl, Nat.le_of_ble_eq_true rfl⟩ hAm hP hS rfl hl.1 rfl (Nat.le_of_ble_eq_true rfl) dX3_antidifferentiate_1 ⟨Nat.zero_le _, Nat.zero_le _⟩ (zkn (fun H locs hP hS => ?_))
  refine W.eq (g2 := F0 m 4 ls [.int (nI 1)]) rfl ?_
  refine zf_eq (tgt := 14) hx hb dX3_antidifferentiate_4 (by decide) (by omega) (fun c1 => ?_) (fun c1 => ?_)
  ·
    exfalso; omega
  ·
    refine lv_iload_n hx hb dX3_antidifferentiate_7 rfl (lv_at hl 2 rfl) ?_
    refine zcallS (As := [.int (nI t)]) (rest := []) (k := 1) hx hb hml hown hts (kX3_isSeries l D cL cI cR A F 7 (zME cL cI F C dg Y) (nI t) 1 (if_pos (zin_nI (a := 7) (by omega) (by decide))).symm) gX3_antidifferentiate_X3_isSeries rfl (by decide +kernel) ⟨Nat.le_of_ble_eq_true rfl, Nat.le_of_ble_eq_true rfl⟩ hAm hP hS rfl hl.1 rfl (Nat.le_of_ble_eq_true rfl) dX3_antidifferentiate_8 ⟨Nat.zero_le _, Nat.zero_le _⟩ (zkn (fun H locs hP hS => ?_))
    refine W.eq (g2 := F0 m 11 ls [.int (nI 1)]) rfl ?_
    refine zf_ne (tgt := 18) hx hb dX3_antidifferentiate_11 (by decide) (by omega) (fun c2 => ?_) (fun c2 => ?_)
    ·
      refine lv_aload_n hx hb dX3_antidifferentiate_18 rfl (lv_at hl 0 rfl) ?_
      refine zget (q := 0) (k := 1) (v := .ref (F 2)) hx hb hts hinX3 hown hAm hP (by omega) (zM_o) rfl (by decide) (hts (.fieldLink RX3 13 "CosineSeriesModel" "degrees" "[I") (by decide +kernel)) (by first | rfl | simp [va_up, *]) dX3_antidifferentiate_19 ?_
      refine lv_iload_n hx hb dX3_antidifferentiate_22 rfl (lv_at hl 1 rfl) ?_
      refine ziald (q := 2) (k := a) (v := (nI (dg a))) hx hb hAm hP (by omega) (zM_d) (by omega) (by decide) (by first | rfl | simp [va_up, *]) dX3_antidifferentiate_23 ?_
      refine lv_iconst (v := nI 1) hx hb dX3_antidifferentiate_24 (by decide +kernel) ?_
      refine ziadd (d := ((dg a) + 1)) hx hb (by omega) dX3_antidifferentiate_25 ?_
      refine lv_istore_n (lv' := [(3, .int (nI ((dg a) + 1))), (0, .ref (F 0)), (1, .int (nI a)), (2, .int (nI t))]) hx hb dX3_antidifferentiate_26 rfl hl (by decide) rfl (fun ls hl => ?_)
      refine lv_aload_n hx hb dX3_antidifferentiate_27 rfl (lv_at hl 1 rfl) ?_
      refine lv_bipush (v := nI 8) hx hb dX3_antidifferentiate_28 (by decide +kernel) ?_
      refine lv_iload_n hx hb dX3_antidifferentiate_30 rfl (lv_at hl 0 rfl) ?_
      refine zcallV (As := [.int (nI 8), .int (nI ((dg a) + 1))]) (rest := []) (q := 0) (k := 2) hx hb hml hown hts (kX3_clears l D cL cI cR A F hF C dg Y 8 (by omega) ((dg a) + 1) (by omega)) gX3_antidifferentiate_X3_clears rfl (by decide +kernel) ⟨Nat.le_of_ble_eq_true rfl, Nat.le_of_ble_eq_true rfl⟩ rfl (by omega) (zM_o) rfl rfl hAm hP hS rfl hl.1 rfl (Nat.le_of_ble_eq_true rfl) dX3_antidifferentiate_31 ⟨Nat.zero_le _, Nat.zero_le _⟩ (zkn (fun H locs hP hS => ?_))
      refine W.eq (g2 := F0 m 34 ls []) rfl ?_
      refine lv_lconst (v := (0 : Int64)) hx hb dX3_antidifferentiate_34 (by decide +kernel) ?_
      refine lv_lstore (lv' := [(4, .long (0 : Int64)), (3, .int (nI ((dg a) + 1))), (0, .ref (F 0)), (1, .int (nI a)), (2, .int (nI t))]) hx hb dX3_antidifferentiate_35 hl (by decide) rfl (fun ls hl => ?_)
      refine lv_iconst (v := nI 1) hx hb dX3_antidifferentiate_37 (by decide +kernel) ?_
      refine lv_istore (lv' := [(6, .int (nI 1)), (4, .long (0 : Int64)), (3, .int (nI ((dg a) + 1))), (0, .ref (F 0)), (1, .int (nI a)), (2, .int (nI t))]) hx hb dX3_antidifferentiate_38 hl (by decide) rfl (fun ls hl => ?_)
      have L40 : ∀ (n : Nat) (m1 : Nat) (f : Nat → Int64) (u : Int64) (hm1 : m1 ≤ dg a + 1) (hf : ∀ j, f j = if 1 ≤ j ∧ j ≤ m1 then ztm (C a) j else 0) (hu : u = zsgn (C a) m1) (hn : dg a + 1 - m1 < n) (H : Heap) (locs : List Loc), va_P D vwCl (zq_wd F 7 (zME cL cI F (va_up C 8 f) (va_up dg 8 (dg a + 1)) Y)) H → va_S A s.heap H locs → ∀ (ls : Array Slot), lv_has ls 9 [(0, .ref (F 0)), (1, .int (nI a)), (2, .int (nI t)), (3, .int (nI (dg a + 1))), (4, .long u), (6, .int (nI (m1 + 1)))] → W p l e ({ frames := 3, cells := 0, slots := 0, locals := 70 }) s m ([.ref (F 0), .int (nI a), .int (nI t)] : List Value).toArray below meth c H locs 0 0 (zQ below D A F 7 [.ref (F 0), .int (nI a), .int (nI t)] s (zPM cL cI F (zkr (zant (P a) (n0 a))) (zkP P t (zant (P a) (n0 a))) (zkN n0 t (zant (P a) (n0 a))) Y.1)) (F0 m 40 ls []) := by
        intro n
        induction n with
        | zero =>
          intro m1 f u hm1 hf hu hn
          exact absurd hn (Nat.not_lt_zero _)
        | succ n ih40 =>
          intro m1 f u hm1 hf hu hn H locs hP hS ls hl
          refine lv_iload hx hb dX3_antidifferentiate_40 (lv_at hl 5 rfl) ?_
          refine lv_iload_n hx hb dX3_antidifferentiate_42 rfl (lv_at hl 3 rfl) ?_
          refine zi_gt (tgt := 127) hx hb dX3_antidifferentiate_43 (by decide) (by omega) (by omega) (fun c3 => ?_) (fun c3 => ?_)
          ·
            have hmt : m1 = dg a + 1 := by omega
            refine lv_aload_n hx hb dX3_antidifferentiate_127 rfl (lv_at hl 0 rfl) ?_
            refine lv_bipush (v := nI 8) hx hb dX3_antidifferentiate_128 (by decide +kernel) ?_
            refine lv_iconst (v := nI 0) hx hb dX3_antidifferentiate_130 (by decide +kernel) ?_
            refine lv_lload hx hb dX3_antidifferentiate_131 (lv_at hl 4 rfl) ?_
            refine lv_lneg hx hb dX3_antidifferentiate_133 ?_
            refine zcallV (As := [.int (nI 8), .int (nI 0), .long (-u)]) (rest := []) (q := 0) (k := 3) hx hb hml hown hts (kX3_sets l D cL cI cR A F hF (va_up C 8 f) (va_up dg 8 (dg a + 1)) Y 8 (by omega) 0 (by omega) (-u) (va_up C 8 (vp_updL f 0 (-u))) (by first | rfl | simp only [bx_uu, va_up_eq])) gX3_antidifferentiate_X3_sets rfl (by decide +kernel) ⟨Nat.le_of_ble_eq_true rfl, Nat.le_of_ble_eq_true rfl⟩ rfl (by omega) (zM_o) rfl rfl hAm hP hS rfl hl.1 rfl (Nat.le_of_ble_eq_true rfl) dX3_antidifferentiate_134 ⟨Nat.zero_le _, Nat.zero_le _⟩ (zkn (fun H locs hP hS => ?_))
            refine W.eq (g2 := F0 m 137 ls []) rfl ?_
            have hP : va_P D vwCl (zq_wd F 7 (zME cL cI F (va_up C 8 f2) (va_up dg 8 (dg a + 1)) Y)) H := by rw [show f2 = vp_updL f 0 (-u) from funext (fun j => by rw [hf2C]; unfold vp_updL zant; by_cases h0 : j = 0; (rw [if_pos h0, if_pos h0, hu, hmt]); (rw [if_neg h0, if_neg h0, hf j, hmt]; by_cases h : j ≤ dg a + 1; (rw [if_pos h, if_pos (by omega)]); (rw [if_neg h, if_neg (by omega)])))]; exact hP
            refine lv_aload_n hx hb dX3_antidifferentiate_137 rfl (lv_at hl 0 rfl) ?_
            refine lv_iload_n hx hb dX3_antidifferentiate_138 rfl (lv_at hl 2 rfl) ?_
            refine zcallV (As := [.int (nI t)]) (rest := []) (q := 0) (k := 1) hx hb hml hown hts (kX3_gives l D cL cI cR A F hF (va_up C 8 f2) (va_up dg 8 (dg a + 1)) Y t (by omega) f2 (va_up_eq _ _ _) (dg a + 1) (va_up_eq _ _ _) (by omega) hf2z (zkP (va_up C 8 f2) t f2) (zkN (va_up (va_up dg 8 (dg a + 1)) 8 (ztop f2 48)) t f2) rfl rfl) gX3_antidifferentiate_X3_gives rfl (by decide +kernel) ⟨Nat.le_of_ble_eq_true rfl, Nat.le_of_ble_eq_true rfl⟩ rfl (by omega) (zM_o) rfl rfl hAm hP hS rfl hl.1 rfl (Nat.le_of_ble_eq_true rfl) dX3_antidifferentiate_139 ⟨Nat.zero_le _, Nat.zero_le _⟩ (zkn (fun H locs hP hS => ?_))
            refine W.eq (g2 := F0 m 142 ls [.long (zkr f2)]) rfl ?_
            exact zretL hx hb hr hlk hS hP dX3_antidifferentiate_142 ⟨_, _, _, rfl, by rw [← hf2], by rw [← hf2]; exact (fun i hi => zend_keep2 (fun i hi => ⟨by (repeat rw [zup8 _ _ (by omega)]); exact (hCP i hi).1, by (repeat rw [zup8 _ _ (by omega)]); exact (hCP i hi).2⟩) i hi), fun _ _ => rfl⟩
          ·
            refine lv_iload hx hb dX3_antidifferentiate_46 (lv_at hl 5 rfl) ?_
            refine lv_iconst (v := nI 1) hx hb dX3_antidifferentiate_48 (by decide +kernel) ?_
            refine zi_ne (tgt := 58) hx hb dX3_antidifferentiate_49 (by decide) (by omega) (by omega) (fun c4 => ?_) (fun c4 => ?_)
            ·
              have hbe : 1 * C a m1 = (if m1 + 1 = 1 then 2 * C a 0 else C a (m1 + 1 - 1)) := by rw [if_neg (by omega), Int64.one_mul]; rfl
              refine lv_lconst (v := (1 : Int64)) hx hb dX3_antidifferentiate_58 (by decide +kernel) ?_
              refine lv_aload_n hx hb dX3_antidifferentiate_59 rfl (lv_at hl 0 rfl) ?_
              refine lv_iload_n hx hb dX3_antidifferentiate_60 rfl (lv_at hl 1 rfl) ?_
              refine lv_iload hx hb dX3_antidifferentiate_61 (lv_at hl 5 rfl) ?_
              refine lv_iconst (v := nI 1) hx hb dX3_antidifferentiate_63 (by decide +kernel) ?_
              refine zisub (d := m1) hx hb (by omega) dX3_antidifferentiate_64 ?_
              refine zcallV (As := [.int (nI a), .int (nI m1)]) (rest := [.long (1 : Int64)]) (q := 0) (k := 2) hx hb hml hown hts (kX3_of l D cL cI cR A F hF (va_up C 8 f) (va_up dg 8 (dg a + 1)) Y a (by omega) m1 (by omega) (C a m1) (zup8a (by omega) _)) gX3_antidifferentiate_X3_of rfl (by decide +kernel) ⟨Nat.le_of_ble_eq_true rfl, Nat.le_of_ble_eq_true rfl⟩ rfl (by omega) (zM_o) rfl rfl hAm hP hS rfl hl.1 rfl (Nat.le_of_ble_eq_true rfl) dX3_antidifferentiate_65 ⟨Nat.zero_le _, Nat.zero_le _⟩ (zkn (fun H locs hP hS => ?_))
              refine W.eq (g2 := F0 m 68 ls [.long (C a m1), .long (1 : Int64)]) rfl ?_
              refine lv_lmul hx hb dX3_antidifferentiate_68 ?_
              refine W.eq (g2 := F0 m 69 ls [.long (if m1 + 1 = 1 then 2 * C a 0 else C a (m1 + 1 - 1))]) (by rw [← hbe]) ?_
              refine lv_aload_n hx hb dX3_antidifferentiate_69 rfl (lv_at hl 0 rfl) ?_
              refine lv_iload_n hx hb dX3_antidifferentiate_70 rfl (lv_at hl 1 rfl) ?_
              refine lv_iload hx hb dX3_antidifferentiate_71 (lv_at hl 5 rfl) ?_
              refine lv_iconst (v := nI 1) hx hb dX3_antidifferentiate_73 (by decide +kernel) ?_
              refine ziadd (d := (m1 + 2)) hx hb (by omega) dX3_antidifferentiate_74 ?_
              refine zcallV (As := [.int (nI a), .int (nI (m1 + 2))]) (rest := [.long (if m1 + 1 = 1 then 2 * C a 0 else C a (m1 + 1 - 1))]) (q := 0) (k := 2) hx hb hml hown hts (kX3_of l D cL cI cR A F hF (va_up C 8 f) (va_up dg 8 (dg a + 1)) Y a (by omega) (m1 + 2) (by omega) (C a (m1 + 1 + 1)) (zup8a (by omega) _)) gX3_antidifferentiate_X3_of rfl (by decide +kernel) ⟨Nat.le_of_ble_eq_true rfl, Nat.le_of_ble_eq_true rfl⟩ rfl (by omega) (zM_o) rfl rfl hAm hP hS rfl hl.1 rfl (Nat.le_of_ble_eq_true rfl) dX3_antidifferentiate_75 ⟨Nat.zero_le _, Nat.zero_le _⟩ (zkn (fun H locs hP hS => ?_))
              refine W.eq (g2 := F0 m 78 ls [.long (C a (m1 + 1 + 1)), .long (if m1 + 1 = 1 then 2 * C a 0 else C a (m1 + 1 - 1))]) rfl ?_
              refine lv_lsub hx hb dX3_antidifferentiate_78 ?_
              refine lv_ldc2 hx hb hown (hts (.constantLong RX3 47 (2)) (by decide +kernel)) dX3_antidifferentiate_79 ?_
              refine lv_iload hx hb dX3_antidifferentiate_82 (lv_at hl 5 rfl) ?_
              refine zi2l hx hb (by omega) dX3_antidifferentiate_84 ?_
              refine lv_lmul hx hb dX3_antidifferentiate_85 ?_
              obtain ⟨z0, hz0⟩ : ∃ z0 : Int64, z0 = ztm (C a) (m1 + 1) := ⟨_, rfl⟩
              have htm := hz0
              refine zcallS (As := [.long ((if m1 + 1 = 1 then 2 * C a 0 else C a (m1 + 1 - 1)) - (C a (m1 + 1 + 1))), .long ((2 : Int64) * (lN (m1 + 1)))]) (rest := []) (k := 2) hx hb hml hown hts (kX3_rounded l D cL cI cR A F 7 (zME cL cI F (va_up C 8 f) (va_up dg 8 (dg a + 1)) Y) ((if m1 + 1 = 1 then 2 * C a 0 else C a (m1 + 1 - 1)) - C a (m1 + 1 + 1)) (2 * lN (m1 + 1)) (zl2pos (by omega) (by omega))) gX3_antidifferentiate_X3_rounded rfl (by decide +kernel) ⟨Nat.le_of_ble_eq_true rfl, Nat.le_of_ble_eq_true rfl⟩ hAm hP hS rfl hl.1 rfl (Nat.le_of_ble_eq_true rfl) dX3_antidifferentiate_86 ⟨Nat.zero_le _, Nat.zero_le _⟩ (zkn (fun H locs hP hS => ?_))
              refine W.eq (g2 := F0 m 89 ls [.long (ztm (C a) (m1 + 1))]) rfl ?_
              refine lv_lstore (lv' := [(7, .long (ztm (C a) (m1 + 1))), (0, .ref (F 0)), (1, .int (nI a)), (2, .int (nI t)), (3, .int (nI (dg a + 1))), (4, .long u), (6, .int (nI (m1 + 1)))]) hx hb dX3_antidifferentiate_89 hl (by decide) rfl (fun ls hl => ?_)
              have hl : lv_has ls 9 [(7, .long z0), (0, .ref (F 0)), (1, .int (nI a)), (2, .int (nI t)), (3, .int (nI (dg a + 1))), (4, .long u), (6, .int (nI (m1 + 1)))] := by rw [hz0]; exact hl
              refine lv_aload_n hx hb dX3_antidifferentiate_91 rfl (lv_at hl 1 rfl) ?_
              refine lv_bipush (v := nI 8) hx hb dX3_antidifferentiate_92 (by decide +kernel) ?_
              refine lv_iload hx hb dX3_antidifferentiate_94 (lv_at hl 6 rfl) ?_
              refine lv_lload hx hb dX3_antidifferentiate_96 (lv_at hl 0 rfl) ?_
              refine zcallV (As := [.int (nI 8), .int (nI (m1 + 1)), .long z0]) (rest := []) (q := 0) (k := 3) hx hb hml hown hts (kX3_sets l D cL cI cR A F hF (va_up C 8 f) (va_up dg 8 (dg a + 1)) Y 8 (by omega) (m1 + 1) (by omega) z0 (va_up C 8 (vp_updL f (m1 + 1) z0)) (by first | rfl | simp only [bx_uu, va_up_eq])) gX3_antidifferentiate_X3_sets rfl (by decide +kernel) ⟨Nat.le_of_ble_eq_true rfl, Nat.le_of_ble_eq_true rfl⟩ rfl (by omega) (zM_o) rfl rfl hAm hP hS rfl hl.1 rfl (Nat.le_of_ble_eq_true rfl) dX3_antidifferentiate_98 ⟨Nat.zero_le _, Nat.zero_le _⟩ (zkn (fun H locs hP hS => ?_))
              refine W.eq (g2 := F0 m 101 ls []) rfl ?_
              refine lv_lload hx hb dX3_antidifferentiate_101 (lv_at hl 5 rfl) ?_
              refine lv_iload hx hb dX3_antidifferentiate_103 (lv_at hl 6 rfl) ?_
              refine lv_iconst (v := nI 2) hx hb dX3_antidifferentiate_105 (by decide +kernel) ?_
              refine lv_irem hx hb dX3_antidifferentiate_106 (znI_ne (by omega) (by omega)) ?_
              refine W.eq (g2 := F0 m 107 ls [.int (nI ((m1 + 1) % 2)), .long u]) (by rw [zrem2 (by omega)]) ?_
              refine zf_ne (tgt := 115) hx hb dX3_antidifferentiate_107 (by decide) (by omega) (fun c5 => ?_) (fun c5 => ?_)
              ·
                refine lv_lload hx hb dX3_antidifferentiate_115 (lv_at hl 0 rfl) ?_
                refine lv_lneg hx hb dX3_antidifferentiate_117 ?_
                refine lv_ladd hx hb dX3_antidifferentiate_118 ?_
                refine lv_lstore (lv' := [(4, .long (u + (-z0))), (7, .long z0), (0, .ref (F 0)), (1, .int (nI a)), (2, .int (nI t)), (3, .int (nI (dg a + 1))), (6, .int (nI (m1 + 1)))]) hx hb dX3_antidifferentiate_119 hl (by decide) rfl (fun ls hl => ?_)
                refine lv_iinc (v := (nI (m1 + 2))) (lv' := [(6, .int (nI (m1 + 2))), (4, .long (u + (-z0))), (7, .long z0), (0, .ref (F 0)), (1, .int (nI a)), (2, .int (nI t)), (3, .int (nI (dg a + 1)))]) hx hb dX3_antidifferentiate_121 hl (k := 6) rfl (zinc (by omega)) (by decide) rfl (fun ls hl => ?_)
                refine lv_goto (tgt := 40) hx hb dX3_antidifferentiate_124 (by decide) ?_
                exact ih40 (m1 + 1) _ (u + (-z0)) (by omega) (fun j => by unfold vp_updL; split; (rename_i h; rw [h, if_pos (by omega), ← htm]); (rw [hf j]; by_cases h : 1 ≤ j ∧ j ≤ m1; (rw [if_pos h, if_pos (by omega)]); (rw [if_neg h, if_neg (by omega)]))) (by simp only [zsgn]; rw [hu, ← htm]; first | rw [if_pos (by omega)] | rw [if_neg (by omega)]) (by omega) H _ hP hS ls (lv_sub hl [3, 4, 5, 6, 1, 0] rfl)
              ·
                refine lv_lload hx hb dX3_antidifferentiate_110 (lv_at hl 0 rfl) ?_
                refine lv_goto (tgt := 118) hx hb dX3_antidifferentiate_112 (by decide) ?_
                refine lv_ladd hx hb dX3_antidifferentiate_118 ?_
                refine lv_lstore (lv' := [(4, .long (u + z0)), (7, .long z0), (0, .ref (F 0)), (1, .int (nI a)), (2, .int (nI t)), (3, .int (nI (dg a + 1))), (6, .int (nI (m1 + 1)))]) hx hb dX3_antidifferentiate_119 hl (by decide) rfl (fun ls hl => ?_)
                refine lv_iinc (v := (nI (m1 + 2))) (lv' := [(6, .int (nI (m1 + 2))), (4, .long (u + z0)), (7, .long z0), (0, .ref (F 0)), (1, .int (nI a)), (2, .int (nI t)), (3, .int (nI (dg a + 1)))]) hx hb dX3_antidifferentiate_121 hl (k := 6) rfl (zinc (by omega)) (by decide) rfl (fun ls hl => ?_)
                refine lv_goto (tgt := 40) hx hb dX3_antidifferentiate_124 (by decide) ?_
                exact ih40 (m1 + 1) _ (u + z0) (by omega) (fun j => by unfold vp_updL; split; (rename_i h; rw [h, if_pos (by omega), ← htm]); (rw [hf j]; by_cases h : 1 ≤ j ∧ j ≤ m1; (rw [if_pos h, if_pos (by omega)]); (rw [if_neg h, if_neg (by omega)]))) (by simp only [zsgn]; rw [hu, ← htm]; first | rw [if_pos (by omega)] | rw [if_neg (by omega)]) (by omega) H _ hP hS ls (lv_sub hl [3, 4, 5, 6, 1, 0] rfl)
            ·
              have hbe : 2 * C a m1 = (if m1 + 1 = 1 then 2 * C a 0 else C a (m1 + 1 - 1)) := by rw [if_pos (by omega), show m1 = 0 by omega]
              refine lv_ldc2 hx hb hown (hts (.constantLong RX3 47 (2)) (by decide +kernel)) dX3_antidifferentiate_52 ?_
              refine lv_goto (tgt := 59) hx hb dX3_antidifferentiate_55 (by decide) ?_
              refine lv_aload_n hx hb dX3_antidifferentiate_59 rfl (lv_at hl 0 rfl) ?_
              refine lv_iload_n hx hb dX3_antidifferentiate_60 rfl (lv_at hl 1 rfl) ?_
              refine lv_iload hx hb dX3_antidifferentiate_61 (lv_at hl 5 rfl) ?_
              refine lv_iconst (v := nI 1) hx hb dX3_antidifferentiate_63 (by decide +kernel) ?_
              refine zisub (d := m1) hx hb (by omega) dX3_antidifferentiate_64 ?_
              refine zcallV (As := [.int (nI a), .int (nI m1)]) (rest := [.long (2 : Int64)]) (q := 0) (k := 2) hx hb hml hown hts (kX3_of l D cL cI cR A F hF (va_up C 8 f) (va_up dg 8 (dg a + 1)) Y a (by omega) m1 (by omega) (C a m1) (zup8a (by omega) _)) gX3_antidifferentiate_X3_of rfl (by decide +kernel) ⟨Nat.le_of_ble_eq_true rfl, Nat.le_of_ble_eq_true rfl⟩ rfl (by omega) (zM_o) rfl rfl hAm hP hS rfl hl.1 rfl (Nat.le_of_ble_eq_true rfl) dX3_antidifferentiate_65 ⟨Nat.zero_le _, Nat.zero_le _⟩ (zkn (fun H locs hP hS => ?_))
              refine W.eq (g2 := F0 m 68 ls [.long (C a m1), .long (2 : Int64)]) rfl ?_
              refine lv_lmul hx hb dX3_antidifferentiate_68 ?_
              refine W.eq (g2 := F0 m 69 ls [.long (if m1 + 1 = 1 then 2 * C a 0 else C a (m1 + 1 - 1))]) (by rw [← hbe]) ?_
              refine lv_aload_n hx hb dX3_antidifferentiate_69 rfl (lv_at hl 0 rfl) ?_
              refine lv_iload_n hx hb dX3_antidifferentiate_70 rfl (lv_at hl 1 rfl) ?_
              refine lv_iload hx hb dX3_antidifferentiate_71 (lv_at hl 5 rfl) ?_
              refine lv_iconst (v := nI 1) hx hb dX3_antidifferentiate_73 (by decide +kernel) ?_
              refine ziadd (d := (m1 + 2)) hx hb (by omega) dX3_antidifferentiate_74 ?_
              refine zcallV (As := [.int (nI a), .int (nI (m1 + 2))]) (rest := [.long (if m1 + 1 = 1 then 2 * C a 0 else C a (m1 + 1 - 1))]) (q := 0) (k := 2) hx hb hml hown hts (kX3_of l D cL cI cR A F hF (va_up C 8 f) (va_up dg 8 (dg a + 1)) Y a (by omega) (m1 + 2) (by omega) (C a (m1 + 1 + 1)) (zup8a (by omega) _)) gX3_antidifferentiate_X3_of rfl (by decide +kernel) ⟨Nat.le_of_ble_eq_true rfl, Nat.le_of_ble_eq_true rfl⟩ rfl (by omega) (zM_o) rfl rfl hAm hP hS rfl hl.1 rfl (Nat.le_of_ble_eq_true rfl) dX3_antidifferentiate_75 ⟨Nat.zero_le _, Nat.zero_le _⟩ (zkn (fun H locs hP hS => ?_))
              refine W.eq (g2 := F0 m 78 ls [.long (C a (m1 + 1 + 1)), .long (if m1 + 1 = 1 then 2 * C a 0 else C a (m1 + 1 - 1))]) rfl ?_
              refine lv_lsub hx hb dX3_antidifferentiate_78 ?_
              refine lv_ldc2 hx hb hown (hts (.constantLong RX3 47 (2)) (by decide +kernel)) dX3_antidifferentiate_79 ?_
              refine lv_iload hx hb dX3_antidifferentiate_82 (lv_at hl 5 rfl) ?_
              refine zi2l hx hb (by omega) dX3_antidifferentiate_84 ?_
              refine lv_lmul hx hb dX3_antidifferentiate_85 ?_
              obtain ⟨z0, hz0⟩ : ∃ z0 : Int64, z0 = ztm (C a) (m1 + 1) := ⟨_, rfl⟩
              have htm := hz0
              refine zcallS (As := [.long ((if m1 + 1 = 1 then 2 * C a 0 else C a (m1 + 1 - 1)) - (C a (m1 + 1 + 1))), .long ((2 : Int64) * (lN (m1 + 1)))]) (rest := []) (k := 2) hx hb hml hown hts (kX3_rounded l D cL cI cR A F 7 (zME cL cI F (va_up C 8 f) (va_up dg 8 (dg a + 1)) Y) ((if m1 + 1 = 1 then 2 * C a 0 else C a (m1 + 1 - 1)) - C a (m1 + 1 + 1)) (2 * lN (m1 + 1)) (zl2pos (by omega) (by omega))) gX3_antidifferentiate_X3_rounded rfl (by decide +kernel) ⟨Nat.le_of_ble_eq_true rfl, Nat.le_of_ble_eq_true rfl⟩ hAm hP hS rfl hl.1 rfl (Nat.le_of_ble_eq_true rfl) dX3_antidifferentiate_86 ⟨Nat.zero_le _, Nat.zero_le _⟩ (zkn (fun H locs hP hS => ?_))
              refine W.eq (g2 := F0 m 89 ls [.long (ztm (C a) (m1 + 1))]) rfl ?_
              refine lv_lstore (lv' := [(7, .long (ztm (C a) (m1 + 1))), (0, .ref (F 0)), (1, .int (nI a)), (2, .int (nI t)), (3, .int (nI (dg a + 1))), (4, .long u), (6, .int (nI (m1 + 1)))]) hx hb dX3_antidifferentiate_89 hl (by decide) rfl (fun ls hl => ?_)
              have hl : lv_has ls 9 [(7, .long z0), (0, .ref (F 0)), (1, .int (nI a)), (2, .int (nI t)), (3, .int (nI (dg a + 1))), (4, .long u), (6, .int (nI (m1 + 1)))] := by rw [hz0]; exact hl
              refine lv_aload_n hx hb dX3_antidifferentiate_91 rfl (lv_at hl 1 rfl) ?_
              refine lv_bipush (v := nI 8) hx hb dX3_antidifferentiate_92 (by decide +kernel) ?_
              refine lv_iload hx hb dX3_antidifferentiate_94 (lv_at hl 6 rfl) ?_
              refine lv_lload hx hb dX3_antidifferentiate_96 (lv_at hl 0 rfl) ?_
              refine zcallV (As := [.int (nI 8), .int (nI (m1 + 1)), .long z0]) (rest := []) (q := 0) (k := 3) hx hb hml hown hts (kX3_sets l D cL cI cR A F hF (va_up C 8 f) (va_up dg 8 (dg a + 1)) Y 8 (by omega) (m1 + 1) (by omega) z0 (va_up C 8 (vp_updL f (m1 + 1) z0)) (by first | rfl | simp only [bx_uu, va_up_eq])) gX3_antidifferentiate_X3_sets rfl (by decide +kernel) ⟨Nat.le_of_ble_eq_true rfl, Nat.le_of_ble_eq_true rfl⟩ rfl (by omega) (zM_o) rfl rfl hAm hP hS rfl hl.1 rfl (Nat.le_of_ble_eq_true rfl) dX3_antidifferentiate_98 ⟨Nat.zero_le _, Nat.zero_le _⟩ (zkn (fun H locs hP hS => ?_))
              refine W.eq (g2 := F0 m 101 ls []) rfl ?_
              refine lv_lload hx hb dX3_antidifferentiate_101 (lv_at hl 5 rfl) ?_
              refine lv_iload hx hb dX3_antidifferentiate_103 (lv_at hl 6 rfl) ?_
              refine lv_iconst (v := nI 2) hx hb dX3_antidifferentiate_105 (by decide +kernel) ?_
              refine lv_irem hx hb dX3_antidifferentiate_106 (znI_ne (by omega) (by omega)) ?_
              refine W.eq (g2 := F0 m 107 ls [.int (nI ((m1 + 1) % 2)), .long u]) (by rw [zrem2 (by omega)]) ?_
              refine zf_ne (tgt := 115) hx hb dX3_antidifferentiate_107 (by decide) (by omega) (fun c6 => ?_) (fun c6 => ?_)
              ·
                refine lv_lload hx hb dX3_antidifferentiate_115 (lv_at hl 0 rfl) ?_
                refine lv_lneg hx hb dX3_antidifferentiate_117 ?_
                refine lv_ladd hx hb dX3_antidifferentiate_118 ?_
                refine lv_lstore (lv' := [(4, .long (u + (-z0))), (7, .long z0), (0, .ref (F 0)), (1, .int (nI a)), (2, .int (nI t)), (3, .int (nI (dg a + 1))), (6, .int (nI (m1 + 1)))]) hx hb dX3_antidifferentiate_119 hl (by decide) rfl (fun ls hl => ?_)
                refine lv_iinc (v := (nI (m1 + 2))) (lv' := [(6, .int (nI (m1 + 2))), (4, .long (u + (-z0))), (7, .long z0), (0, .ref (F 0)), (1, .int (nI a)), (2, .int (nI t)), (3, .int (nI (dg a + 1)))]) hx hb dX3_antidifferentiate_121 hl (k := 6) rfl (zinc (by omega)) (by decide) rfl (fun ls hl => ?_)
                refine lv_goto (tgt := 40) hx hb dX3_antidifferentiate_124 (by decide) ?_
                exact ih40 (m1 + 1) _ (u + (-z0)) (by omega) (fun j => by unfold vp_updL; split; (rename_i h; rw [h, if_pos (by omega), ← htm]); (rw [hf j]; by_cases h : 1 ≤ j ∧ j ≤ m1; (rw [if_pos h, if_pos (by omega)]); (rw [if_neg h, if_neg (by omega)]))) (by simp only [zsgn]; rw [hu, ← htm]; first | rw [if_pos (by omega)] | rw [if_neg (by omega)]) (by omega) H _ hP hS ls (lv_sub hl [3, 4, 5, 6, 1, 0] rfl)
              ·
                refine lv_lload hx hb dX3_antidifferentiate_110 (lv_at hl 0 rfl) ?_
                refine lv_goto (tgt := 118) hx hb dX3_antidifferentiate_112 (by decide) ?_
                refine lv_ladd hx hb dX3_antidifferentiate_118 ?_
                refine lv_lstore (lv' := [(4, .long (u + z0)), (7, .long z0), (0, .ref (F 0)), (1, .int (nI a)), (2, .int (nI t)), (3, .int (nI (dg a + 1))), (6, .int (nI (m1 + 1)))]) hx hb dX3_antidifferentiate_119 hl (by decide) rfl (fun ls hl => ?_)
                refine lv_iinc (v := (nI (m1 + 2))) (lv' := [(6, .int (nI (m1 + 2))), (4, .long (u + z0)), (7, .long z0), (0, .ref (F 0)), (1, .int (nI a)), (2, .int (nI t)), (3, .int (nI (dg a + 1)))]) hx hb dX3_antidifferentiate_121 hl (k := 6) rfl (zinc (by omega)) (by decide) rfl (fun ls hl => ?_)
                refine lv_goto (tgt := 40) hx hb dX3_antidifferentiate_124 (by decide) ?_
                exact ih40 (m1 + 1) _ (u + z0) (by omega) (fun j => by unfold vp_updL; split; (rename_i h; rw [h, if_pos (by omega), ← htm]); (rw [hf j]; by_cases h : 1 ≤ j ∧ j ≤ m1; (rw [if_pos h, if_pos (by omega)]); (rw [if_neg h, if_neg (by omega)]))) (by simp only [zsgn]; rw [hu, ← htm]; first | rw [if_pos (by omega)] | rw [if_neg (by omega)]) (by omega) H _ hP hS ls (lv_sub hl [3, 4, 5, 6, 1, 0] rfl)
      exact L40 _ 0 (fun _ => 0) 0 (by omega) (fun j => by rw [if_neg (by omega)]) rfl (Nat.lt_succ_self _) H _ hP hS ls (lv_sub hl [3, 4, 5, 2, 1, 0] rfl)
    ·
      exfalso; omega

set_option maxHeartbeats 4000000 in
set_option maxRecDepth 100000 in
theorem kX3_divide (l : Launch) (D : va_G) (cL cI cR : ClassId) (A : Nat → Prop) (F : Nat → Nat) (hF : zq_F A F 7) (C : Nat → Nat → Int64) (dg : Nat → Nat) (Y : zZM) (P : Nat → Nat → Int64) (n0 : Nat → Nat) (hCP : ∀ i, i < 8 → C i = P i ∧ dg i = n0 i) (h24 : ∀ i, i < 8 → n0 i ≤ 24) (hzz : ∀ i, i < 8 → ∀ j, n0 i < j → P i j = 0) (a : Nat) (ha : a ≤ 7) (t : Nat) (ht : t ≤ 7) (r0 : Int32) (hr0 : zin (-1048576) 1048576 r0) : zCt l yX3_divide wsX3_divide 3 70 D cL cI cR A F 7 (zME cL cI F C dg Y) [.ref (F 0), .int (nI a), .int r0, .int (nI t)] (zPM cL cI F (if zkr (zquo (P a) (n0 a) r0.toInt64) < 0 then zkr (zquo (P a) (n0 a) r0.toInt64) else zval (P a) (n0 a) r0.toInt64) (zkP P t (zquo (P a) (n0 a) r0.toInt64)) (zkN n0 t (zquo (P a) (n0 a) r0.toInt64)) Y.1) := by
  refine zStart (cc := cX3_divide) (maxL := 9) (ret := (some .long)) (by decide +kernel) rfl (Nat.le_of_ble_eq_true rfl) ?_
  intro p e s m below meth c hx hb hr hml hlk hown hts hAm H hP hS ls hl
  have hown : s.vm.findClass RX3 = some m.cls := hown
  have hl : lv_has ls 9 [(0, .ref (F 0)), (1, .int (nI a)), (2, .int r0), (3, .int (nI t))] := hl
  have hinX3 : ∀ w ∈ u_ws RX3 TX3 8, w ∈ wsX3_divide := by decide +kernel
  obtain ⟨hCa, hNa⟩ := hCP a (by omega)
  have h24a : dg a ≤ 24 := by rw [hNa]; exact h24 a (by omega)
  have hza : ∀ j, dg a < j → C a j = 0 := fun j hj => by rw [hCa]; exact hzz a (by omega) j (by rw [← hNa]; exact hj)
  obtain ⟨hCt, hNt⟩ := hCP t (by omega)
  have h24t : dg t ≤ 24 := by rw [hNt]; exact h24 t (by omega)
  have hzt : ∀ j, dg t < j → C t j = 0 := fun j hj => by rw [hCt]; exact hzz t (by omega) j (by rw [← hNt]; exact hj)
  obtain ⟨f2, hf2⟩ : ∃ f : Nat → Int64, f = (zquo (P a) (n0 a) r0.toInt64) := ⟨_, rfl⟩
  have h8a : ¬ a = 8 := by omega
  have hf2C : f2 = zquo (C a) (dg a) r0.toInt64 := by rw [hf2, hCa, hNa]
  have hf2z0 : ∀ j, (if dg a = 0 then 0 else dg a - 1) < j → f2 j = 0 := by rw [hf2C]; exact zquo_0 _ _ _
  obtain ⟨vz, hvz⟩ : ∃ z : Int64, z = zval (C a) (dg a) r0.toInt64 := ⟨_, rfl⟩
  refine lv_iload_n hx hb dX3_divide_0 rfl (lv_at hl 1 rfl) ?_
  refine zcallS (As := [.int (nI a)]) (rest := []) (k := 1) hx hb hml hown hts (kX3_isSeries l D cL cI cR A F 7 (zME cL cI F C dg Y) (nI a) 1 (if_pos (zin_nI (a := 7) (by omega) (by decide))).symm) gX3_divide_X3_isSeries rfl (by decide +kernel) ⟨Nat.le_of_ble_eq_true rfl, Nat.le_of_ble_eq_true rfl⟩ hAm hP hS rfl hl.1 rfl (Nat.le_of_ble_eq_true rfl) dX3_divide_1 ⟨Nat.zero_le _, Nat.zero_le _⟩ (zkn (fun H locs hP hS => ?_))
  refine W.eq (g2 := F0 m 4 ls [.int (nI 1)]) rfl ?_
  refine zf_eq (tgt := 21) hx hb dX3_divide_4 (by decide) (by omega) (fun c1 => ?_) (fun c1 => ?_)
  ·
    exfalso; omega
  ·
    refine lv_iload_n hx hb dX3_divide_7 rfl (lv_at hl 2 rfl) ?_
    refine zcallS (As := [.int r0]) (rest := []) (k := 1) hx hb hml hown hts (kX3_isPoint l D cL cI cR A F 7 (zME cL cI F C dg Y) r0 1 (if_pos hr0).symm) gX3_divide_X3_isPoint rfl (by decide +kernel) ⟨Nat.le_of_ble_eq_true rfl, Nat.le_of_ble_eq_true rfl⟩ hAm hP hS rfl hl.1 rfl (Nat.le_of_ble_eq_true rfl) dX3_divide_8 ⟨Nat.zero_le _, Nat.zero_le _⟩ (zkn (fun H locs hP hS => ?_))
    refine W.eq (g2 := F0 m 11 ls [.int (nI 1)]) rfl ?_
    refine zf_eq (tgt := 21) hx hb dX3_divide_11 (by decide) (by omega) (fun c2 => ?_) (fun c2 => ?_)
    ·
      exfalso; omega
    ·
      refine lv_iload_n hx hb dX3_divide_14 rfl (lv_at hl 3 rfl) ?_
      refine zcallS (As := [.int (nI t)]) (rest := []) (k := 1) hx hb hml hown hts (kX3_isSeries l D cL cI cR A F 7 (zME cL cI F C dg Y) (nI t) 1 (if_pos (zin_nI (a := 7) (by omega) (by decide))).symm) gX3_divide_X3_isSeries rfl (by decide +kernel) ⟨Nat.le_of_ble_eq_true rfl, Nat.le_of_ble_eq_true rfl⟩ hAm hP hS rfl hl.1 rfl (Nat.le_of_ble_eq_true rfl) dX3_divide_15 ⟨Nat.zero_le _, Nat.zero_le _⟩ (zkn (fun H locs hP hS => ?_))
      refine W.eq (g2 := F0 m 18 ls [.int (nI 1)]) rfl ?_
      refine zf_ne (tgt := 25) hx hb dX3_divide_18 (by decide) (by omega) (fun c3 => ?_) (fun c3 => ?_)
      ·
        refine lv_aload_n hx hb dX3_divide_25 rfl (lv_at hl 0 rfl) ?_
        refine zget (q := 0) (k := 1) (v := .ref (F 2)) hx hb hts hinX3 hown hAm hP (by omega) (zM_o) rfl (by decide) (hts (.fieldLink RX3 13 "CosineSeriesModel" "degrees" "[I") (by decide +kernel)) (by first | rfl | simp [va_up, *]) dX3_divide_26 ?_
        refine lv_iload_n hx hb dX3_divide_29 rfl (lv_at hl 1 rfl) ?_
        refine ziald (q := 2) (k := a) (v := (nI (dg a))) hx hb hAm hP (by omega) (zM_d) (by omega) (by decide) (by first | rfl | simp [va_up, *]) dX3_divide_30 ?_
        refine lv_istore (lv' := [(4, .int (nI (dg a))), (0, .ref (F 0)), (1, .int (nI a)), (2, .int r0), (3, .int (nI t))]) hx hb dX3_divide_31 hl (by decide) rfl (fun ls hl => ?_)
        refine lv_aload_n hx hb dX3_divide_33 rfl (lv_at hl 1 rfl) ?_
        refine lv_iload_n hx hb dX3_divide_34 rfl (lv_at hl 2 rfl) ?_
        refine lv_iload_n hx hb dX3_divide_35 rfl (lv_at hl 3 rfl) ?_
        refine lv_i2l (v := r0.toInt64) hx hb dX3_divide_36 rfl ?_
        refine zcallV (As := [.int (nI a), .long r0.toInt64]) (rest := []) (q := 0) (k := 2) hx hb hml hown hts (kX3_valueAt l D cL cI cR A F hF C dg Y a (by omega) r0.toInt64 (C a) (by first | rfl | simp [va_up, *]) (dg a) (by first | rfl | simp [va_up, *]) (by omega)) gX3_divide_X3_valueAt rfl (by decide +kernel) ⟨Nat.le_of_ble_eq_true rfl, Nat.le_of_ble_eq_true rfl⟩ rfl (by omega) (zM_o) rfl rfl hAm hP hS rfl hl.1 rfl (Nat.le_of_ble_eq_true rfl) dX3_divide_37 ⟨Nat.zero_le _, Nat.zero_le _⟩ (zkn (fun H locs hP hS => ?_))
        refine W.eq (g2 := F0 m 40 ls [.long (zval (C a) (dg a) r0.toInt64)]) rfl ?_
        refine W.eq (g2 := F0 m 40 ls [.long vz]) (by rw [hvz]) ?_
        refine lv_lstore (lv' := [(5, .long vz), (4, .int (nI (dg a))), (0, .ref (F 0)), (1, .int (nI a)), (2, .int r0), (3, .int (nI t))]) hx hb dX3_divide_40 hl (by decide) rfl (fun ls hl => ?_)
        refine lv_aload_n hx hb dX3_divide_42 rfl (lv_at hl 2 rfl) ?_
        refine lv_bipush (v := nI 8) hx hb dX3_divide_43 (by decide +kernel) ?_
        refine lv_iload hx hb dX3_divide_45 (lv_at hl 1 rfl) ?_
        refine zf_le (tgt := 57) hx hb dX3_divide_47 (by decide) (by omega) (fun c4 => ?_) (fun c4 => ?_)
        ·
          have hn0 : dg a = 0 := c4
          have hf2z : ∀ j, 0 < j → f2 j = 0 := by rw [if_pos hn0] at hf2z0; exact hf2z0
          refine lv_iconst (v := nI 0) hx hb dX3_divide_57 (by decide +kernel) ?_
          refine zcallV (As := [.int (nI 8), .int (nI 0)]) (rest := []) (q := 0) (k := 2) hx hb hml hown hts (kX3_clears l D cL cI cR A F hF C dg Y 8 (by omega) 0 (by omega)) gX3_divide_X3_clears rfl (by decide +kernel) ⟨Nat.le_of_ble_eq_true rfl, Nat.le_of_ble_eq_true rfl⟩ rfl (by omega) (zM_o) rfl rfl hAm hP hS rfl hl.1 rfl (Nat.le_of_ble_eq_true rfl) dX3_divide_58 ⟨Nat.zero_le _, Nat.zero_le _⟩ (zkn (fun H locs hP hS => ?_))
          refine W.eq (g2 := F0 m 61 ls []) rfl ?_
          refine lv_iload hx hb dX3_divide_61 (lv_at hl 1 rfl) ?_
          refine lv_istore (lv' := [(7, .int (nI (dg a))), (5, .long vz), (4, .int (nI (dg a))), (0, .ref (F 0)), (1, .int (nI a)), (2, .int r0), (3, .int (nI t))]) hx hb dX3_divide_63 hl (by decide) rfl (fun ls hl => ?_)
          have L65 : ∀ (n : Nat) (k : Nat) (f : Nat → Int64) (hk : k ≤ dg a) (hf : zquoF (C a) r0.toInt64 k f = zquoF (C a) r0.toInt64 (dg a) (fun _ => 0)) (hn : k < n) (H : Heap) (locs : List Loc), va_P D vwCl (zq_wd F 7 (zME cL cI F (va_up C 8 f) (va_up dg 8 0) Y)) H → va_S A s.heap H locs → ∀ (ls : Array Slot), lv_has ls 9 [(0, .ref (F 0)), (1, .int (nI a)), (2, .int r0), (3, .int (nI t)), (4, .int (nI (dg a))), (5, .long vz), (7, .int (nI k))] → W p l e ({ frames := 3, cells := 0, slots := 0, locals := 70 }) s m ([.ref (F 0), .int (nI a), .int r0, .int (nI t)] : List Value).toArray below meth c H locs 0 0 (zQ below D A F 7 [.ref (F 0), .int (nI a), .int r0, .int (nI t)] s (zPM cL cI F (if zkr (zquo (P a) (n0 a) r0.toInt64) < 0 then zkr (zquo (P a) (n0 a) r0.toInt64) else zval (P a) (n0 a) r0.toInt64) (zkP P t (zquo (P a) (n0 a) r0.toInt64)) (zkN n0 t (zquo (P a) (n0 a) r0.toInt64)) Y.1)) (F0 m 65 ls []) := by
            intro n
            induction n with
            | zero =>
              intro k f hk hf hn
              exact absurd hn (Nat.not_lt_zero _)
            | succ n ih65 =>
              intro k f hk hf hn H locs hP hS ls hl
              refine lv_iload hx hb dX3_divide_65 (lv_at hl 6 rfl) ?_
              refine lv_iconst (v := nI 2) hx hb dX3_divide_67 (by decide +kernel) ?_
              refine zi_lt (tgt := 131) hx hb dX3_divide_68 (by decide) (by omega) (by omega) (fun c5 => ?_) (fun c5 => ?_)
              ·
                refine lv_aload_n hx hb dX3_divide_131 rfl (lv_at hl 0 rfl) ?_
                refine lv_bipush (v := nI 8) hx hb dX3_divide_132 (by decide +kernel) ?_
                refine lv_iconst (v := nI 0) hx hb dX3_divide_134 (by decide +kernel) ?_
                refine lv_iload hx hb dX3_divide_135 (lv_at hl 4 rfl) ?_
                refine zf_ne (tgt := 144) hx hb dX3_divide_137 (by decide) (by omega) (fun c6 => ?_) (fun c6 => ?_)
                ·
                  exfalso; omega
                ·
                  refine lv_lconst (v := (0 : Int64)) hx hb dX3_divide_140 (by decide +kernel) ?_
                  have hfx : f2 = vp_updL f 0 0 := by
                    rw [hf2C, hn0, ← zquo_n0 _ _ (hza 1 (by omega))]
                    rw [hn0, show k = 0 by omega] at hf
                    rw [show f = (fun _ => 0) from hf]
                  refine lv_goto (tgt := 181) hx hb dX3_divide_141 (by decide) ?_
                  refine zcallV (As := [.int (nI 8), .int (nI 0), .long (0 : Int64)]) (rest := []) (q := 0) (k := 3) hx hb hml hown hts (kX3_sets l D cL cI cR A F hF (va_up C 8 f) (va_up dg 8 0) Y 8 (by omega) 0 (by omega) (0 : Int64) (va_up C 8 (vp_updL f 0 (0 : Int64))) (by first | rfl | simp only [bx_uu, va_up_eq])) gX3_divide_X3_sets rfl (by decide +kernel) ⟨Nat.le_of_ble_eq_true rfl, Nat.le_of_ble_eq_true rfl⟩ rfl (by omega) (zM_o) rfl rfl hAm hP hS rfl hl.1 rfl (Nat.le_of_ble_eq_true rfl) dX3_divide_181 ⟨Nat.zero_le _, Nat.zero_le _⟩ (zkn (fun H locs hP hS => ?_))
                  refine W.eq (g2 := F0 m 184 ls []) rfl ?_
                  have hP : va_P D vwCl (zq_wd F 7 (zME cL cI F (va_up C 8 f2) (va_up dg 8 0) Y)) H := by rw [hfx]; exact hP
                  refine lv_aload_n hx hb dX3_divide_184 rfl (lv_at hl 0 rfl) ?_
                  refine lv_iload_n hx hb dX3_divide_185 rfl (lv_at hl 3 rfl) ?_
                  refine zcallV (As := [.int (nI t)]) (rest := []) (q := 0) (k := 1) hx hb hml hown hts (kX3_gives l D cL cI cR A F hF (va_up C 8 f2) (va_up dg 8 0) Y t (by omega) f2 (va_up_eq _ _ _) 0 (va_up_eq _ _ _) (by omega) hf2z (zkP (va_up C 8 f2) t f2) (zkN (va_up (va_up dg 8 0) 8 (ztop f2 48)) t f2) rfl rfl) gX3_divide_X3_gives rfl (by decide +kernel) ⟨Nat.le_of_ble_eq_true rfl, Nat.le_of_ble_eq_true rfl⟩ rfl (by omega) (zM_o) rfl rfl hAm hP hS rfl hl.1 rfl (Nat.le_of_ble_eq_true rfl) dX3_divide_186 ⟨Nat.zero_le _, Nat.zero_le _⟩ (zkn (fun H locs hP hS => ?_))
                  refine W.eq (g2 := F0 m 189 ls [.long (zkr f2)]) rfl ?_
                  refine lv_lstore (lv' := [(7, .long (zkr f2)), (0, .ref (F 0)), (1, .int (nI a)), (2, .int r0), (3, .int (nI t)), (4, .int (nI (dg a))), (5, .long vz)]) hx hb dX3_divide_189 hl (by decide) rfl (fun ls hl => ?_)
                  refine lv_lload hx hb dX3_divide_191 (lv_at hl 0 rfl) ?_
                  refine lv_lconst (v := (0 : Int64)) hx hb dX3_divide_193 (by decide +kernel) ?_
                  refine zl_ge (tgt := 203) hx hb dX3_divide_194 dX3_divide_195 (by decide) (fun c7 => ?_) (fun c7 => ?_)
                  ·
                    refine lv_lload hx hb dX3_divide_203 (lv_at hl 6 rfl) ?_
                    exact zretL hx hb hr hlk hS hP dX3_divide_205 ⟨_, _, _, rfl, by rw [← hf2, if_neg (Int64.not_lt.mpr c7), hvz, hCa, hNa], by rw [← hf2]; exact (fun i hi => zend_keep2 (fun i hi => ⟨by (repeat rw [zup8 _ _ (by omega)]); exact (hCP i hi).1, by (repeat rw [zup8 _ _ (by omega)]); exact (hCP i hi).2⟩) i hi), fun _ _ => rfl⟩
                  ·
                    refine lv_lload hx hb dX3_divide_198 (lv_at hl 0 rfl) ?_
                    refine lv_goto (tgt := 205) hx hb dX3_divide_200 (by decide) ?_
                    exact zretL hx hb hr hlk hS hP dX3_divide_205 ⟨_, _, _, rfl, by rw [← hf2, if_pos (Int64.not_le.mp c7)], by rw [← hf2]; exact (fun i hi => zend_keep2 (fun i hi => ⟨by (repeat rw [zup8 _ _ (by omega)]); exact (hCP i hi).1, by (repeat rw [zup8 _ _ (by omega)]); exact (hCP i hi).2⟩) i hi), fun _ _ => rfl⟩
              ·
                exfalso; omega
          exact L65 _ (dg a) _ (by omega) rfl (Nat.lt_succ_self _) H _ hP hS ls (lv_sub hl [3, 4, 5, 6, 2, 1, 0] rfl)
        ·
          have hn1 : 0 < dg a := c4
          have hf2z : ∀ j, dg a - 1 < j → f2 j = 0 := by rw [if_neg (by omega)] at hf2z0; exact hf2z0
          refine lv_iload hx hb dX3_divide_50 (lv_at hl 1 rfl) ?_
          refine lv_iconst (v := nI 1) hx hb dX3_divide_52 (by decide +kernel) ?_
          refine zisub (d := ((dg a) - 1)) hx hb (by omega) dX3_divide_53 ?_
          refine lv_goto (tgt := 58) hx hb dX3_divide_54 (by decide) ?_
          refine zcallV (As := [.int (nI 8), .int (nI ((dg a) - 1))]) (rest := []) (q := 0) (k := 2) hx hb hml hown hts (kX3_clears l D cL cI cR A F hF C dg Y 8 (by omega) ((dg a) - 1) (by omega)) gX3_divide_X3_clears rfl (by decide +kernel) ⟨Nat.le_of_ble_eq_true rfl, Nat.le_of_ble_eq_true rfl⟩ rfl (by omega) (zM_o) rfl rfl hAm hP hS rfl hl.1 rfl (Nat.le_of_ble_eq_true rfl) dX3_divide_58 ⟨Nat.zero_le _, Nat.zero_le _⟩ (zkn (fun H locs hP hS => ?_))
          refine W.eq (g2 := F0 m 61 ls []) rfl ?_
          refine lv_iload hx hb dX3_divide_61 (lv_at hl 1 rfl) ?_
          refine lv_istore (lv' := [(7, .int (nI (dg a))), (5, .long vz), (4, .int (nI (dg a))), (0, .ref (F 0)), (1, .int (nI a)), (2, .int r0), (3, .int (nI t))]) hx hb dX3_divide_63 hl (by decide) rfl (fun ls hl => ?_)
          have L65 : ∀ (n : Nat) (k : Nat) (f : Nat → Int64) (hk : k ≤ dg a) (hf : zquoF (C a) r0.toInt64 k f = zquoF (C a) r0.toInt64 (dg a) (fun _ => 0)) (hn : k < n) (H : Heap) (locs : List Loc), va_P D vwCl (zq_wd F 7 (zME cL cI F (va_up C 8 f) (va_up dg 8 (dg a - 1)) Y)) H → va_S A s.heap H locs → ∀ (ls : Array Slot), lv_has ls 9 [(0, .ref (F 0)), (1, .int (nI a)), (2, .int r0), (3, .int (nI t)), (4, .int (nI (dg a))), (5, .long vz), (7, .int (nI k))] → W p l e ({ frames := 3, cells := 0, slots := 0, locals := 70 }) s m ([.ref (F 0), .int (nI a), .int r0, .int (nI t)] : List Value).toArray below meth c H locs 0 0 (zQ below D A F 7 [.ref (F 0), .int (nI a), .int r0, .int (nI t)] s (zPM cL cI F (if zkr (zquo (P a) (n0 a) r0.toInt64) < 0 then zkr (zquo (P a) (n0 a) r0.toInt64) else zval (P a) (n0 a) r0.toInt64) (zkP P t (zquo (P a) (n0 a) r0.toInt64)) (zkN n0 t (zquo (P a) (n0 a) r0.toInt64)) Y.1)) (F0 m 65 ls []) := by
            intro n
            induction n with
            | zero =>
              intro k f hk hf hn
              exact absurd hn (Nat.not_lt_zero _)
            | succ n ih65 =>
              intro k f hk hf hn H locs hP hS ls hl
              refine lv_iload hx hb dX3_divide_65 (lv_at hl 6 rfl) ?_
              refine lv_iconst (v := nI 2) hx hb dX3_divide_67 (by decide +kernel) ?_
              refine zi_lt (tgt := 131) hx hb dX3_divide_68 (by decide) (by omega) (by omega) (fun c8 => ?_) (fun c8 => ?_)
              ·
                have hf1 : zquoF (C a) r0.toInt64 k f = f := by
                  have h2 : k = 0 ∨ k = 1 := by omega
                  rcases h2 with h2 | h2 <;> rw [h2] <;> rfl
                rw [hf1] at hf
                have hfx : f2 = vp_updL f 0 (C a 1 + zR (r0.toInt64 * f 1) 1048576 - zR (f 2) 2) := by rw [hf2C]; unfold zquo; rw [← hf]
                refine lv_aload_n hx hb dX3_divide_131 rfl (lv_at hl 0 rfl) ?_
                refine lv_bipush (v := nI 8) hx hb dX3_divide_132 (by decide +kernel) ?_
                refine lv_iconst (v := nI 0) hx hb dX3_divide_134 (by decide +kernel) ?_
                refine lv_iload hx hb dX3_divide_135 (lv_at hl 4 rfl) ?_
                refine zf_ne (tgt := 144) hx hb dX3_divide_137 (by decide) (by omega) (fun c9 => ?_) (fun c9 => ?_)
                ·
                  refine lv_aload_n hx hb dX3_divide_144 rfl (lv_at hl 0 rfl) ?_
                  refine lv_iload_n hx hb dX3_divide_145 rfl (lv_at hl 1 rfl) ?_
                  refine lv_iconst (v := nI 1) hx hb dX3_divide_146 (by decide +kernel) ?_
                  refine zcallV (As := [.int (nI a), .int (nI 1)]) (rest := [.int (nI 0), .int (nI 8), .ref (F 0)]) (q := 0) (k := 2) hx hb hml hown hts (kX3_of l D cL cI cR A F hF (va_up C 8 f) (va_up dg 8 (dg a - 1)) Y a (by omega) 1 (by omega) (C a 1) (by simp [va_up, h8a])) gX3_divide_X3_of rfl (by decide +kernel) ⟨Nat.le_of_ble_eq_true rfl, Nat.le_of_ble_eq_true rfl⟩ rfl (by omega) (zM_o) rfl rfl hAm hP hS rfl hl.1 rfl (Nat.le_of_ble_eq_true rfl) dX3_divide_147 ⟨Nat.zero_le _, Nat.zero_le _⟩ (zkn (fun H locs hP hS => ?_))
                  refine W.eq (g2 := F0 m 150 ls [.long (C a 1), .int (nI 0), .int (nI 8), .ref (F 0)]) rfl ?_
                  refine lv_iload_n hx hb dX3_divide_150 rfl (lv_at hl 2 rfl) ?_
                  refine lv_i2l (v := r0.toInt64) hx hb dX3_divide_151 rfl ?_
                  refine lv_aload_n hx hb dX3_divide_152 rfl (lv_at hl 0 rfl) ?_
                  refine lv_bipush (v := nI 8) hx hb dX3_divide_153 (by decide +kernel) ?_
                  refine lv_iconst (v := nI 1) hx hb dX3_divide_155 (by decide +kernel) ?_
                  refine zcallV (As := [.int (nI 8), .int (nI 1)]) (rest := [.long r0.toInt64, .long (C a 1), .int (nI 0), .int (nI 8), .ref (F 0)]) (q := 0) (k := 2) hx hb hml hown hts (kX3_of l D cL cI cR A F hF (va_up C 8 f) (va_up dg 8 (dg a - 1)) Y 8 (by omega) 1 (by omega) (f 1) (by first | rfl | simp [va_up, *])) gX3_divide_X3_of rfl (by decide +kernel) ⟨Nat.le_of_ble_eq_true rfl, Nat.le_of_ble_eq_true rfl⟩ rfl (by omega) (zM_o) rfl rfl hAm hP hS rfl hl.1 rfl (Nat.le_of_ble_eq_true rfl) dX3_divide_156 ⟨Nat.zero_le _, Nat.zero_le _⟩ (zkn (fun H locs hP hS => ?_))
                  refine W.eq (g2 := F0 m 159 ls [.long (f 1), .long r0.toInt64, .long (C a 1), .int (nI 0), .int (nI 8), .ref (F 0)]) rfl ?_
                  refine lv_lmul hx hb dX3_divide_159 ?_
                  refine lv_ldc2 hx hb hown (hts (.constantLong RX3 45 (1048576)) (by decide +kernel)) dX3_divide_160 ?_
                  refine zcallS (As := [.long (r0.toInt64 * (f 1)), .long (1048576 : Int64)]) (rest := [.long (C a 1), .int (nI 0), .int (nI 8), .ref (F 0)]) (k := 2) hx hb hml hown hts (kX3_rounded l D cL cI cR A F 7 (zME cL cI F (va_up C 8 f) (va_up dg 8 (dg a - 1)) Y) (r0.toInt64 * (f 1)) (1048576 : Int64) (by decide)) gX3_divide_X3_rounded rfl (by decide +kernel) ⟨Nat.le_of_ble_eq_true rfl, Nat.le_of_ble_eq_true rfl⟩ hAm hP hS rfl hl.1 rfl (Nat.le_of_ble_eq_true rfl) dX3_divide_163 ⟨Nat.zero_le _, Nat.zero_le _⟩ (zkn (fun H locs hP hS => ?_))
                  refine W.eq (g2 := F0 m 166 ls [.long (zR (r0.toInt64 * (f 1)) (1048576 : Int64)), .long (C a 1), .int (nI 0), .int (nI 8), .ref (F 0)]) rfl ?_
                  refine lv_ladd hx hb dX3_divide_166 ?_
                  refine lv_aload_n hx hb dX3_divide_167 rfl (lv_at hl 0 rfl) ?_
                  refine lv_bipush (v := nI 8) hx hb dX3_divide_168 (by decide +kernel) ?_
                  refine lv_iconst (v := nI 2) hx hb dX3_divide_170 (by decide +kernel) ?_
                  refine zcallV (As := [.int (nI 8), .int (nI 2)]) (rest := [.long ((C a 1) + (zR (r0.toInt64 * (f 1)) (1048576 : Int64))), .int (nI 0), .int (nI 8), .ref (F 0)]) (q := 0) (k := 2) hx hb hml hown hts (kX3_of l D cL cI cR A F hF (va_up C 8 f) (va_up dg 8 (dg a - 1)) Y 8 (by omega) 2 (by omega) (f 2) (by first | rfl | simp [va_up, *])) gX3_divide_X3_of rfl (by decide +kernel) ⟨Nat.le_of_ble_eq_true rfl, Nat.le_of_ble_eq_true rfl⟩ rfl (by omega) (zM_o) rfl rfl hAm hP hS rfl hl.1 rfl (Nat.le_of_ble_eq_true rfl) dX3_divide_171 ⟨Nat.zero_le _, Nat.zero_le _⟩ (zkn (fun H locs hP hS => ?_))
                  refine W.eq (g2 := F0 m 174 ls [.long (f 2), .long ((C a 1) + (zR (r0.toInt64 * (f 1)) (1048576 : Int64))), .int (nI 0), .int (nI 8), .ref (F 0)]) rfl ?_
                  refine lv_ldc2 hx hb hown (hts (.constantLong RX3 47 (2)) (by decide +kernel)) dX3_divide_174 ?_
                  refine zcallS (As := [.long (f 2), .long (2 : Int64)]) (rest := [.long ((C a 1) + (zR (r0.toInt64 * (f 1)) (1048576 : Int64))), .int (nI 0), .int (nI 8), .ref (F 0)]) (k := 2) hx hb hml hown hts (kX3_rounded l D cL cI cR A F 7 (zME cL cI F (va_up C 8 f) (va_up dg 8 (dg a - 1)) Y) (f 2) (2 : Int64) (by decide)) gX3_divide_X3_rounded rfl (by decide +kernel) ⟨Nat.le_of_ble_eq_true rfl, Nat.le_of_ble_eq_true rfl⟩ hAm hP hS rfl hl.1 rfl (Nat.le_of_ble_eq_true rfl) dX3_divide_177 ⟨Nat.zero_le _, Nat.zero_le _⟩ (zkn (fun H locs hP hS => ?_))
                  refine W.eq (g2 := F0 m 180 ls [.long (zR (f 2) (2 : Int64)), .long ((C a 1) + (zR (r0.toInt64 * (f 1)) (1048576 : Int64))), .int (nI 0), .int (nI 8), .ref (F 0)]) rfl ?_
                  refine lv_lsub hx hb dX3_divide_180 ?_
                  refine zcallV (As := [.int (nI 8), .int (nI 0), .long (((C a 1) + (zR (r0.toInt64 * (f 1)) (1048576 : Int64))) - (zR (f 2) (2 : Int64)))]) (rest := []) (q := 0) (k := 3) hx hb hml hown hts (kX3_sets l D cL cI cR A F hF (va_up C 8 f) (va_up dg 8 (dg a - 1)) Y 8 (by omega) 0 (by omega) (((C a 1) + (zR (r0.toInt64 * (f 1)) (1048576 : Int64))) - (zR (f 2) (2 : Int64))) (va_up C 8 (vp_updL f 0 (((C a 1) + (zR (r0.toInt64 * (f 1)) (1048576 : Int64))) - (zR (f 2) (2 : Int64))))) (by first | rfl | simp only [bx_uu, va_up_eq])) gX3_divide_X3_sets rfl (by decide +kernel) ⟨Nat.le_of_ble_eq_true rfl, Nat.le_of_ble_eq_true rfl⟩ rfl (by omega) (zM_o) rfl rfl hAm hP hS rfl hl.1 rfl (Nat.le_of_ble_eq_true rfl) dX3_divide_181 ⟨Nat.zero_le _, Nat.zero_le _⟩ (zkn (fun H locs hP hS => ?_))
                  refine W.eq (g2 := F0 m 184 ls []) rfl ?_
                  have hP : va_P D vwCl (zq_wd F 7 (zME cL cI F (va_up C 8 f2) (va_up dg 8 (dg a - 1)) Y)) H := by rw [hfx]; exact hP
                  refine lv_aload_n hx hb dX3_divide_184 rfl (lv_at hl 0 rfl) ?_
                  refine lv_iload_n hx hb dX3_divide_185 rfl (lv_at hl 3 rfl) ?_
                  refine zcallV (As := [.int (nI t)]) (rest := []) (q := 0) (k := 1) hx hb hml hown hts (kX3_gives l D cL cI cR A F hF (va_up C 8 f2) (va_up dg 8 (dg a - 1)) Y t (by omega) f2 (va_up_eq _ _ _) (dg a - 1) (va_up_eq _ _ _) (by omega) hf2z (zkP (va_up C 8 f2) t f2) (zkN (va_up (va_up dg 8 (dg a - 1)) 8 (ztop f2 48)) t f2) rfl rfl) gX3_divide_X3_gives rfl (by decide +kernel) ⟨Nat.le_of_ble_eq_true rfl, Nat.le_of_ble_eq_true rfl⟩ rfl (by omega) (zM_o) rfl rfl hAm hP hS rfl hl.1 rfl (Nat.le_of_ble_eq_true rfl) dX3_divide_186 ⟨Nat.zero_le _, Nat.zero_le _⟩ (zkn (fun H locs hP hS => ?_))
                  refine W.eq (g2 := F0 m 189 ls [.long (zkr f2)]) rfl ?_
                  refine lv_lstore (lv' := [(7, .long (zkr f2)), (0, .ref (F 0)), (1, .int (nI a)), (2, .int r0), (3, .int (nI t)), (4, .int (nI (dg a))), (5, .long vz)]) hx hb dX3_divide_189 hl (by decide) rfl (fun ls hl => ?_)
                  refine lv_lload hx hb dX3_divide_191 (lv_at hl 0 rfl) ?_
                  refine lv_lconst (v := (0 : Int64)) hx hb dX3_divide_193 (by decide +kernel) ?_
                  refine zl_ge (tgt := 203) hx hb dX3_divide_194 dX3_divide_195 (by decide) (fun c10 => ?_) (fun c10 => ?_)
                  ·
                    refine lv_lload hx hb dX3_divide_203 (lv_at hl 6 rfl) ?_
                    exact zretL hx hb hr hlk hS hP dX3_divide_205 ⟨_, _, _, rfl, by rw [← hf2, if_neg (Int64.not_lt.mpr c10), hvz, hCa, hNa], by rw [← hf2]; exact (fun i hi => zend_keep2 (fun i hi => ⟨by (repeat rw [zup8 _ _ (by omega)]); exact (hCP i hi).1, by (repeat rw [zup8 _ _ (by omega)]); exact (hCP i hi).2⟩) i hi), fun _ _ => rfl⟩
                  ·
                    refine lv_lload hx hb dX3_divide_198 (lv_at hl 0 rfl) ?_
                    refine lv_goto (tgt := 205) hx hb dX3_divide_200 (by decide) ?_
                    exact zretL hx hb hr hlk hS hP dX3_divide_205 ⟨_, _, _, rfl, by rw [← hf2, if_pos (Int64.not_le.mp c10)], by rw [← hf2]; exact (fun i hi => zend_keep2 (fun i hi => ⟨by (repeat rw [zup8 _ _ (by omega)]); exact (hCP i hi).1, by (repeat rw [zup8 _ _ (by omega)]); exact (hCP i hi).2⟩) i hi), fun _ _ => rfl⟩
                ·
                  exfalso; omega
              ·
                obtain ⟨k, rfl⟩ : ∃ j, k = j + 2 := ⟨k - 2, by omega⟩
                have hl : lv_has ls 9 [(0, .ref (F 0)), (1, .int (nI a)), (2, .int r0), (3, .int (nI t)), (4, .int (nI (dg a))), (5, .long vz), (7, .int (nI (k + 2)))] := by exact hl
                refine lv_aload_n hx hb dX3_divide_71 rfl (lv_at hl 0 rfl) ?_
                refine lv_bipush (v := nI 8) hx hb dX3_divide_72 (by decide +kernel) ?_
                refine lv_iload hx hb dX3_divide_74 (lv_at hl 6 rfl) ?_
                refine lv_iconst (v := nI 1) hx hb dX3_divide_76 (by decide +kernel) ?_
                refine zisub (d := (k + 1)) hx hb (by omega) dX3_divide_77 ?_
                refine lv_ldc2 hx hb hown (hts (.constantLong RX3 47 (2)) (by decide +kernel)) dX3_divide_78 ?_
                refine lv_aload_n hx hb dX3_divide_81 rfl (lv_at hl 0 rfl) ?_
                refine lv_iload_n hx hb dX3_divide_82 rfl (lv_at hl 1 rfl) ?_
                refine lv_iload hx hb dX3_divide_83 (lv_at hl 6 rfl) ?_
                refine zcallV (As := [.int (nI a), .int (nI (k + 2))]) (rest := [.long (2 : Int64), .int (nI (k + 1)), .int (nI 8), .ref (F 0)]) (q := 0) (k := 2) hx hb hml hown hts (kX3_of l D cL cI cR A F hF (va_up C 8 f) (va_up dg 8 (dg a - 1)) Y a (by omega) (k + 2) (by omega) (C a (k + 2)) (by simp [va_up, h8a])) gX3_divide_X3_of rfl (by decide +kernel) ⟨Nat.le_of_ble_eq_true rfl, Nat.le_of_ble_eq_true rfl⟩ rfl (by omega) (zM_o) rfl rfl hAm hP hS rfl hl.1 rfl (Nat.le_of_ble_eq_true rfl) dX3_divide_85 ⟨Nat.zero_le _, Nat.zero_le _⟩ (zkn (fun H locs hP hS => ?_))
                refine W.eq (g2 := F0 m 88 ls [.long (C a (k + 2)), .long (2 : Int64), .int (nI (k + 1)), .int (nI 8), .ref (F 0)]) rfl ?_
                refine lv_lmul hx hb dX3_divide_88 ?_
                refine lv_ldc2 hx hb hown (hts (.constantLong RX3 47 (2)) (by decide +kernel)) dX3_divide_89 ?_
                refine lv_iload_n hx hb dX3_divide_92 rfl (lv_at hl 2 rfl) ?_
                refine lv_i2l (v := r0.toInt64) hx hb dX3_divide_93 rfl ?_
                refine lv_lmul hx hb dX3_divide_94 ?_
                refine lv_aload_n hx hb dX3_divide_95 rfl (lv_at hl 0 rfl) ?_
                refine lv_bipush (v := nI 8) hx hb dX3_divide_96 (by decide +kernel) ?_
                refine lv_iload hx hb dX3_divide_98 (lv_at hl 6 rfl) ?_
                refine zcallV (As := [.int (nI 8), .int (nI (k + 2))]) (rest := [.long ((2 : Int64) * r0.toInt64), .long ((2 : Int64) * (C a (k + 2))), .int (nI (k + 1)), .int (nI 8), .ref (F 0)]) (q := 0) (k := 2) hx hb hml hown hts (kX3_of l D cL cI cR A F hF (va_up C 8 f) (va_up dg 8 (dg a - 1)) Y 8 (by omega) (k + 2) (by omega) (f (k + 2)) (by first | rfl | simp [va_up, *])) gX3_divide_X3_of rfl (by decide +kernel) ⟨Nat.le_of_ble_eq_true rfl, Nat.le_of_ble_eq_true rfl⟩ rfl (by omega) (zM_o) rfl rfl hAm hP hS rfl hl.1 rfl (Nat.le_of_ble_eq_true rfl) dX3_divide_100 ⟨Nat.zero_le _, Nat.zero_le _⟩ (zkn (fun H locs hP hS => ?_))
                refine W.eq (g2 := F0 m 103 ls [.long (f (k + 2)), .long ((2 : Int64) * r0.toInt64), .long ((2 : Int64) * (C a (k + 2))), .int (nI (k + 1)), .int (nI 8), .ref (F 0)]) rfl ?_
                refine lv_lmul hx hb dX3_divide_103 ?_
                refine lv_ldc2 hx hb hown (hts (.constantLong RX3 45 (1048576)) (by decide +kernel)) dX3_divide_104 ?_
                refine zcallS (As := [.long (((2 : Int64) * r0.toInt64) * (f (k + 2))), .long (1048576 : Int64)]) (rest := [.long ((2 : Int64) * (C a (k + 2))), .int (nI (k + 1)), .int (nI 8), .ref (F 0)]) (k := 2) hx hb hml hown hts (kX3_rounded l D cL cI cR A F 7 (zME cL cI F (va_up C 8 f) (va_up dg 8 (dg a - 1)) Y) (((2 : Int64) * r0.toInt64) * (f (k + 2))) (1048576 : Int64) (by decide)) gX3_divide_X3_rounded rfl (by decide +kernel) ⟨Nat.le_of_ble_eq_true rfl, Nat.le_of_ble_eq_true rfl⟩ hAm hP hS rfl hl.1 rfl (Nat.le_of_ble_eq_true rfl) dX3_divide_107 ⟨Nat.zero_le _, Nat.zero_le _⟩ (zkn (fun H locs hP hS => ?_))
                refine W.eq (g2 := F0 m 110 ls [.long (zR (((2 : Int64) * r0.toInt64) * (f (k + 2))) (1048576 : Int64)), .long ((2 : Int64) * (C a (k + 2))), .int (nI (k + 1)), .int (nI 8), .ref (F 0)]) rfl ?_
                refine lv_ladd hx hb dX3_divide_110 ?_
                refine lv_aload_n hx hb dX3_divide_111 rfl (lv_at hl 0 rfl) ?_
                refine lv_bipush (v := nI 8) hx hb dX3_divide_112 (by decide +kernel) ?_
                refine lv_iload hx hb dX3_divide_114 (lv_at hl 6 rfl) ?_
                refine lv_iconst (v := nI 1) hx hb dX3_divide_116 (by decide +kernel) ?_
                refine ziadd (d := (k + 3)) hx hb (by omega) dX3_divide_117 ?_
                refine zcallV (As := [.int (nI 8), .int (nI (k + 3))]) (rest := [.long (((2 : Int64) * (C a (k + 2))) + (zR (((2 : Int64) * r0.toInt64) * (f (k + 2))) (1048576 : Int64))), .int (nI (k + 1)), .int (nI 8), .ref (F 0)]) (q := 0) (k := 2) hx hb hml hown hts (kX3_of l D cL cI cR A F hF (va_up C 8 f) (va_up dg 8 (dg a - 1)) Y 8 (by omega) (k + 3) (by omega) (f (k + 3)) (by first | rfl | simp [va_up, *])) gX3_divide_X3_of rfl (by decide +kernel) ⟨Nat.le_of_ble_eq_true rfl, Nat.le_of_ble_eq_true rfl⟩ rfl (by omega) (zM_o) rfl rfl hAm hP hS rfl hl.1 rfl (Nat.le_of_ble_eq_true rfl) dX3_divide_118 ⟨Nat.zero_le _, Nat.zero_le _⟩ (zkn (fun H locs hP hS => ?_))
                refine W.eq (g2 := F0 m 121 ls [.long (f (k + 3)), .long (((2 : Int64) * (C a (k + 2))) + (zR (((2 : Int64) * r0.toInt64) * (f (k + 2))) (1048576 : Int64))), .int (nI (k + 1)), .int (nI 8), .ref (F 0)]) rfl ?_
                refine lv_lsub hx hb dX3_divide_121 ?_
                refine zcallV (As := [.int (nI 8), .int (nI (k + 1)), .long ((((2 : Int64) * (C a (k + 2))) + (zR (((2 : Int64) * r0.toInt64) * (f (k + 2))) (1048576 : Int64))) - (f (k + 3)))]) (rest := []) (q := 0) (k := 3) hx hb hml hown hts (kX3_sets l D cL cI cR A F hF (va_up C 8 f) (va_up dg 8 (dg a - 1)) Y 8 (by omega) (k + 1) (by omega) ((((2 : Int64) * (C a (k + 2))) + (zR (((2 : Int64) * r0.toInt64) * (f (k + 2))) (1048576 : Int64))) - (f (k + 3))) (va_up C 8 (vp_updL f (k + 1) ((((2 : Int64) * (C a (k + 2))) + (zR (((2 : Int64) * r0.toInt64) * (f (k + 2))) (1048576 : Int64))) - (f (k + 3))))) (by first | rfl | simp only [bx_uu, va_up_eq])) gX3_divide_X3_sets rfl (by decide +kernel) ⟨Nat.le_of_ble_eq_true rfl, Nat.le_of_ble_eq_true rfl⟩ rfl (by omega) (zM_o) rfl rfl hAm hP hS rfl hl.1 rfl (Nat.le_of_ble_eq_true rfl) dX3_divide_122 ⟨Nat.zero_le _, Nat.zero_le _⟩ (zkn (fun H locs hP hS => ?_))
                refine W.eq (g2 := F0 m 125 ls []) rfl ?_
                refine lv_iinc (v := (nI (k + 1))) (lv' := [(7, .int (nI (k + 1))), (0, .ref (F 0)), (1, .int (nI a)), (2, .int r0), (3, .int (nI t)), (4, .int (nI (dg a))), (5, .long vz)]) hx hb dX3_divide_125 hl (k := 6) rfl (zinc (by omega)) (by decide) rfl (fun ls hl => ?_)
                refine lv_goto (tgt := 65) hx hb dX3_divide_128 (by decide) ?_
                exact ih65 (k + 1) _ (by omega) (by rw [← hf]; rfl) (by omega) H _ hP hS ls (lv_sub hl [1, 2, 3, 4, 5, 6, 0] rfl)
          exact L65 _ (dg a) _ (by omega) rfl (Nat.lt_succ_self _) H _ hP hS ls (lv_sub hl [3, 4, 5, 6, 2, 1, 0] rfl)
      ·
        exfalso; omega

set_option maxHeartbeats 4000000 in
set_option maxRecDepth 100000 in
theorem kX3_cut (l : Launch) (D : va_G) (cL cI cR : ClassId) (A : Nat → Prop) (F : Nat → Nat) (hF : zq_F A F 7) (C : Nat → Nat → Int64) (dg : Nat → Nat) (Y : zZM) (P : Nat → Nat → Int64) (n0 : Nat → Nat) (hCP : ∀ i, i < 8 → C i = P i ∧ dg i = n0 i) (h24 : ∀ i, i < 8 → n0 i ≤ 24) (hzz : ∀ i, i < 8 → ∀ j, n0 i < j → P i j = 0) (a : Nat) (ha : a ≤ 7) (tol : Int32) (htol : zin 0 1000000000 tol) : zCt l yX3_cut wsX3_cut 2 48 D cL cI cR A F 7 (zME cL cI F C dg Y) [.ref (F 0), .int (nI a), .int tol] (zPM cL cI F (lN (n0 a - (ztw (P a) tol.toInt64 (n0 a) 0))) (va_up P a (zcut (P a) (ztw (P a) tol.toInt64 (n0 a) 0))) (va_up n0 a (ztw (P a) tol.toInt64 (n0 a) 0)) Y.1) := by
  refine zStart (cc := cX3_cut) (maxL := 6) (ret := (some .long)) (by decide +kernel) rfl (Nat.le_of_ble_eq_true rfl) ?_
  intro p e s m below meth c hx hb hr hml hlk hown hts hAm H hP hS ls hl
  have hown : s.vm.findClass RX3 = some m.cls := hown
  have hl : lv_has ls 6 [(0, .ref (F 0)), (1, .int (nI a)), (2, .int tol)] := hl
  have hinX3 : ∀ w ∈ u_ws RX3 TX3 8, w ∈ wsX3_cut := by decide +kernel
  obtain ⟨hCa, hNa⟩ := hCP a (by omega)
  have h24a : dg a ≤ 24 := by rw [hNa]; exact h24 a (by omega)
  have hza : ∀ j, dg a < j → C a j = 0 := fun j hj => by rw [hCa]; exact hzz a (by omega) j (by rw [← hNa]; exact hj)
  have htw := ztw_le (C a) tol.toInt64 (dg a) 0
  refine lv_iload_n hx hb dX3_cut_0 rfl (lv_at hl 1 rfl) ?_
  refine zcallS (As := [.int (nI a)]) (rest := []) (k := 1) hx hb hml hown hts (kX3_isSeries l D cL cI cR A F 7 (zME cL cI F C dg Y) (nI a) 1 (if_pos (zin_nI (a := 7) (by omega) (by decide))).symm) gX3_cut_X3_isSeries rfl (by decide +kernel) ⟨Nat.le_of_ble_eq_true rfl, Nat.le_of_ble_eq_true rfl⟩ hAm hP hS rfl hl.1 rfl (Nat.le_of_ble_eq_true rfl) dX3_cut_1 ⟨Nat.zero_le _, Nat.zero_le _⟩ (zkn (fun H locs hP hS => ?_))
  refine W.eq (g2 := F0 m 4 ls [.int (nI 1)]) rfl ?_
  refine zf_eq (tgt := 14) hx hb dX3_cut_4 (by decide) (by omega) (fun c1 => ?_) (fun c1 => ?_)
  ·
    exfalso; omega
  ·
    refine lv_iload_n hx hb dX3_cut_7 rfl (lv_at hl 2 rfl) ?_
    refine zcallS (As := [.int tol]) (rest := []) (k := 1) hx hb hml hown hts (kX3_isTolerance l D cL cI cR A F 7 (zME cL cI F C dg Y) tol 1 (if_pos htol).symm) gX3_cut_X3_isTolerance rfl (by decide +kernel) ⟨Nat.le_of_ble_eq_true rfl, Nat.le_of_ble_eq_true rfl⟩ hAm hP hS rfl hl.1 rfl (Nat.le_of_ble_eq_true rfl) dX3_cut_8 ⟨Nat.zero_le _, Nat.zero_le _⟩ (zkn (fun H locs hP hS => ?_))
    refine W.eq (g2 := F0 m 11 ls [.int (nI 1)]) rfl ?_
    refine zf_ne (tgt := 18) hx hb dX3_cut_11 (by decide) (by omega) (fun c2 => ?_) (fun c2 => ?_)
    ·
      refine lv_aload_n hx hb dX3_cut_18 rfl (lv_at hl 0 rfl) ?_
      refine lv_iload_n hx hb dX3_cut_19 rfl (lv_at hl 1 rfl) ?_
      refine lv_iload_n hx hb dX3_cut_20 rfl (lv_at hl 2 rfl) ?_
      refine lv_i2l (v := tol.toInt64) hx hb dX3_cut_21 rfl ?_
      refine zcallV (As := [.int (nI a), .long tol.toInt64]) (rest := []) (q := 0) (k := 2) hx hb hml hown hts (kX3_cutBy l D cL cI cR A F hF C dg Y a (by omega) tol.toInt64 (by omega)) gX3_cut_X3_cutBy rfl (by decide +kernel) ⟨Nat.le_of_ble_eq_true rfl, Nat.le_of_ble_eq_true rfl⟩ rfl (by omega) (zM_o) rfl rfl hAm hP hS rfl hl.1 rfl (Nat.le_of_ble_eq_true rfl) dX3_cut_22 ⟨Nat.zero_le _, Nat.zero_le _⟩ (zkn (fun H locs hP hS => ?_))
      refine W.eq (g2 := F0 m 25 ls [.int (nI (ztw (C a) tol.toInt64 (dg a) 0))]) rfl ?_
      refine lv_istore_n (lv' := [(3, .int (nI (ztw (C a) tol.toInt64 (dg a) 0))), (0, .ref (F 0)), (1, .int (nI a)), (2, .int tol)]) hx hb dX3_cut_25 rfl hl (by decide) rfl (fun ls hl => ?_)
      refine lv_aload_n hx hb dX3_cut_26 rfl (lv_at hl 1 rfl) ?_
      refine zget (q := 0) (k := 1) (v := .ref (F 2)) hx hb hts hinX3 hown hAm hP (by omega) (zM_o) rfl (by decide) (hts (.fieldLink RX3 13 "CosineSeriesModel" "degrees" "[I") (by decide +kernel)) (by first | rfl | simp [va_up, *]) dX3_cut_27 ?_
      refine lv_iload_n hx hb dX3_cut_30 rfl (lv_at hl 2 rfl) ?_
      refine ziald (q := 2) (k := a) (v := (nI (dg a))) hx hb hAm hP (by omega) (zM_d) (by omega) (by decide) (by first | rfl | simp [va_up, *]) dX3_cut_31 ?_
      refine lv_iload_n hx hb dX3_cut_32 rfl (lv_at hl 0 rfl) ?_
      refine zisub (d := ((dg a) - (ztw (C a) tol.toInt64 (dg a) 0))) hx hb (by omega) dX3_cut_33 ?_
      refine lv_istore (lv' := [(4, .int (nI ((dg a) - (ztw (C a) tol.toInt64 (dg a) 0)))), (3, .int (nI (ztw (C a) tol.toInt64 (dg a) 0))), (0, .ref (F 0)), (1, .int (nI a)), (2, .int tol)]) hx hb dX3_cut_34 hl (by decide) rfl (fun ls hl => ?_)
      refine lv_iload_n hx hb dX3_cut_36 rfl (lv_at hl 1 rfl) ?_
      refine lv_iconst (v := nI 1) hx hb dX3_cut_37 (by decide +kernel) ?_
      refine ziadd (d := ((ztw (C a) tol.toInt64 (dg a) 0) + 1)) hx hb (by omega) dX3_cut_38 ?_
      refine lv_istore (lv' := [(5, .int (nI ((ztw (C a) tol.toInt64 (dg a) 0) + 1))), (4, .int (nI ((dg a) - (ztw (C a) tol.toInt64 (dg a) 0)))), (3, .int (nI (ztw (C a) tol.toInt64 (dg a) 0))), (0, .ref (F 0)), (1, .int (nI a)), (2, .int tol)]) hx hb dX3_cut_39 hl (by decide) rfl (fun ls hl => ?_)
      have hP : va_P D vwCl (zq_wd F 7 (zME cL cI F (va_up C a (C a)) dg Y)) H := by rw [zup_self]; exact hP
      have L41 : ∀ (n : Nat) (k : Nat) (f : Nat → Int64) (hk : k ≤ 25 ∧ (ztw (C a) tol.toInt64 (dg a) 0) < k) (hf : ∀ j, f j = if (ztw (C a) tol.toInt64 (dg a) 0) < j ∧ j < k then 0 else C a j) (hn : 25 - k < n) (H : Heap) (locs : List Loc), va_P D vwCl (zq_wd F 7 (zME cL cI F (va_up C a f) dg Y)) H → va_S A s.heap H locs → ∀ (ls : Array Slot), lv_has ls 6 [(0, .ref (F 0)), (1, .int (nI a)), (3, .int (nI (ztw (C a) tol.toInt64 (dg a) 0))), (4, .int (nI (dg a - (ztw (C a) tol.toInt64 (dg a) 0)))), (5, .int (nI k))] → W p l e ({ frames := 2, cells := 0, slots := 0, locals := 48 }) s m ([.ref (F 0), .int (nI a), .int tol] : List Value).toArray below meth c H locs 0 0 (zQ below D A F 7 [.ref (F 0), .int (nI a), .int tol] s (zPM cL cI F (lN (n0 a - (ztw (P a) tol.toInt64 (n0 a) 0))) (va_up P a (zcut (P a) (ztw (P a) tol.toInt64 (n0 a) 0))) (va_up n0 a (ztw (P a) tol.toInt64 (n0 a) 0)) Y.1)) (F0 m 41 ls []) := by
        intro n
        induction n with
        | zero =>
          intro k f hk hf hn
          exact absurd hn (Nat.not_lt_zero _)
        | succ n ih41 =>
          intro k f hk hf hn H locs hP hS ls hl
          refine lv_iload hx hb dX3_cut_41 (lv_at hl 4 rfl) ?_
          refine lv_bipush (v := nI 24) hx hb dX3_cut_43 (by decide +kernel) ?_
          refine zi_gt (tgt := 62) hx hb dX3_cut_45 (by decide) (by omega) (by omega) (fun c3 => ?_) (fun c3 => ?_)
          ·
            have hfe : f = zcut (C a) (ztw (C a) tol.toInt64 (dg a) 0) := funext (fun j => by rw [hf j]; unfold zcut; by_cases h : j ≤ (ztw (C a) tol.toInt64 (dg a) 0); (rw [if_pos h, if_neg (by omega)]); (rw [if_neg h]; by_cases h2 : j < k; (rw [if_pos (by omega)]); (rw [if_neg (by omega)]; exact hza j (by omega))))
            have hP : va_P D vwCl (zq_wd F 7 (zME cL cI F (va_up C a (zcut (C a) (ztw (C a) tol.toInt64 (dg a) 0))) dg Y)) H := by rw [← hfe]; exact hP
            refine lv_aload_n hx hb dX3_cut_62 rfl (lv_at hl 0 rfl) ?_
            refine zget (q := 0) (k := 1) (v := .ref (F 2)) hx hb hts hinX3 hown hAm hP (by omega) (zM_o) rfl (by decide) (hts (.fieldLink RX3 13 "CosineSeriesModel" "degrees" "[I") (by decide +kernel)) (by first | rfl | simp [va_up, *]) dX3_cut_63 ?_
            refine lv_iload_n hx hb dX3_cut_66 rfl (lv_at hl 1 rfl) ?_
            refine lv_iload_n hx hb dX3_cut_67 rfl (lv_at hl 2 rfl) ?_
            refine ziast (q := 2) (k := a) (E' := (zME cL cI F (va_up C a (zcut (C a) (ztw (C a) tol.toInt64 (dg a) 0))) (va_up dg a (ztw (C a) tol.toInt64 (dg a) 0)) Y)) hx hb hAm hP hF hS (by omega) (zM_d) (by omega) (by decide) dX3_cut_68 (by first | exact zM_ud | (rw [zM_ud]; simp only [bx_uu, va_up_eq])) (fun H locs hP hS => ?_)
            refine lv_iload hx hb dX3_cut_69 (lv_at hl 3 rfl) ?_
            refine zi2l hx hb (by omega) dX3_cut_71 ?_
            exact zretL hx hb hr hlk hS hP dX3_cut_72 ⟨_, _, _, rfl, by rw [hCa, hNa], zend_up hCP (by rw [hCa, hNa]) (by rw [hCa, hNa]), fun _ _ => rfl⟩
          ·
            refine lv_aload_n hx hb dX3_cut_48 rfl (lv_at hl 0 rfl) ?_
            refine lv_iload_n hx hb dX3_cut_49 rfl (lv_at hl 1 rfl) ?_
            refine lv_iload hx hb dX3_cut_50 (lv_at hl 4 rfl) ?_
            refine lv_lconst (v := (0 : Int64)) hx hb dX3_cut_52 (by decide +kernel) ?_
            refine zcallV (As := [.int (nI a), .int (nI k), .long (0 : Int64)]) (rest := []) (q := 0) (k := 3) hx hb hml hown hts (kX3_sets l D cL cI cR A F hF (va_up C a f) dg Y a (by omega) k (by omega) (0 : Int64) (va_up C a (vp_updL f k (0 : Int64))) (by first | rfl | simp only [bx_uu, va_up_eq])) gX3_cut_X3_sets rfl (by decide +kernel) ⟨Nat.le_of_ble_eq_true rfl, Nat.le_of_ble_eq_true rfl⟩ rfl (by omega) (zM_o) rfl rfl hAm hP hS rfl hl.1 rfl (Nat.le_of_ble_eq_true rfl) dX3_cut_53 ⟨Nat.zero_le _, Nat.zero_le _⟩ (zkn (fun H locs hP hS => ?_))
            refine W.eq (g2 := F0 m 56 ls []) rfl ?_
            refine lv_iinc (v := (nI (k + 1))) (lv' := [(5, .int (nI (k + 1))), (0, .ref (F 0)), (1, .int (nI a)), (3, .int (nI (ztw (C a) tol.toInt64 (dg a) 0))), (4, .int (nI (dg a - (ztw (C a) tol.toInt64 (dg a) 0))))]) hx hb dX3_cut_56 hl (k := 4) rfl (zinc (by omega)) (by decide) rfl (fun ls hl => ?_)
            refine lv_goto (tgt := 41) hx hb dX3_cut_59 (by decide) ?_
            exact ih41 (k + 1) _ (by omega) (fun j => by unfold vp_updL; split; (rw [if_pos (by omega)]); (rw [hf j]; by_cases h : (ztw (C a) tol.toInt64 (dg a) 0) < j ∧ j < k; (rw [if_pos h, if_pos (by omega)]); (rw [if_neg h, if_neg (by omega)]))) (by omega) H _ hP hS ls (lv_sub hl [1, 2, 3, 4, 0] rfl)
      exact L41 _ ((ztw (C a) tol.toInt64 (dg a) 0) + 1) (C a) (by omega) (fun j => by rw [if_neg (by omega)]) (Nat.lt_succ_self _) H _ hP hS ls (lv_sub hl [3, 4, 2, 1, 0] rfl)
    ·
      exfalso; omega

set_option maxHeartbeats 4000000 in
set_option maxRecDepth 100000 in
theorem kX3_degreeWith (l : Launch) (D : va_G) (cL cI cR : ClassId) (A : Nat → Prop) (F : Nat → Nat) (hF : zq_F A F 7) (C : Nat → Nat → Int64) (dg : Nat → Nat) (Y : zZM) (P : Nat → Nat → Int64) (n0 : Nat → Nat) (hCP : ∀ i, i < 8 → C i = P i ∧ dg i = n0 i) (h24 : ∀ i, i < 8 → n0 i ≤ 24) (hzz : ∀ i, i < 8 → ∀ j, n0 i < j → P i j = 0) (a : Nat) (ha : a ≤ 7) (tol : Int32) (htol : zin 0 1000000000 tol) : zCt l yX3_degreeWith wsX3_degreeWith 2 48 D cL cI cR A F 7 (zME cL cI F C dg Y) [.ref (F 0), .int (nI a), .int tol] (zPM cL cI F (lN (ztw (P a) tol.toInt64 (n0 a) 0)) P n0 Y.1) := by
  refine zStart (cc := cX3_degreeWith) (maxL := 3) (ret := (some .long)) (by decide +kernel) rfl (Nat.le_of_ble_eq_true rfl) ?_
  intro p e s m below meth c hx hb hr hml hlk hown hts hAm H hP hS ls hl
  have hown : s.vm.findClass RX3 = some m.cls := hown
  have hl : lv_has ls 3 [(0, .ref (F 0)), (1, .int (nI a)), (2, .int tol)] := hl
  obtain ⟨hCa, hNa⟩ := hCP a (by omega)
  have h24a : dg a ≤ 24 := by rw [hNa]; exact h24 a (by omega)
  have hza : ∀ j, dg a < j → C a j = 0 := fun j hj => by rw [hCa]; exact hzz a (by omega) j (by rw [← hNa]; exact hj)
  have htw := ztw_le (C a) tol.toInt64 (dg a) 0
  refine lv_iload_n hx hb dX3_degreeWith_0 rfl (lv_at hl 1 rfl) ?_
  refine zcallS (As := [.int (nI a)]) (rest := []) (k := 1) hx hb hml hown hts (kX3_isSeries l D cL cI cR A F 7 (zME cL cI F C dg Y) (nI a) 1 (if_pos (zin_nI (a := 7) (by omega) (by decide))).symm) gX3_degreeWith_X3_isSeries rfl (by decide +kernel) ⟨Nat.le_of_ble_eq_true rfl, Nat.le_of_ble_eq_true rfl⟩ hAm hP hS rfl hl.1 rfl (Nat.le_of_ble_eq_true rfl) dX3_degreeWith_1 ⟨Nat.zero_le _, Nat.zero_le _⟩ (zkn (fun H locs hP hS => ?_))
  refine W.eq (g2 := F0 m 4 ls [.int (nI 1)]) rfl ?_
  refine zf_eq (tgt := 25) hx hb dX3_degreeWith_4 (by decide) (by omega) (fun c1 => ?_) (fun c1 => ?_)
  ·
    exfalso; omega
  ·
    refine lv_iload_n hx hb dX3_degreeWith_7 rfl (lv_at hl 2 rfl) ?_
    refine zcallS (As := [.int tol]) (rest := []) (k := 1) hx hb hml hown hts (kX3_isTolerance l D cL cI cR A F 7 (zME cL cI F C dg Y) tol 1 (if_pos htol).symm) gX3_degreeWith_X3_isTolerance rfl (by decide +kernel) ⟨Nat.le_of_ble_eq_true rfl, Nat.le_of_ble_eq_true rfl⟩ hAm hP hS rfl hl.1 rfl (Nat.le_of_ble_eq_true rfl) dX3_degreeWith_8 ⟨Nat.zero_le _, Nat.zero_le _⟩ (zkn (fun H locs hP hS => ?_))
    refine W.eq (g2 := F0 m 11 ls [.int (nI 1)]) rfl ?_
    refine zf_eq (tgt := 25) hx hb dX3_degreeWith_11 (by decide) (by omega) (fun c2 => ?_) (fun c2 => ?_)
    ·
      exfalso; omega
    ·
      refine lv_aload_n hx hb dX3_degreeWith_14 rfl (lv_at hl 0 rfl) ?_
      refine lv_iload_n hx hb dX3_degreeWith_15 rfl (lv_at hl 1 rfl) ?_
      refine lv_iload_n hx hb dX3_degreeWith_16 rfl (lv_at hl 2 rfl) ?_
      refine lv_i2l (v := tol.toInt64) hx hb dX3_degreeWith_17 rfl ?_
      refine zcallV (As := [.int (nI a), .long tol.toInt64]) (rest := []) (q := 0) (k := 2) hx hb hml hown hts (kX3_cutBy l D cL cI cR A F hF C dg Y a (by omega) tol.toInt64 (by omega)) gX3_degreeWith_X3_cutBy rfl (by decide +kernel) ⟨Nat.le_of_ble_eq_true rfl, Nat.le_of_ble_eq_true rfl⟩ rfl (by omega) (zM_o) rfl rfl hAm hP hS rfl hl.1 rfl (Nat.le_of_ble_eq_true rfl) dX3_degreeWith_18 ⟨Nat.zero_le _, Nat.zero_le _⟩ (zkn (fun H locs hP hS => ?_))
      refine W.eq (g2 := F0 m 21 ls [.int (nI (ztw (C a) tol.toInt64 (dg a) 0))]) rfl ?_
      refine zi2l hx hb (by omega) dX3_degreeWith_21 ?_
      refine lv_goto (tgt := 28) hx hb dX3_degreeWith_22 (by decide) ?_
      exact zretL hx hb hr hlk hS hP dX3_degreeWith_28 ⟨_, _, _, rfl, by rw [hCa, hNa], hCP, fun _ _ => rfl⟩

set_option maxHeartbeats 4000000 in
set_option maxRecDepth 100000 in
theorem kX3_basis (l : Launch) (D : va_G) (cL cI cR : ClassId) (A : Nat → Prop) (F : Nat → Nat) (hF : zq_F A F 7) (C : Nat → Nat → Int64) (dg : Nat → Nat) (Y : zZM) (P : Nat → Nat → Int64) (n0 : Nat → Nat) (hCP : ∀ i, i < 8 → C i = P i ∧ dg i = n0 i) (h24 : ∀ i, i < 8 → n0 i ≤ 24) (hzz : ∀ i, i < 8 → ∀ j, n0 i < j → P i j = 0) (t : Nat) (ht : t ≤ 7) (k : Nat) (hk : k ≤ 24) : zCt l yX3_basis wsX3_basis 2 47 D cL cI cR A F 7 (zME cL cI F C dg Y) [.ref (F 0), .int (nI k), .int (nI t)] (zPM cL cI F (lN k) (va_up P t (vp_updL (fun _ => 0) k 1048576)) (va_up n0 t k) Y.1) := by
  refine zStart (cc := cX3_basis) (maxL := 3) (ret := (some .long)) (by decide +kernel) rfl (Nat.le_of_ble_eq_true rfl) ?_
  intro p e s m below meth c hx hb hr hml hlk hown hts hAm H hP hS ls hl
  have hown : s.vm.findClass RX3 = some m.cls := hown
  have hl : lv_has ls 3 [(0, .ref (F 0)), (1, .int (nI k)), (2, .int (nI t))] := hl
  obtain ⟨hCt, hNt⟩ := hCP t (by omega)
  have h24t : dg t ≤ 24 := by rw [hNt]; exact h24 t (by omega)
  have hzt : ∀ j, dg t < j → C t j = 0 := fun j hj => by rw [hCt]; exact hzz t (by omega) j (by rw [← hNt]; exact hj)
  refine lv_iload_n hx hb dX3_basis_0 rfl (lv_at hl 1 rfl) ?_
  refine zi2l hx hb (by omega) dX3_basis_1 ?_
  refine lv_lconst (v := (0 : Int64)) hx hb dX3_basis_2 (by decide +kernel) ?_
  refine lv_ldc2 hx hb hown (hts (.constantLong RX3 79 (24)) (by decide +kernel)) dX3_basis_3 ?_
  refine zcallS (As := [.long (lN k), .long (0 : Int64), .long (24 : Int64)]) (rest := []) (k := 3) hx hb hml hown hts (kX3_in l D cL cI cR A F 7 (zME cL cI F C dg Y) (lN k) (0 : Int64) (24 : Int64) 1 (zn1N (m := 24) (by decide) (by omega) (by decide))) gX3_basis_X3_in rfl (by decide +kernel) ⟨Nat.le_of_ble_eq_true rfl, Nat.le_of_ble_eq_true rfl⟩ hAm hP hS rfl hl.1 rfl (Nat.le_of_ble_eq_true rfl) dX3_basis_6 ⟨Nat.zero_le _, Nat.zero_le _⟩ (zkn (fun H locs hP hS => ?_))
  refine W.eq (g2 := F0 m 9 ls [.int (nI 1)]) rfl ?_
  refine zf_eq (tgt := 19) hx hb dX3_basis_9 (by decide) (by omega) (fun c1 => ?_) (fun c1 => ?_)
  ·
    exfalso; omega
  ·
    refine lv_iload_n hx hb dX3_basis_12 rfl (lv_at hl 2 rfl) ?_
    refine zcallS (As := [.int (nI t)]) (rest := []) (k := 1) hx hb hml hown hts (kX3_isSeries l D cL cI cR A F 7 (zME cL cI F C dg Y) (nI t) 1 (if_pos (zin_nI (a := 7) (by omega) (by decide))).symm) gX3_basis_X3_isSeries rfl (by decide +kernel) ⟨Nat.le_of_ble_eq_true rfl, Nat.le_of_ble_eq_true rfl⟩ hAm hP hS rfl hl.1 rfl (Nat.le_of_ble_eq_true rfl) dX3_basis_13 ⟨Nat.zero_le _, Nat.zero_le _⟩ (zkn (fun H locs hP hS => ?_))
    refine W.eq (g2 := F0 m 16 ls [.int (nI 1)]) rfl ?_
    refine zf_ne (tgt := 23) hx hb dX3_basis_16 (by decide) (by omega) (fun c2 => ?_) (fun c2 => ?_)
    ·
      refine lv_aload_n hx hb dX3_basis_23 rfl (lv_at hl 0 rfl) ?_
      refine lv_iload_n hx hb dX3_basis_24 rfl (lv_at hl 2 rfl) ?_
      refine lv_iload_n hx hb dX3_basis_25 rfl (lv_at hl 1 rfl) ?_
      refine zcallV (As := [.int (nI t), .int (nI k)]) (rest := []) (q := 0) (k := 2) hx hb hml hown hts (kX3_clears l D cL cI cR A F hF C dg Y t (by omega) k (by omega)) gX3_basis_X3_clears rfl (by decide +kernel) ⟨Nat.le_of_ble_eq_true rfl, Nat.le_of_ble_eq_true rfl⟩ rfl (by omega) (zM_o) rfl rfl hAm hP hS rfl hl.1 rfl (Nat.le_of_ble_eq_true rfl) dX3_basis_26 ⟨Nat.zero_le _, Nat.zero_le _⟩ (zkn (fun H locs hP hS => ?_))
      refine W.eq (g2 := F0 m 29 ls []) rfl ?_
      refine lv_aload_n hx hb dX3_basis_29 rfl (lv_at hl 0 rfl) ?_
      refine lv_iload_n hx hb dX3_basis_30 rfl (lv_at hl 2 rfl) ?_
      refine lv_iload_n hx hb dX3_basis_31 rfl (lv_at hl 1 rfl) ?_
      refine lv_ldc2 hx hb hown (hts (.constantLong RX3 45 (1048576)) (by decide +kernel)) dX3_basis_32 ?_
      refine zcallV (As := [.int (nI t), .int (nI k), .long (1048576 : Int64)]) (rest := []) (q := 0) (k := 3) hx hb hml hown hts (kX3_sets l D cL cI cR A F hF (va_up C t (fun _ => 0)) (va_up dg t k) Y t (by omega) k (by omega) (1048576 : Int64) (va_up C t (vp_updL (fun _ => 0) k (1048576 : Int64))) (by first | rfl | simp only [bx_uu, va_up_eq])) gX3_basis_X3_sets rfl (by decide +kernel) ⟨Nat.le_of_ble_eq_true rfl, Nat.le_of_ble_eq_true rfl⟩ rfl (by omega) (zM_o) rfl rfl hAm hP hS rfl hl.1 rfl (Nat.le_of_ble_eq_true rfl) dX3_basis_35 ⟨Nat.zero_le _, Nat.zero_le _⟩ (zkn (fun H locs hP hS => ?_))
      refine W.eq (g2 := F0 m 38 ls []) rfl ?_
      refine lv_iload_n hx hb dX3_basis_38 rfl (lv_at hl 1 rfl) ?_
      refine zi2l hx hb (by omega) dX3_basis_39 ?_
      exact zretL hx hb hr hlk hS hP dX3_basis_40 ⟨_, _, _, rfl, rfl, zend_up hCP rfl rfl, fun _ _ => rfl⟩
    ·
      exfalso; omega

set_option maxHeartbeats 4000000 in
set_option maxRecDepth 100000 in
theorem kX3_integral (l : Launch) (D : va_G) (cL cI cR : ClassId) (A : Nat → Prop) (F : Nat → Nat) (hF : zq_F A F 7) (C : Nat → Nat → Int64) (dg : Nat → Nat) (Y : zZM) (P : Nat → Nat → Int64) (n0 : Nat → Nat) (hCP : ∀ i, i < 8 → C i = P i ∧ dg i = n0 i) (h24 : ∀ i, i < 8 → n0 i ≤ 24) (hzz : ∀ i, i < 8 → ∀ j, n0 i < j → P i j = 0) (a : Nat) (ha : a ≤ 7) : zCt l yX3_integral wsX3_integral 2 45 D cL cI cR A F 7 (zME cL cI F C dg Y) [.ref (F 0), .int (nI a)] (zPM cL cI F (zig (P a) (n0 a / 2)) P n0 Y.1) := by
  refine zStart (cc := cX3_integral) (maxL := 5) (ret := (some .long)) (by decide +kernel) rfl (Nat.le_of_ble_eq_true rfl) ?_
  intro p e s m below meth c hx hb hr hml hlk hown hts hAm H hP hS ls hl
  have hown : s.vm.findClass RX3 = some m.cls := hown
  have hl : lv_has ls 5 [(0, .ref (F 0)), (1, .int (nI a))] := hl
  have hinX3 : ∀ w ∈ u_ws RX3 TX3 8, w ∈ wsX3_integral := by decide +kernel
  obtain ⟨hCa, hNa⟩ := hCP a (by omega)
  have h24a : dg a ≤ 24 := by rw [hNa]; exact h24 a (by omega)
  have hza : ∀ j, dg a < j → C a j = 0 := fun j hj => by rw [hCa]; exact hzz a (by omega) j (by rw [← hNa]; exact hj)
  refine lv_iload_n hx hb dX3_integral_0 rfl (lv_at hl 1 rfl) ?_
  refine zcallS (As := [.int (nI a)]) (rest := []) (k := 1) hx hb hml hown hts (kX3_isSeries l D cL cI cR A F 7 (zME cL cI F C dg Y) (nI a) 1 (if_pos (zin_nI (a := 7) (by omega) (by decide))).symm) gX3_integral_X3_isSeries rfl (by decide +kernel) ⟨Nat.le_of_ble_eq_true rfl, Nat.le_of_ble_eq_true rfl⟩ hAm hP hS rfl hl.1 rfl (Nat.le_of_ble_eq_true rfl) dX3_integral_1 ⟨Nat.zero_le _, Nat.zero_le _⟩ (zkn (fun H locs hP hS => ?_))
  refine W.eq (g2 := F0 m 4 ls [.int (nI 1)]) rfl ?_
  refine zf_ne (tgt := 11) hx hb dX3_integral_4 (by decide) (by omega) (fun c1 => ?_) (fun c1 => ?_)
  ·
    refine lv_ldc2 hx hb hown (hts (.constantLong RX3 47 (2)) (by decide +kernel)) dX3_integral_11 ?_
    refine lv_aload_n hx hb dX3_integral_14 rfl (lv_at hl 0 rfl) ?_
    refine lv_iload_n hx hb dX3_integral_15 rfl (lv_at hl 1 rfl) ?_
    refine lv_iconst (v := nI 0) hx hb dX3_integral_16 (by decide +kernel) ?_
    refine zcallV (As := [.int (nI a), .int (nI 0)]) (rest := [.long (2 : Int64)]) (q := 0) (k := 2) hx hb hml hown hts (kX3_of l D cL cI cR A F hF C dg Y a (by omega) 0 (by omega) ((C a) 0) (by first | rfl | simp [va_up, *])) gX3_integral_X3_of rfl (by decide +kernel) ⟨Nat.le_of_ble_eq_true rfl, Nat.le_of_ble_eq_true rfl⟩ rfl (by omega) (zM_o) rfl rfl hAm hP hS rfl hl.1 rfl (Nat.le_of_ble_eq_true rfl) dX3_integral_17 ⟨Nat.zero_le _, Nat.zero_le _⟩ (zkn (fun H locs hP hS => ?_))
    refine W.eq (g2 := F0 m 20 ls [.long ((C a) 0), .long (2 : Int64)]) rfl ?_
    refine lv_lmul hx hb dX3_integral_20 ?_
    refine lv_lstore_n (lv' := [(2, .long ((2 : Int64) * ((C a) 0))), (0, .ref (F 0)), (1, .int (nI a))]) hx hb dX3_integral_21 rfl hl (by decide) rfl (fun ls hl => ?_)
    refine lv_iconst (v := nI 2) hx hb dX3_integral_22 (by decide +kernel) ?_
    refine lv_istore (lv' := [(4, .int (nI 2)), (2, .long ((2 : Int64) * ((C a) 0))), (0, .ref (F 0)), (1, .int (nI a))]) hx hb dX3_integral_23 hl (by decide) rfl (fun ls hl => ?_)
    have L25 : ∀ (n : Nat) (m1 : Nat) (u : Int64) (hm : m1 ≤ dg a / 2) (hu : u = zig (C a) m1) (hn : dg a / 2 - m1 < n) (H : Heap) (locs : List Loc), va_P D vwCl (zq_wd F 7 (zME cL cI F C dg Y)) H → va_S A s.heap H locs → ∀ (ls : Array Slot), lv_has ls 5 [(0, .ref (F 0)), (1, .int (nI a)), (2, .long u), (4, .int (nI (2 * m1 + 2)))] → W p l e ({ frames := 2, cells := 0, slots := 0, locals := 45 }) s m ([.ref (F 0), .int (nI a)] : List Value).toArray below meth c H locs 0 0 (zQ below D A F 7 [.ref (F 0), .int (nI a)] s (zPM cL cI F (zig (P a) (n0 a / 2)) P n0 Y.1)) (F0 m 25 ls []) := by
      intro n
      induction n with
      | zero =>
        intro m1 u hm hu hn
        exact absurd hn (Nat.not_lt_zero _)
      | succ n ih25 =>
        intro m1 u hm hu hn H locs hP hS ls hl
        refine lv_iload hx hb dX3_integral_25 (lv_at hl 3 rfl) ?_
        refine lv_aload_n hx hb dX3_integral_27 rfl (lv_at hl 0 rfl) ?_
        refine zget (q := 0) (k := 1) (v := .ref (F 2)) hx hb hts hinX3 hown hAm hP (by omega) (zM_o) rfl (by decide) (hts (.fieldLink RX3 13 "CosineSeriesModel" "degrees" "[I") (by decide +kernel)) (by first | rfl | simp [va_up, *]) dX3_integral_28 ?_
        refine lv_iload_n hx hb dX3_integral_31 rfl (lv_at hl 1 rfl) ?_
        refine ziald (q := 2) (k := a) (v := (nI (dg a))) hx hb hAm hP (by omega) (zM_d) (by omega) (by decide) (by first | rfl | simp [va_up, *]) dX3_integral_32 ?_
        refine zi_gt (tgt := 68) hx hb dX3_integral_33 (by decide) (by omega) (by omega) (fun c2 => ?_) (fun c2 => ?_)
        ·
          refine lv_lload_n hx hb dX3_integral_68 rfl (lv_at hl 2 rfl) ?_
          exact zretL hx hb hr hlk hS hP dX3_integral_69 ⟨_, _, _, rfl, by rw [hu, show m1 = dg a / 2 by omega, hCa, hNa], hCP, fun _ _ => rfl⟩
        ·
          refine lv_lload_n hx hb dX3_integral_36 rfl (lv_at hl 2 rfl) ?_
          refine lv_ldc2 hx hb hown (hts (.constantLong RX3 128 (-2)) (by decide +kernel)) dX3_integral_37 ?_
          refine lv_aload_n hx hb dX3_integral_40 rfl (lv_at hl 0 rfl) ?_
          refine lv_iload_n hx hb dX3_integral_41 rfl (lv_at hl 1 rfl) ?_
          refine lv_iload hx hb dX3_integral_42 (lv_at hl 3 rfl) ?_
          refine zcallV (As := [.int (nI a), .int (nI (2 * m1 + 2))]) (rest := [.long (-2 : Int64), .long u]) (q := 0) (k := 2) hx hb hml hown hts (kX3_of l D cL cI cR A F hF C dg Y a (by omega) (2 * m1 + 2) (by omega) ((C a) (2 * m1 + 2)) (by first | rfl | simp [va_up, *])) gX3_integral_X3_of rfl (by decide +kernel) ⟨Nat.le_of_ble_eq_true rfl, Nat.le_of_ble_eq_true rfl⟩ rfl (by omega) (zM_o) rfl rfl hAm hP hS rfl hl.1 rfl (Nat.le_of_ble_eq_true rfl) dX3_integral_44 ⟨Nat.zero_le _, Nat.zero_le _⟩ (zkn (fun H locs hP hS => ?_))
          refine W.eq (g2 := F0 m 47 ls [.long ((C a) (2 * m1 + 2)), .long (-2 : Int64), .long u]) rfl ?_
          refine lv_lmul hx hb dX3_integral_47 ?_
          refine lv_iload hx hb dX3_integral_48 (lv_at hl 3 rfl) ?_
          refine zi2l hx hb (by omega) dX3_integral_50 ?_
          refine lv_iload hx hb dX3_integral_51 (lv_at hl 3 rfl) ?_
          refine zi2l hx hb (by omega) dX3_integral_53 ?_
          refine lv_lmul hx hb dX3_integral_54 ?_
          refine lv_lconst (v := (1 : Int64)) hx hb dX3_integral_55 (by decide +kernel) ?_
          refine lv_lsub hx hb dX3_integral_56 ?_
          refine zcallS (As := [.long ((-2 : Int64) * ((C a) (2 * m1 + 2))), .long (((lN (2 * m1 + 2)) * (lN (2 * m1 + 2))) - (1 : Int64))]) (rest := [.long u]) (k := 2) hx hb hml hown hts (kX3_rounded l D cL cI cR A F 7 (zME cL cI F C dg Y) (-2 * C a (2 * m1 + 2)) (lN (2 * m1 + 2) * lN (2 * m1 + 2) - 1) (zigpos (by omega))) gX3_integral_X3_rounded rfl (by decide +kernel) ⟨Nat.le_of_ble_eq_true rfl, Nat.le_of_ble_eq_true rfl⟩ hAm hP hS rfl hl.1 rfl (Nat.le_of_ble_eq_true rfl) dX3_integral_57 ⟨Nat.zero_le _, Nat.zero_le _⟩ (zkn (fun H locs hP hS => ?_))
          refine W.eq (g2 := F0 m 60 ls [.long (zR (-2 * C a (2 * m1 + 2)) (lN (2 * m1 + 2) * lN (2 * m1 + 2) - 1)), .long u]) rfl ?_
          refine lv_ladd hx hb dX3_integral_60 ?_
          refine lv_lstore_n (lv' := [(2, .long (u + (zR (-2 * C a (2 * m1 + 2)) (lN (2 * m1 + 2) * lN (2 * m1 + 2) - 1)))), (0, .ref (F 0)), (1, .int (nI a)), (4, .int (nI (2 * m1 + 2)))]) hx hb dX3_integral_61 rfl hl (by decide) rfl (fun ls hl => ?_)
          refine lv_iinc (v := (nI ((2 * m1 + 2) + 2))) (lv' := [(4, .int (nI ((2 * m1 + 2) + 2))), (2, .long (u + (zR (-2 * C a (2 * m1 + 2)) (lN (2 * m1 + 2) * lN (2 * m1 + 2) - 1)))), (0, .ref (F 0)), (1, .int (nI a))]) hx hb dX3_integral_62 hl (k := 3) rfl (zinc (by omega)) (by decide) rfl (fun ls hl => ?_)
          refine lv_goto (tgt := 25) hx hb dX3_integral_65 (by decide) ?_
          exact ih25 (m1 + 1) (u + (zR (-2 * C a (2 * m1 + 2)) (lN (2 * m1 + 2) * lN (2 * m1 + 2) - 1))) (by omega) (by rw [hu]; rfl) (by omega) H _ hP hS ls (lv_sub hl [2, 3, 1, 0] rfl)
    exact L25 _ 0 (2 * (C a 0)) (by omega) rfl (Nat.lt_succ_self _) H _ hP hS ls (lv_sub hl [2, 3, 1, 0] rfl)
  ·
    exfalso; omega

set_option maxHeartbeats 4000000 in
set_option maxRecDepth 100000 in
theorem kX3_inner (l : Launch) (D : va_G) (cL cI cR : ClassId) (A : Nat → Prop) (F : Nat → Nat) (hF : zq_F A F 7) (C : Nat → Nat → Int64) (dg : Nat → Nat) (Y : zZM) (P : Nat → Nat → Int64) (n0 : Nat → Nat) (hCP : ∀ i, i < 8 → C i = P i ∧ dg i = n0 i) (h24 : ∀ i, i < 8 → n0 i ≤ 24) (hzz : ∀ i, i < 8 → ∀ j, n0 i < j → P i j = 0) (a : Nat) (ha : a ≤ 7) (b : Nat) (hb : b ≤ 7) : zCt l yX3_inner wsX3_inner 2 45 D cL cI cR A F 7 (zME cL cI F C dg Y) [.ref (F 0), .int (nI a), .int (nI b)] (zPM cL cI F (zR (zinn (P a) (P b) 24) 1048576) P n0 Y.1) := by
  refine zStart (cc := cX3_inner) (maxL := 6) (ret := (some .long)) (by decide +kernel) rfl (Nat.le_of_ble_eq_true rfl) ?_
  intro p e s m below meth c hx hb hr hml hlk hown hts hAm H hP hS ls hl
  have hown : s.vm.findClass RX3 = some m.cls := hown
  have hl : lv_has ls 6 [(0, .ref (F 0)), (1, .int (nI a)), (2, .int (nI b))] := hl
  obtain ⟨hCa, hNa⟩ := hCP a (by omega)
  have h24a : dg a ≤ 24 := by rw [hNa]; exact h24 a (by omega)
  have hza : ∀ j, dg a < j → C a j = 0 := fun j hj => by rw [hCa]; exact hzz a (by omega) j (by rw [← hNa]; exact hj)
  obtain ⟨hCb, hNb⟩ := hCP b (by omega)
  have h24b : dg b ≤ 24 := by rw [hNb]; exact h24 b (by omega)
  have hzb : ∀ j, dg b < j → C b j = 0 := fun j hj => by rw [hCb]; exact hzz b (by omega) j (by rw [← hNb]; exact hj)
  refine lv_iload_n hx hb dX3_inner_0 rfl (lv_at hl 1 rfl) ?_
  refine zcallS (As := [.int (nI a)]) (rest := []) (k := 1) hx hb hml hown hts (kX3_isSeries l D cL cI cR A F 7 (zME cL cI F C dg Y) (nI a) 1 (if_pos (zin_nI (a := 7) (by omega) (by decide))).symm) gX3_inner_X3_isSeries rfl (by decide +kernel) ⟨Nat.le_of_ble_eq_true rfl, Nat.le_of_ble_eq_true rfl⟩ hAm hP hS rfl hl.1 rfl (Nat.le_of_ble_eq_true rfl) dX3_inner_1 ⟨Nat.zero_le _, Nat.zero_le _⟩ (zkn (fun H locs hP hS => ?_))
  refine W.eq (g2 := F0 m 4 ls [.int (nI 1)]) rfl ?_
  refine zf_eq (tgt := 14) hx hb dX3_inner_4 (by decide) (by omega) (fun c1 => ?_) (fun c1 => ?_)
  ·
    exfalso; omega
  ·
    refine lv_iload_n hx hb dX3_inner_7 rfl (lv_at hl 2 rfl) ?_
    refine zcallS (As := [.int (nI b)]) (rest := []) (k := 1) hx hb hml hown hts (kX3_isSeries l D cL cI cR A F 7 (zME cL cI F C dg Y) (nI b) 1 (if_pos (zin_nI (a := 7) (by omega) (by decide))).symm) gX3_inner_X3_isSeries rfl (by decide +kernel) ⟨Nat.le_of_ble_eq_true rfl, Nat.le_of_ble_eq_true rfl⟩ hAm hP hS rfl hl.1 rfl (Nat.le_of_ble_eq_true rfl) dX3_inner_8 ⟨Nat.zero_le _, Nat.zero_le _⟩ (zkn (fun H locs hP hS => ?_))
    refine W.eq (g2 := F0 m 11 ls [.int (nI 1)]) rfl ?_
    refine zf_ne (tgt := 18) hx hb dX3_inner_11 (by decide) (by omega) (fun c2 => ?_) (fun c2 => ?_)
    ·
      refine lv_aload_n hx hb dX3_inner_18 rfl (lv_at hl 0 rfl) ?_
      refine lv_iload_n hx hb dX3_inner_19 rfl (lv_at hl 1 rfl) ?_
      refine lv_iconst (v := nI 0) hx hb dX3_inner_20 (by decide +kernel) ?_
      refine zcallV (As := [.int (nI a), .int (nI 0)]) (rest := []) (q := 0) (k := 2) hx hb hml hown hts (kX3_of l D cL cI cR A F hF C dg Y a (by omega) 0 (by omega) ((C a) 0) (by first | rfl | simp [va_up, *])) gX3_inner_X3_of rfl (by decide +kernel) ⟨Nat.le_of_ble_eq_true rfl, Nat.le_of_ble_eq_true rfl⟩ rfl (by omega) (zM_o) rfl rfl hAm hP hS rfl hl.1 rfl (Nat.le_of_ble_eq_true rfl) dX3_inner_21 ⟨Nat.zero_le _, Nat.zero_le _⟩ (zkn (fun H locs hP hS => ?_))
      refine W.eq (g2 := F0 m 24 ls [.long ((C a) 0)]) rfl ?_
      refine lv_aload_n hx hb dX3_inner_24 rfl (lv_at hl 0 rfl) ?_
      refine lv_iload_n hx hb dX3_inner_25 rfl (lv_at hl 2 rfl) ?_
      refine lv_iconst (v := nI 0) hx hb dX3_inner_26 (by decide +kernel) ?_
      refine zcallV (As := [.int (nI b), .int (nI 0)]) (rest := [.long ((C a) 0)]) (q := 0) (k := 2) hx hb hml hown hts (kX3_of l D cL cI cR A F hF C dg Y b (by omega) 0 (by omega) ((C b) 0) (by first | rfl | simp [va_up, *])) gX3_inner_X3_of rfl (by decide +kernel) ⟨Nat.le_of_ble_eq_true rfl, Nat.le_of_ble_eq_true rfl⟩ rfl (by omega) (zM_o) rfl rfl hAm hP hS rfl hl.1 rfl (Nat.le_of_ble_eq_true rfl) dX3_inner_27 ⟨Nat.zero_le _, Nat.zero_le _⟩ (zkn (fun H locs hP hS => ?_))
      refine W.eq (g2 := F0 m 30 ls [.long ((C b) 0), .long ((C a) 0)]) rfl ?_
      refine lv_lmul hx hb dX3_inner_30 ?_
      refine lv_lstore_n (lv' := [(3, .long (((C a) 0) * ((C b) 0))), (0, .ref (F 0)), (1, .int (nI a)), (2, .int (nI b))]) hx hb dX3_inner_31 rfl hl (by decide) rfl (fun ls hl => ?_)
      refine lv_iconst (v := nI 0) hx hb dX3_inner_32 (by decide +kernel) ?_
      refine lv_istore (lv' := [(5, .int (nI 0)), (3, .long (((C a) 0) * ((C b) 0))), (0, .ref (F 0)), (1, .int (nI a)), (2, .int (nI b))]) hx hb dX3_inner_33 hl (by decide) rfl (fun ls hl => ?_)
      have L35 : ∀ (n : Nat) (k : Nat) (u : Int64) (hk : k ≤ 25) (hu : (k = 0 → u = C a 0 * C b 0) ∧ (∀ m1, k = m1 + 1 → u = zinn (C a) (C b) m1)) (hn : 25 - k < n) (H : Heap) (locs : List Loc), va_P D vwCl (zq_wd F 7 (zME cL cI F C dg Y)) H → va_S A s.heap H locs → ∀ (ls : Array Slot), lv_has ls 6 [(0, .ref (F 0)), (1, .int (nI a)), (2, .int (nI b)), (3, .long u), (5, .int (nI k))] → W p l e ({ frames := 2, cells := 0, slots := 0, locals := 45 }) s m ([.ref (F 0), .int (nI a), .int (nI b)] : List Value).toArray below meth c H locs 0 0 (zQ below D A F 7 [.ref (F 0), .int (nI a), .int (nI b)] s (zPM cL cI F (zR (zinn (P a) (P b) 24) 1048576) P n0 Y.1)) (F0 m 35 ls []) := by
        intro n
        induction n with
        | zero =>
          intro k u hk hu hn
          exact absurd hn (Nat.not_lt_zero _)
        | succ n ih35 =>
          intro k u hk hu hn H locs hP hS ls hl
          refine lv_iload hx hb dX3_inner_35 (lv_at hl 4 rfl) ?_
          refine lv_bipush (v := nI 24) hx hb dX3_inner_37 (by decide +kernel) ?_
          refine zi_gt (tgt := 66) hx hb dX3_inner_39 (by decide) (by omega) (by omega) (fun c3 => ?_) (fun c3 => ?_)
          ·
            have hu2 := hu.2 24 (by omega)
            refine lv_lload_n hx hb dX3_inner_66 rfl (lv_at hl 3 rfl) ?_
            refine lv_ldc2 hx hb hown (hts (.constantLong RX3 45 (1048576)) (by decide +kernel)) dX3_inner_67 ?_
            refine zcallS (As := [.long u, .long (1048576 : Int64)]) (rest := []) (k := 2) hx hb hml hown hts (kX3_rounded l D cL cI cR A F 7 (zME cL cI F C dg Y) u (1048576 : Int64) (by decide)) gX3_inner_X3_rounded rfl (by decide +kernel) ⟨Nat.le_of_ble_eq_true rfl, Nat.le_of_ble_eq_true rfl⟩ hAm hP hS rfl hl.1 rfl (Nat.le_of_ble_eq_true rfl) dX3_inner_70 ⟨Nat.zero_le _, Nat.zero_le _⟩ (zkn (fun H locs hP hS => ?_))
            refine W.eq (g2 := F0 m 73 ls [.long (zR u (1048576 : Int64))]) rfl ?_
            exact zretL hx hb hr hlk hS hP dX3_inner_73 ⟨_, _, _, rfl, by rw [hu2, hCa, hCb], hCP, fun _ _ => rfl⟩
          ·
            refine lv_lload_n hx hb dX3_inner_42 rfl (lv_at hl 3 rfl) ?_
            refine lv_aload_n hx hb dX3_inner_43 rfl (lv_at hl 0 rfl) ?_
            refine lv_iload_n hx hb dX3_inner_44 rfl (lv_at hl 1 rfl) ?_
            refine lv_iload hx hb dX3_inner_45 (lv_at hl 4 rfl) ?_
            refine zcallV (As := [.int (nI a), .int (nI k)]) (rest := [.long u]) (q := 0) (k := 2) hx hb hml hown hts (kX3_of l D cL cI cR A F hF C dg Y a (by omega) k (by omega) ((C a) k) (by first | rfl | simp [va_up, *])) gX3_inner_X3_of rfl (by decide +kernel) ⟨Nat.le_of_ble_eq_true rfl, Nat.le_of_ble_eq_true rfl⟩ rfl (by omega) (zM_o) rfl rfl hAm hP hS rfl hl.1 rfl (Nat.le_of_ble_eq_true rfl) dX3_inner_47 ⟨Nat.zero_le _, Nat.zero_le _⟩ (zkn (fun H locs hP hS => ?_))
            refine W.eq (g2 := F0 m 50 ls [.long ((C a) k), .long u]) rfl ?_
            refine lv_aload_n hx hb dX3_inner_50 rfl (lv_at hl 0 rfl) ?_
            refine lv_iload_n hx hb dX3_inner_51 rfl (lv_at hl 2 rfl) ?_
            refine lv_iload hx hb dX3_inner_52 (lv_at hl 4 rfl) ?_
            refine zcallV (As := [.int (nI b), .int (nI k)]) (rest := [.long ((C a) k), .long u]) (q := 0) (k := 2) hx hb hml hown hts (kX3_of l D cL cI cR A F hF C dg Y b (by omega) k (by omega) ((C b) k) (by first | rfl | simp [va_up, *])) gX3_inner_X3_of rfl (by decide +kernel) ⟨Nat.le_of_ble_eq_true rfl, Nat.le_of_ble_eq_true rfl⟩ rfl (by omega) (zM_o) rfl rfl hAm hP hS rfl hl.1 rfl (Nat.le_of_ble_eq_true rfl) dX3_inner_54 ⟨Nat.zero_le _, Nat.zero_le _⟩ (zkn (fun H locs hP hS => ?_))
            refine W.eq (g2 := F0 m 57 ls [.long ((C b) k), .long ((C a) k), .long u]) rfl ?_
            refine lv_lmul hx hb dX3_inner_57 ?_
            refine lv_ladd hx hb dX3_inner_58 ?_
            refine lv_lstore_n (lv' := [(3, .long (u + (((C a) k) * ((C b) k)))), (0, .ref (F 0)), (1, .int (nI a)), (2, .int (nI b)), (5, .int (nI k))]) hx hb dX3_inner_59 rfl hl (by decide) rfl (fun ls hl => ?_)
            refine lv_iinc (v := (nI (k + 1))) (lv' := [(5, .int (nI (k + 1))), (3, .long (u + (((C a) k) * ((C b) k)))), (0, .ref (F 0)), (1, .int (nI a)), (2, .int (nI b))]) hx hb dX3_inner_60 hl (k := 4) rfl (zinc (by omega)) (by decide) rfl (fun ls hl => ?_)
            refine lv_goto (tgt := 35) hx hb dX3_inner_63 (by decide) ?_
            exact ih35 (k + 1) (u + (((C a) k) * ((C b) k))) (by omega) ⟨fun h => absurd h (by omega), fun m1 h => by (obtain rfl : m1 = k := by omega); cases m1 with | zero => (rw [hu.1 rfl, z2ab]; rfl) | succ m1 => (rw [hu.2 m1 rfl]; rfl)⟩ (by omega) H _ hP hS ls (lv_sub hl [2, 3, 4, 1, 0] rfl)
      exact L35 _ 0 _ (by omega) ⟨fun _ => rfl, fun m1 h => absurd h (by omega)⟩ (Nat.lt_succ_self _) H _ hP hS ls (lv_sub hl [2, 3, 4, 1, 0] rfl)
    ·
      exfalso; omega

set_option maxHeartbeats 4000000 in
set_option maxRecDepth 100000 in
theorem kX3_bound (l : Launch) (D : va_G) (cL cI cR : ClassId) (A : Nat → Prop) (F : Nat → Nat) (hF : zq_F A F 7) (C : Nat → Nat → Int64) (dg : Nat → Nat) (Y : zZM) (P : Nat → Nat → Int64) (n0 : Nat → Nat) (hCP : ∀ i, i < 8 → C i = P i ∧ dg i = n0 i) (h24 : ∀ i, i < 8 → n0 i ≤ 24) (hzz : ∀ i, i < 8 → ∀ j, n0 i < j → P i j = 0) (a : Nat) (ha : a ≤ 7) : zCt l yX3_bound wsX3_bound 2 45 D cL cI cR A F 7 (zME cL cI F C dg Y) [.ref (F 0), .int (nI a)] (zPM cL cI F (zbd (P a) 25) P n0 Y.1) := by
  refine zStart (cc := cX3_bound) (maxL := 5) (ret := (some .long)) (by decide +kernel) rfl (Nat.le_of_ble_eq_true rfl) ?_
  intro p e s m below meth c hx hb hr hml hlk hown hts hAm H hP hS ls hl
  have hown : s.vm.findClass RX3 = some m.cls := hown
  have hl : lv_has ls 5 [(0, .ref (F 0)), (1, .int (nI a))] := hl
  obtain ⟨hCa, hNa⟩ := hCP a (by omega)
  have h24a : dg a ≤ 24 := by rw [hNa]; exact h24 a (by omega)
  have hza : ∀ j, dg a < j → C a j = 0 := fun j hj => by rw [hCa]; exact hzz a (by omega) j (by rw [← hNa]; exact hj)
  refine lv_iload_n hx hb dX3_bound_0 rfl (lv_at hl 1 rfl) ?_
  refine zcallS (As := [.int (nI a)]) (rest := []) (k := 1) hx hb hml hown hts (kX3_isSeries l D cL cI cR A F 7 (zME cL cI F C dg Y) (nI a) 1 (if_pos (zin_nI (a := 7) (by omega) (by decide))).symm) gX3_bound_X3_isSeries rfl (by decide +kernel) ⟨Nat.le_of_ble_eq_true rfl, Nat.le_of_ble_eq_true rfl⟩ hAm hP hS rfl hl.1 rfl (Nat.le_of_ble_eq_true rfl) dX3_bound_1 ⟨Nat.zero_le _, Nat.zero_le _⟩ (zkn (fun H locs hP hS => ?_))
  refine W.eq (g2 := F0 m 4 ls [.int (nI 1)]) rfl ?_
  refine zf_ne (tgt := 11) hx hb dX3_bound_4 (by decide) (by omega) (fun c1 => ?_) (fun c1 => ?_)
  ·
    refine lv_lconst (v := (0 : Int64)) hx hb dX3_bound_11 (by decide +kernel) ?_
    refine lv_lstore_n (lv' := [(2, .long (0 : Int64)), (0, .ref (F 0)), (1, .int (nI a))]) hx hb dX3_bound_12 rfl hl (by decide) rfl (fun ls hl => ?_)
    refine lv_iconst (v := nI 0) hx hb dX3_bound_13 (by decide +kernel) ?_
    refine lv_istore (lv' := [(4, .int (nI 0)), (2, .long (0 : Int64)), (0, .ref (F 0)), (1, .int (nI a))]) hx hb dX3_bound_14 hl (by decide) rfl (fun ls hl => ?_)
    have L16 : ∀ (n : Nat) (m1 : Nat) (u : Int64) (hm : m1 ≤ 25) (hu : u = zbd (C a) m1) (hn : 25 - m1 < n) (H : Heap) (locs : List Loc), va_P D vwCl (zq_wd F 7 (zME cL cI F C dg Y)) H → va_S A s.heap H locs → ∀ (ls : Array Slot), lv_has ls 5 [(0, .ref (F 0)), (1, .int (nI a)), (2, .long u), (4, .int (nI m1))] → W p l e ({ frames := 2, cells := 0, slots := 0, locals := 45 }) s m ([.ref (F 0), .int (nI a)] : List Value).toArray below meth c H locs 0 0 (zQ below D A F 7 [.ref (F 0), .int (nI a)] s (zPM cL cI F (zbd (P a) 25) P n0 Y.1)) (F0 m 16 ls []) := by
      intro n
      induction n with
      | zero =>
        intro m1 u hm hu hn
        exact absurd hn (Nat.not_lt_zero _)
      | succ n ih16 =>
        intro m1 u hm hu hn H locs hP hS ls hl
        refine lv_iload hx hb dX3_bound_16 (lv_at hl 3 rfl) ?_
        refine lv_bipush (v := nI 24) hx hb dX3_bound_18 (by decide +kernel) ?_
        refine zi_gt (tgt := 42) hx hb dX3_bound_20 (by decide) (by omega) (by omega) (fun c2 => ?_) (fun c2 => ?_)
        ·
          refine lv_lload_n hx hb dX3_bound_42 rfl (lv_at hl 2 rfl) ?_
          exact zretL hx hb hr hlk hS hP dX3_bound_43 ⟨_, _, _, rfl, by rw [hu, show m1 = 25 by omega, hCa], hCP, fun _ _ => rfl⟩
        ·
          refine lv_lload_n hx hb dX3_bound_23 rfl (lv_at hl 2 rfl) ?_
          refine lv_aload_n hx hb dX3_bound_24 rfl (lv_at hl 0 rfl) ?_
          refine lv_iload_n hx hb dX3_bound_25 rfl (lv_at hl 1 rfl) ?_
          refine lv_iload hx hb dX3_bound_26 (lv_at hl 3 rfl) ?_
          refine zcallV (As := [.int (nI a), .int (nI m1)]) (rest := [.long u]) (q := 0) (k := 2) hx hb hml hown hts (kX3_of l D cL cI cR A F hF C dg Y a (by omega) m1 (by omega) ((C a) m1) (by first | rfl | simp [va_up, *])) gX3_bound_X3_of rfl (by decide +kernel) ⟨Nat.le_of_ble_eq_true rfl, Nat.le_of_ble_eq_true rfl⟩ rfl (by omega) (zM_o) rfl rfl hAm hP hS rfl hl.1 rfl (Nat.le_of_ble_eq_true rfl) dX3_bound_28 ⟨Nat.zero_le _, Nat.zero_le _⟩ (zkn (fun H locs hP hS => ?_))
          refine W.eq (g2 := F0 m 31 ls [.long ((C a) m1), .long u]) rfl ?_
          refine zcallS (As := [.long ((C a) m1)]) (rest := [.long u]) (k := 1) hx hb hml hown hts (kX3_size l D cL cI cR A F 7 (zME cL cI F C dg Y) ((C a) m1)) gX3_bound_X3_size rfl (by decide +kernel) ⟨Nat.le_of_ble_eq_true rfl, Nat.le_of_ble_eq_true rfl⟩ hAm hP hS rfl hl.1 rfl (Nat.le_of_ble_eq_true rfl) dX3_bound_31 ⟨Nat.zero_le _, Nat.zero_le _⟩ (zkn (fun H locs hP hS => ?_))
          refine W.eq (g2 := F0 m 34 ls [.long (zabs ((C a) m1)), .long u]) rfl ?_
          refine lv_ladd hx hb dX3_bound_34 ?_
          refine lv_lstore_n (lv' := [(2, .long (u + (zabs ((C a) m1)))), (0, .ref (F 0)), (1, .int (nI a)), (4, .int (nI m1))]) hx hb dX3_bound_35 rfl hl (by decide) rfl (fun ls hl => ?_)
          refine lv_iinc (v := (nI (m1 + 1))) (lv' := [(4, .int (nI (m1 + 1))), (2, .long (u + (zabs ((C a) m1)))), (0, .ref (F 0)), (1, .int (nI a))]) hx hb dX3_bound_36 hl (k := 3) rfl (zinc (by omega)) (by decide) rfl (fun ls hl => ?_)
          refine lv_goto (tgt := 16) hx hb dX3_bound_39 (by decide) ?_
          exact ih16 (m1 + 1) (u + (zabs ((C a) m1))) (by omega) (by rw [hu]; rfl) (by omega) H _ hP hS ls (lv_sub hl [2, 3, 1, 0] rfl)
    exact L16 _ 0 0 (by omega) rfl (Nat.lt_succ_self _) H _ hP hS ls (lv_sub hl [2, 3, 1, 0] rfl)
  ·
    exfalso; omega

set_option maxHeartbeats 4000000 in
set_option maxRecDepth 100000 in
theorem kX3_byValue (l : Launch) (D : va_G) (cL cI cR : ClassId) (A : Nat → Prop) (F : Nat → Nat) (hF : zq_F A F 7) (C : Nat → Nat → Int64) (dg : Nat → Nat) (Y : zZM) (P : Nat → Nat → Int64) (n0 : Nat → Nat) (hCP : ∀ i, i < 8 → C i = P i ∧ dg i = n0 i) (h24 : ∀ i, i < 8 → n0 i ≤ 24) (hzz : ∀ i, i < 8 → ∀ j, n0 i < j → P i j = 0) (a : Nat) (ha : a ≤ 7) (pl : Nat) (hpl : pl ≤ 24) (hbd : ∀ j, -268435456 ≤ (P a j).toInt ∧ (P a j).toInt ≤ 268435456) : zCt l yX3_byValue wsX3_byValue 2 45 D cL cI cR A F 7 (zME cL cI F C dg Y) [.ref (F 0), .int (nI a), .int (nI pl)] (zPM cL cI F (zbv (P a) (n0 a) pl (n0 a + 1) 0) P n0 Y.1) := by
  refine zStart (cc := cX3_byValue) (maxL := 8) (ret := (some .long)) (by decide +kernel) rfl (Nat.le_of_ble_eq_true rfl) ?_
  intro p e s m below meth c hx hb hr hml hlk hown hts hAm H hP hS ls hl
  have hown : s.vm.findClass RX3 = some m.cls := hown
  have hl : lv_has ls 8 [(0, .ref (F 0)), (1, .int (nI a)), (2, .int (nI pl))] := hl
  have hinX3 : ∀ w ∈ u_ws RX3 TX3 8, w ∈ wsX3_byValue := by decide +kernel
  obtain ⟨hCa, hNa⟩ := hCP a (by omega)
  have h24a : dg a ≤ 24 := by rw [hNa]; exact h24 a (by omega)
  have hza : ∀ j, dg a < j → C a j = 0 := fun j hj => by rw [hCa]; exact hzz a (by omega) j (by rw [← hNa]; exact hj)
  rw [← hCa] at hbd
  refine lv_iload_n hx hb dX3_byValue_0 rfl (lv_at hl 1 rfl) ?_
  refine zcallS (As := [.int (nI a)]) (rest := []) (k := 1) hx hb hml hown hts (kX3_isSeries l D cL cI cR A F 7 (zME cL cI F C dg Y) (nI a) 1 (if_pos (zin_nI (a := 7) (by omega) (by decide))).symm) gX3_byValue_X3_isSeries rfl (by decide +kernel) ⟨Nat.le_of_ble_eq_true rfl, Nat.le_of_ble_eq_true rfl⟩ hAm hP hS rfl hl.1 rfl (Nat.le_of_ble_eq_true rfl) dX3_byValue_1 ⟨Nat.zero_le _, Nat.zero_le _⟩ (zkn (fun H locs hP hS => ?_))
  refine W.eq (g2 := F0 m 4 ls [.int (nI 1)]) rfl ?_
  refine zf_eq (tgt := 19) hx hb dX3_byValue_4 (by decide) (by omega) (fun c1 => ?_) (fun c1 => ?_)
  ·
    exfalso; omega
  ·
    refine lv_iload_n hx hb dX3_byValue_7 rfl (lv_at hl 2 rfl) ?_
    refine zi2l hx hb (by omega) dX3_byValue_8 ?_
    refine lv_lconst (v := (0 : Int64)) hx hb dX3_byValue_9 (by decide +kernel) ?_
    refine lv_ldc2 hx hb hown (hts (.constantLong RX3 79 (24)) (by decide +kernel)) dX3_byValue_10 ?_
    refine zcallS (As := [.long (lN pl), .long (0 : Int64), .long (24 : Int64)]) (rest := []) (k := 3) hx hb hml hown hts (kX3_in l D cL cI cR A F 7 (zME cL cI F C dg Y) (lN pl) (0 : Int64) (24 : Int64) 1 (zn1N (m := 24) (by decide) (by omega) (by decide))) gX3_byValue_X3_in rfl (by decide +kernel) ⟨Nat.le_of_ble_eq_true rfl, Nat.le_of_ble_eq_true rfl⟩ hAm hP hS rfl hl.1 rfl (Nat.le_of_ble_eq_true rfl) dX3_byValue_13 ⟨Nat.zero_le _, Nat.zero_le _⟩ (zkn (fun H locs hP hS => ?_))
    refine W.eq (g2 := F0 m 16 ls [.int (nI 1)]) rfl ?_
    refine zf_ne (tgt := 23) hx hb dX3_byValue_16 (by decide) (by omega) (fun c2 => ?_) (fun c2 => ?_)
    ·
      refine lv_iconst (v := nI 0) hx hb dX3_byValue_23 (by decide +kernel) ?_
      refine lv_istore_n (lv' := [(3, .int (nI 0)), (0, .ref (F 0)), (1, .int (nI a)), (2, .int (nI pl))]) hx hb dX3_byValue_24 rfl hl (by decide) rfl (fun ls hl => ?_)
      have L25 : ∀ (n : Nat) (k u : Nat) (hk : k + u = dg a + 1) (hv : zbv (C a) (dg a) pl u k = zbv (C a) (dg a) pl (dg a + 1) 0) (hn : u < n) (H : Heap) (locs : List Loc), va_P D vwCl (zq_wd F 7 (zME cL cI F C dg Y)) H → va_S A s.heap H locs → ∀ (ls : Array Slot), lv_has ls 8 [(0, .ref (F 0)), (1, .int (nI a)), (2, .int (nI pl)), (3, .int (nI k))] → W p l e ({ frames := 2, cells := 0, slots := 0, locals := 45 }) s m ([.ref (F 0), .int (nI a), .int (nI pl)] : List Value).toArray below meth c H locs 0 0 (zQ below D A F 7 [.ref (F 0), .int (nI a), .int (nI pl)] s (zPM cL cI F (zbv (P a) (n0 a) pl (n0 a + 1) 0) P n0 Y.1)) (F0 m 25 ls []) := by
        intro n
        induction n with
        | zero =>
          intro k u hk hv hn
          exact absurd hn (Nat.not_lt_zero _)
        | succ n ih25 =>
          intro k u hk hv hn H locs hP hS ls hl
          refine lv_iload_n hx hb dX3_byValue_25 rfl (lv_at hl 3 rfl) ?_
          refine lv_aload_n hx hb dX3_byValue_26 rfl (lv_at hl 0 rfl) ?_
          refine zget (q := 0) (k := 1) (v := .ref (F 2)) hx hb hts hinX3 hown hAm hP (by omega) (zM_o) rfl (by decide) (hts (.fieldLink RX3 13 "CosineSeriesModel" "degrees" "[I") (by decide +kernel)) (by first | rfl | simp [va_up, *]) dX3_byValue_27 ?_
          refine lv_iload_n hx hb dX3_byValue_30 rfl (lv_at hl 1 rfl) ?_
          refine ziald (q := 2) (k := a) (v := (nI (dg a))) hx hb hAm hP (by omega) (zM_d) (by omega) (by decide) (by first | rfl | simp [va_up, *]) dX3_byValue_31 ?_
          refine zi_gt (tgt := 125) hx hb dX3_byValue_32 (by decide) (by omega) (by omega) (fun c3 => ?_) (fun c3 => ?_)
          ·
            obtain rfl : u = 0 := by omega
            refine lv_ldc2 hx hb hown (hts (.constantLong RX3 130 (-9000000000000000004)) (by decide +kernel)) dX3_byValue_125 ?_
            exact zretL hx hb hr hlk hS hP dX3_byValue_128 ⟨_, _, _, rfl, by rw [← hCa, ← hNa, ← hv]; rfl, hCP, fun _ _ => rfl⟩
          ·
            obtain ⟨u, rfl⟩ : ∃ j, u = j + 1 := ⟨u - 1, by omega⟩
            refine lv_iconst (v := nI 0) hx hb dX3_byValue_35 (by decide +kernel) ?_
            refine lv_istore (lv' := [(4, .int (nI 0)), (0, .ref (F 0)), (1, .int (nI a)), (2, .int (nI pl)), (3, .int (nI k))]) hx hb dX3_byValue_36 hl (by decide) rfl (fun ls hl => ?_)
            refine lv_iconst (v := nI 0) hx hb dX3_byValue_38 (by decide +kernel) ?_
            refine lv_istore (lv' := [(5, .int (nI 0)), (4, .int (nI 0)), (0, .ref (F 0)), (1, .int (nI a)), (2, .int (nI pl)), (3, .int (nI k))]) hx hb dX3_byValue_39 hl (by decide) rfl (fun ls hl => ?_)
            have L41 : ∀ (n : Nat) (o ct : Nat) (ho : o ≤ dg a + 1) (ht : ct = zplace (C a) k o) (hct : ct ≤ o) (hn : dg a + 1 - o < n) (H : Heap) (locs : List Loc), va_P D vwCl (zq_wd F 7 (zME cL cI F C dg Y)) H → va_S A s.heap H locs → ∀ (ls : Array Slot), lv_has ls 8 [(0, .ref (F 0)), (1, .int (nI a)), (2, .int (nI pl)), (3, .int (nI k)), (4, .int (nI ct)), (5, .int (nI o))] → W p l e ({ frames := 2, cells := 0, slots := 0, locals := 45 }) s m ([.ref (F 0), .int (nI a), .int (nI pl)] : List Value).toArray below meth c H locs 0 0 (zQ below D A F 7 [.ref (F 0), .int (nI a), .int (nI pl)] s (zPM cL cI F (zbv (P a) (n0 a) pl (n0 a + 1) 0) P n0 Y.1)) (F0 m 41 ls []) := by
              intro n
              induction n with
              | zero =>
                intro o ct ho ht hct hn
                exact absurd hn (Nat.not_lt_zero _)
              | succ n ih41 =>
                intro o ct ho ht hct hn H locs hP hS ls hl
                refine lv_iload hx hb dX3_byValue_41 (lv_at hl 5 rfl) ?_
                refine lv_aload_n hx hb dX3_byValue_43 rfl (lv_at hl 0 rfl) ?_
                refine zget (q := 0) (k := 1) (v := .ref (F 2)) hx hb hts hinX3 hown hAm hP (by omega) (zM_o) rfl (by decide) (hts (.fieldLink RX3 13 "CosineSeriesModel" "degrees" "[I") (by decide +kernel)) (by first | rfl | simp [va_up, *]) dX3_byValue_44 ?_
                refine lv_iload_n hx hb dX3_byValue_47 rfl (lv_at hl 1 rfl) ?_
                refine ziald (q := 2) (k := a) (v := (nI (dg a))) hx hb hAm hP (by omega) (zM_d) (by omega) (by decide) (by first | rfl | simp [va_up, *]) dX3_byValue_48 ?_
                refine zi_gt (tgt := 110) hx hb dX3_byValue_49 (by decide) (by omega) (by omega) (fun c4 => ?_) (fun c4 => ?_)
                ·
                  have hct2 : ct = zplace (C a) k (dg a + 1) := by rw [ht, show o = dg a + 1 by omega]
                  refine lv_iload hx hb dX3_byValue_110 (lv_at hl 4 rfl) ?_
                  refine lv_iload_n hx hb dX3_byValue_112 rfl (lv_at hl 2 rfl) ?_
                  refine zi_ne (tgt := 119) hx hb dX3_byValue_113 (by decide) (by omega) (by omega) (fun c5 => ?_) (fun c5 => ?_)
                  ·
                    have hne : ¬ zplace (C a) k (dg a + 1) = pl := by rw [← hct2]; exact c5
                    refine lv_iinc (v := (nI (k + 1))) (lv' := [(3, .int (nI (k + 1))), (0, .ref (F 0)), (1, .int (nI a)), (2, .int (nI pl)), (4, .int (nI ct)), (5, .int (nI o))]) hx hb dX3_byValue_119 hl (k := 3) rfl (zinc (by omega)) (by decide) rfl (fun ls hl => ?_)
                    refine lv_goto (tgt := 25) hx hb dX3_byValue_122 (by decide) ?_
                    exact ih25 (k + 1) u (by omega) (by rw [← hv, zbv, if_neg hne]) (by omega) H _ hP hS ls (lv_sub hl [1, 2, 3, 0] rfl)
                  ·
                    refine lv_iload_n hx hb dX3_byValue_116 rfl (lv_at hl 3 rfl) ?_
                    refine zi2l hx hb (by omega) dX3_byValue_117 ?_
                    exact zretL hx hb hr hlk hS hP dX3_byValue_118 ⟨_, _, _, rfl, by rw [← hCa, ← hNa, ← hv, zbv, if_pos (by rw [← hct2]; exact c5)], hCP, fun _ _ => rfl⟩
                ·
                  have hpc := zplc (c := C a) (k := k) (o := o) (hbd k) (hbd o)
                  refine lv_aload_n hx hb dX3_byValue_52 rfl (lv_at hl 0 rfl) ?_
                  refine lv_iload_n hx hb dX3_byValue_53 rfl (lv_at hl 1 rfl) ?_
                  refine lv_iload hx hb dX3_byValue_54 (lv_at hl 5 rfl) ?_
                  refine zcallV (As := [.int (nI a), .int (nI o)]) (rest := []) (q := 0) (k := 2) hx hb hml hown hts (kX3_of l D cL cI cR A F hF C dg Y a (by omega) o (by omega) ((C a) o) (by first | rfl | simp [va_up, *])) gX3_byValue_X3_of rfl (by decide +kernel) ⟨Nat.le_of_ble_eq_true rfl, Nat.le_of_ble_eq_true rfl⟩ rfl (by omega) (zM_o) rfl rfl hAm hP hS rfl hl.1 rfl (Nat.le_of_ble_eq_true rfl) dX3_byValue_56 ⟨Nat.zero_le _, Nat.zero_le _⟩ (zkn (fun H locs hP hS => ?_))
                  refine W.eq (g2 := F0 m 59 ls [.long ((C a) o)]) rfl ?_
                  refine zcallS (As := [.long ((C a) o)]) (rest := []) (k := 1) hx hb hml hown hts (kX3_size l D cL cI cR A F 7 (zME cL cI F C dg Y) ((C a) o)) gX3_byValue_X3_size rfl (by decide +kernel) ⟨Nat.le_of_ble_eq_true rfl, Nat.le_of_ble_eq_true rfl⟩ hAm hP hS rfl hl.1 rfl (Nat.le_of_ble_eq_true rfl) dX3_byValue_59 ⟨Nat.zero_le _, Nat.zero_le _⟩ (zkn (fun H locs hP hS => ?_))
                  refine W.eq (g2 := F0 m 62 ls [.long (zabs ((C a) o))]) rfl ?_
                  refine lv_aload_n hx hb dX3_byValue_62 rfl (lv_at hl 0 rfl) ?_
                  refine lv_iload_n hx hb dX3_byValue_63 rfl (lv_at hl 1 rfl) ?_
                  refine lv_iload_n hx hb dX3_byValue_64 rfl (lv_at hl 3 rfl) ?_
                  refine zcallV (As := [.int (nI a), .int (nI k)]) (rest := [.long (zabs ((C a) o))]) (q := 0) (k := 2) hx hb hml hown hts (kX3_of l D cL cI cR A F hF C dg Y a (by omega) k (by omega) ((C a) k) (by first | rfl | simp [va_up, *])) gX3_byValue_X3_of rfl (by decide +kernel) ⟨Nat.le_of_ble_eq_true rfl, Nat.le_of_ble_eq_true rfl⟩ rfl (by omega) (zM_o) rfl rfl hAm hP hS rfl hl.1 rfl (Nat.le_of_ble_eq_true rfl) dX3_byValue_65 ⟨Nat.zero_le _, Nat.zero_le _⟩ (zkn (fun H locs hP hS => ?_))
                  refine W.eq (g2 := F0 m 68 ls [.long ((C a) k), .long (zabs ((C a) o))]) rfl ?_
                  refine zcallS (As := [.long ((C a) k)]) (rest := [.long (zabs ((C a) o))]) (k := 1) hx hb hml hown hts (kX3_size l D cL cI cR A F 7 (zME cL cI F C dg Y) ((C a) k)) gX3_byValue_X3_size rfl (by decide +kernel) ⟨Nat.le_of_ble_eq_true rfl, Nat.le_of_ble_eq_true rfl⟩ hAm hP hS rfl hl.1 rfl (Nat.le_of_ble_eq_true rfl) dX3_byValue_68 ⟨Nat.zero_le _, Nat.zero_le _⟩ (zkn (fun H locs hP hS => ?_))
                  refine W.eq (g2 := F0 m 71 ls [.long (zabs ((C a) k)), .long (zabs ((C a) o))]) rfl ?_
                  refine lv_lsub hx hb dX3_byValue_71 ?_
                  refine lv_lstore (lv' := [(6, .long ((zabs ((C a) o)) - (zabs ((C a) k)))), (0, .ref (F 0)), (1, .int (nI a)), (2, .int (nI pl)), (3, .int (nI k)), (4, .int (nI ct)), (5, .int (nI o))]) hx hb dX3_byValue_72 hl (by decide) rfl (fun ls hl => ?_)
                  refine lv_iload hx hb dX3_byValue_74 (lv_at hl 5 rfl) ?_
                  refine lv_lload hx hb dX3_byValue_76 (lv_at hl 0 rfl) ?_
                  refine lv_lconst (v := (0 : Int64)) hx hb dX3_byValue_78 (by decide +kernel) ?_
                  refine zl_gt (tgt := 96) hx hb dX3_byValue_79 dX3_byValue_80 (by decide) (fun c6 => ?_) (fun c6 => ?_)
                  ·
                    have hq1 := hpc.1.mp c6
                    have hst : zplace (C a) k (o + 1) = zplace (C a) k o + 1 := by simp only [zplace]; rw [if_pos (Or.inl hq1)]
                    refine lv_iconst (v := nI 1) hx hb dX3_byValue_96 (by decide +kernel) ?_
                    refine lv_goto (tgt := 101) hx hb dX3_byValue_97 (by decide) ?_
                    refine ziadd (d := (ct + 1)) hx hb (by omega) dX3_byValue_101 ?_
                    refine lv_istore (lv' := [(4, .int (nI (ct + 1))), (6, .long ((zabs ((C a) o)) - (zabs ((C a) k)))), (0, .ref (F 0)), (1, .int (nI a)), (2, .int (nI pl)), (3, .int (nI k)), (5, .int (nI o))]) hx hb dX3_byValue_102 hl (by decide) rfl (fun ls hl => ?_)
                    refine lv_iinc (v := (nI (o + 1))) (lv' := [(5, .int (nI (o + 1))), (4, .int (nI (ct + 1))), (6, .long ((zabs ((C a) o)) - (zabs ((C a) k)))), (0, .ref (F 0)), (1, .int (nI a)), (2, .int (nI pl)), (3, .int (nI k))]) hx hb dX3_byValue_104 hl (k := 6) rfl (zinc (by omega)) (by decide) rfl (fun ls hl => ?_)
                    refine lv_goto (tgt := 41) hx hb dX3_byValue_107 (by decide) ?_
                    exact ih41 (o + 1) (ct + 1) (by omega) (by rw [hst, ht]) (by omega) (by omega) H _ hP hS ls (lv_sub hl [3, 4, 5, 6, 1, 0] rfl)
                  ·
                    have hq1 := fun h => c6 (hpc.1.mpr h)
                    refine lv_lload hx hb dX3_byValue_83 (lv_at hl 0 rfl) ?_
                    refine lv_lconst (v := (0 : Int64)) hx hb dX3_byValue_85 (by decide +kernel) ?_
                    refine zl_ne (tgt := 100) hx hb dX3_byValue_86 dX3_byValue_87 (by decide) (fun c7 => ?_) (fun c7 => ?_)
                    ·
                      have hq2 := fun h => c7 (hpc.2.mpr h)
                      have hst : zplace (C a) k (o + 1) = zplace (C a) k o := by simp only [zplace]; rw [if_neg (fun h => h.elim hq1 (fun h => hq2 h.1)), Nat.add_zero]
                      refine lv_iconst (v := nI 0) hx hb dX3_byValue_100 (by decide +kernel) ?_
                      refine ziadd (d := ct) hx hb (by omega) dX3_byValue_101 ?_
                      refine lv_istore (lv' := [(4, .int (nI ct)), (6, .long ((zabs ((C a) o)) - (zabs ((C a) k)))), (0, .ref (F 0)), (1, .int (nI a)), (2, .int (nI pl)), (3, .int (nI k)), (5, .int (nI o))]) hx hb dX3_byValue_102 hl (by decide) rfl (fun ls hl => ?_)
                      refine lv_iinc (v := (nI (o + 1))) (lv' := [(5, .int (nI (o + 1))), (4, .int (nI ct)), (6, .long ((zabs ((C a) o)) - (zabs ((C a) k)))), (0, .ref (F 0)), (1, .int (nI a)), (2, .int (nI pl)), (3, .int (nI k))]) hx hb dX3_byValue_104 hl (k := 6) rfl (zinc (by omega)) (by decide) rfl (fun ls hl => ?_)
                      refine lv_goto (tgt := 41) hx hb dX3_byValue_107 (by decide) ?_
                      exact ih41 (o + 1) ct (by omega) (by rw [hst, ht]) (by omega) (by omega) H _ hP hS ls (lv_sub hl [3, 4, 5, 6, 1, 0] rfl)
                    ·
                      have hq2 := hpc.2.mp c7
                      refine lv_iload hx hb dX3_byValue_90 (lv_at hl 6 rfl) ?_
                      refine lv_iload_n hx hb dX3_byValue_92 rfl (lv_at hl 4 rfl) ?_
                      refine zi_ge (tgt := 100) hx hb dX3_byValue_93 (by decide) (by omega) (by omega) (fun c8 => ?_) (fun c8 => ?_)
                      ·
                        have hq3 := c8
                        have hst : zplace (C a) k (o + 1) = zplace (C a) k o := by simp only [zplace]; rw [if_neg (fun h => h.elim hq1 (fun h => by omega)), Nat.add_zero]
                        refine lv_iconst (v := nI 0) hx hb dX3_byValue_100 (by decide +kernel) ?_
                        refine ziadd (d := ct) hx hb (by omega) dX3_byValue_101 ?_
                        refine lv_istore (lv' := [(4, .int (nI ct)), (6, .long ((zabs ((C a) o)) - (zabs ((C a) k)))), (0, .ref (F 0)), (1, .int (nI a)), (2, .int (nI pl)), (3, .int (nI k)), (5, .int (nI o))]) hx hb dX3_byValue_102 hl (by decide) rfl (fun ls hl => ?_)
                        refine lv_iinc (v := (nI (o + 1))) (lv' := [(5, .int (nI (o + 1))), (4, .int (nI ct)), (6, .long ((zabs ((C a) o)) - (zabs ((C a) k)))), (0, .ref (F 0)), (1, .int (nI a)), (2, .int (nI pl)), (3, .int (nI k))]) hx hb dX3_byValue_104 hl (k := 6) rfl (zinc (by omega)) (by decide) rfl (fun ls hl => ?_)
                        refine lv_goto (tgt := 41) hx hb dX3_byValue_107 (by decide) ?_
                        exact ih41 (o + 1) ct (by omega) (by rw [hst, ht]) (by omega) (by omega) H _ hP hS ls (lv_sub hl [3, 4, 5, 6, 1, 0] rfl)
                      ·
                        have hq3 := c8
                        have hst : zplace (C a) k (o + 1) = zplace (C a) k o + 1 := by simp only [zplace]; rw [if_pos (Or.inr ⟨hq2, by omega⟩)]
                        refine lv_iconst (v := nI 1) hx hb dX3_byValue_96 (by decide +kernel) ?_
                        refine lv_goto (tgt := 101) hx hb dX3_byValue_97 (by decide) ?_
                        refine ziadd (d := (ct + 1)) hx hb (by omega) dX3_byValue_101 ?_
                        refine lv_istore (lv' := [(4, .int (nI (ct + 1))), (6, .long ((zabs ((C a) o)) - (zabs ((C a) k)))), (0, .ref (F 0)), (1, .int (nI a)), (2, .int (nI pl)), (3, .int (nI k)), (5, .int (nI o))]) hx hb dX3_byValue_102 hl (by decide) rfl (fun ls hl => ?_)
                        refine lv_iinc (v := (nI (o + 1))) (lv' := [(5, .int (nI (o + 1))), (4, .int (nI (ct + 1))), (6, .long ((zabs ((C a) o)) - (zabs ((C a) k)))), (0, .ref (F 0)), (1, .int (nI a)), (2, .int (nI pl)), (3, .int (nI k))]) hx hb dX3_byValue_104 hl (k := 6) rfl (zinc (by omega)) (by decide) rfl (fun ls hl => ?_)
                        refine lv_goto (tgt := 41) hx hb dX3_byValue_107 (by decide) ?_
                        exact ih41 (o + 1) (ct + 1) (by omega) (by rw [hst, ht]) (by omega) (by omega) H _ hP hS ls (lv_sub hl [3, 4, 5, 6, 1, 0] rfl)
            exact L41 _ 0 0 (by omega) rfl (by omega) (Nat.lt_succ_self _) H _ hP hS ls (lv_sub hl [2, 3, 4, 5, 1, 0] rfl)
      exact L25 _ 0 (dg a + 1) (by omega) rfl (Nat.lt_succ_self _) H _ hP hS ls (lv_sub hl [1, 2, 3, 0] rfl)
    ·
      exfalso; omega

set_option maxHeartbeats 4000000 in
set_option maxRecDepth 100000 in
theorem kX3_setValue (l : Launch) (D : va_G) (cL cI cR : ClassId) (A : Nat → Prop) (F : Nat → Nat) (hF : zq_F A F 7) (C : Nat → Nat → Int64) (dg : Nat → Nat) (vals found waits : Nat → Int32) (roots looks : Nat) (P : Nat → Nat → Int64) (n0 : Nat → Nat) (hCP : ∀ i, i < 8 → C i = P i ∧ dg i = n0 i) (h24 : ∀ i, i < 8 → n0 i ≤ 24) (hzz : ∀ i, i < 8 → ∀ j, n0 i < j → P i j = 0) (j : Nat) (hj : j ≤ 16) (vx : Int32) (hv : zin (-134217728) 134217728 vx) : zCt l yX3_setValue wsX3_setValue 1 25 D cL cI cR A F 7 (zME cL cI F C dg (vals, found, waits, roots, looks)) [.ref (F 0), .int (nI j), .int vx] (zPM cL cI F (vals j).toInt64 P n0 (upd vals j vx)) := by
  refine zStart (cc := cX3_setValue) (maxL := 4) (ret := (some .long)) (by decide +kernel) rfl (Nat.le_of_ble_eq_true rfl) ?_
  intro p e s m below meth c hx hb hr hml hlk hown hts hAm H hP hS ls hl
  have hown : s.vm.findClass RX3 = some m.cls := hown
  have hl : lv_has ls 4 [(0, .ref (F 0)), (1, .int (nI j)), (2, .int vx)] := hl
  have hinX3 : ∀ w ∈ u_ws RX3 TX3 8, w ∈ wsX3_setValue := by decide +kernel
  refine lv_iload_n hx hb dX3_setValue_0 rfl (lv_at hl 1 rfl) ?_
  refine zi2l hx hb (by omega) dX3_setValue_1 ?_
  refine lv_lconst (v := (0 : Int64)) hx hb dX3_setValue_2 (by decide +kernel) ?_
  refine lv_ldc2 hx hb hown (hts (.constantLong RX3 134 (16)) (by decide +kernel)) dX3_setValue_3 ?_
  refine zcallS (As := [.long (lN j), .long (0 : Int64), .long (16 : Int64)]) (rest := []) (k := 3) hx hb hml hown hts (kX3_in l D cL cI cR A F 7 (zME cL cI F C dg (vals, found, waits, roots, looks)) (lN j) (0 : Int64) (16 : Int64) 1 (zn1N (m := 16) (by decide) (by omega) (by decide))) gX3_setValue_X3_in rfl (by decide +kernel) ⟨Nat.le_of_ble_eq_true rfl, Nat.le_of_ble_eq_true rfl⟩ hAm hP hS rfl hl.1 rfl (Nat.le_of_ble_eq_true rfl) dX3_setValue_6 ⟨Nat.zero_le _, Nat.zero_le _⟩ (zkn (fun H locs hP hS => ?_))
  refine W.eq (g2 := F0 m 9 ls [.int (nI 1)]) rfl ?_
  refine zf_eq (tgt := 26) hx hb dX3_setValue_9 (by decide) (by omega) (fun c1 => ?_) (fun c1 => ?_)
  ·
    exfalso; omega
  ·
    refine lv_iload_n hx hb dX3_setValue_12 rfl (lv_at hl 2 rfl) ?_
    refine lv_i2l (v := vx.toInt64) hx hb dX3_setValue_13 rfl ?_
    refine lv_ldc2 hx hb hown (hts (.constantLong RX3 136 (-134217728)) (by decide +kernel)) dX3_setValue_14 ?_
    refine lv_ldc2 hx hb hown (hts (.constantLong RX3 138 (134217728)) (by decide +kernel)) dX3_setValue_17 ?_
    refine zcallS (As := [.long vx.toInt64, .long (-134217728 : Int64), .long (134217728 : Int64)]) (rest := []) (k := 3) hx hb hml hown hts (kX3_in l D cL cI cR A F 7 (zME cL cI F C dg (vals, found, waits, roots, looks)) vx.toInt64 (-134217728 : Int64) (134217728 : Int64) 1 (zn1 rfl rfl hv)) gX3_setValue_X3_in rfl (by decide +kernel) ⟨Nat.le_of_ble_eq_true rfl, Nat.le_of_ble_eq_true rfl⟩ hAm hP hS rfl hl.1 rfl (Nat.le_of_ble_eq_true rfl) dX3_setValue_20 ⟨Nat.zero_le _, Nat.zero_le _⟩ (zkn (fun H locs hP hS => ?_))
    refine W.eq (g2 := F0 m 23 ls [.int (nI 1)]) rfl ?_
    refine zf_ne (tgt := 30) hx hb dX3_setValue_23 (by decide) (by omega) (fun c2 => ?_) (fun c2 => ?_)
    ·
      refine lv_aload_n hx hb dX3_setValue_30 rfl (lv_at hl 0 rfl) ?_
      refine zget (q := 0) (k := 2) (v := .ref (F 3)) hx hb hts hinX3 hown hAm hP (by omega) (zM_o) rfl (by decide) (hts (.fieldLink RX3 17 "CosineSeriesModel" "values" "[I") (by decide +kernel)) (by first | rfl | simp [va_up, *]) dX3_setValue_31 ?_
      refine lv_iload_n hx hb dX3_setValue_34 rfl (lv_at hl 1 rfl) ?_
      refine ziald (q := 3) (k := j) (v := (vals j)) hx hb hAm hP (by omega) (zM_v) (by omega) (by decide) (by first | rfl | simp [va_up, *]) dX3_setValue_35 ?_
      refine lv_istore_n (lv' := [(3, .int (vals j)), (0, .ref (F 0)), (1, .int (nI j)), (2, .int vx)]) hx hb dX3_setValue_36 rfl hl (by decide) rfl (fun ls hl => ?_)
      refine lv_aload_n hx hb dX3_setValue_37 rfl (lv_at hl 1 rfl) ?_
      refine zget (q := 0) (k := 2) (v := .ref (F 3)) hx hb hts hinX3 hown hAm hP (by omega) (zM_o) rfl (by decide) (hts (.fieldLink RX3 17 "CosineSeriesModel" "values" "[I") (by decide +kernel)) (by first | rfl | simp [va_up, *]) dX3_setValue_38 ?_
      refine lv_iload_n hx hb dX3_setValue_41 rfl (lv_at hl 2 rfl) ?_
      refine lv_iload_n hx hb dX3_setValue_42 rfl (lv_at hl 3 rfl) ?_
      refine ziast (q := 3) (k := j) (E' := (zME cL cI F C dg ((upd vals j vx), found, waits, roots, looks))) hx hb hAm hP hF hS (by omega) (zM_v) (by omega) (by decide) dX3_setValue_43 (zM_uv) (fun H locs hP hS => ?_)
      refine lv_iload_n hx hb dX3_setValue_44 rfl (lv_at hl 0 rfl) ?_
      refine lv_i2l (v := (vals j).toInt64) hx hb dX3_setValue_45 rfl ?_
      exact zretL hx hb hr hlk hS hP dX3_setValue_46 ⟨_, _, _, rfl, rfl, hCP, fun _ _ => rfl⟩
    ·
      exfalso; omega

set_option maxHeartbeats 4000000 in
set_option maxRecDepth 100000 in
theorem kX3_extremePoint (l : Launch) (D : va_G) (cL cI cR : ClassId) (A : Nat → Prop) (F : Nat → Nat) (hF : zq_F A F 7) (C : Nat → Nat → Int64) (dg : Nat → Nat) (Y : zZM) (P : Nat → Nat → Int64) (n0 : Nat → Nat) (hCP : ∀ i, i < 8 → C i = P i ∧ dg i = n0 i) (h24 : ∀ i, i < 8 → n0 i ≤ 24) (hzz : ∀ i, i < 8 → ∀ j, n0 i < j → P i j = 0) (q : Nat) (hq : q ≤ 4) (j : Nat) (hj : j ≤ 2 ^ q) : zCt l yX3_extremePoint wsX3_extremePoint 2 45 D cL cI cR A F 7 (zME cL cI F C dg Y) [.ref (F 0), .int (nI q), .int (nI j)] (zPM cL cI F (zcosv (j * 2 ^ (4 - q))).toInt64 P n0 Y.1) := by
  refine zStart (cc := cX3_extremePoint) (maxL := 3) (ret := (some .long)) (by decide +kernel) rfl (Nat.le_of_ble_eq_true rfl) ?_
  intro p e s m below meth c hx hb hr hml hlk hown hts hAm H hP hS ls hl
  have hown : s.vm.findClass RX3 = some m.cls := hown
  have hl : lv_has ls 3 [(0, .ref (F 0)), (1, .int (nI q)), (2, .int (nI j))] := hl
  have h2q := zp2 hq
  refine lv_iload_n hx hb dX3_extremePoint_0 rfl (lv_at hl 1 rfl) ?_
  refine zcallS (As := [.int (nI q)]) (rest := []) (k := 1) hx hb hml hown hts (kX3_isPower l D cL cI cR A F 7 (zME cL cI F C dg Y) (nI q) 1 (if_pos (zin_nI (a := 4) (by omega) (by decide))).symm) gX3_extremePoint_X3_isPower rfl (by decide +kernel) ⟨Nat.le_of_ble_eq_true rfl, Nat.le_of_ble_eq_true rfl⟩ hAm hP hS rfl hl.1 rfl (Nat.le_of_ble_eq_true rfl) dX3_extremePoint_1 ⟨Nat.zero_le _, Nat.zero_le _⟩ (zkn (fun H locs hP hS => ?_))
  refine W.eq (g2 := F0 m 4 ls [.int (nI 1)]) rfl ?_
  refine zf_eq (tgt := 29) hx hb dX3_extremePoint_4 (by decide) (by omega) (fun c1 => ?_) (fun c1 => ?_)
  ·
    exfalso; omega
  ·
    refine lv_iload_n hx hb dX3_extremePoint_7 rfl (lv_at hl 2 rfl) ?_
    refine zi2l hx hb (by omega) dX3_extremePoint_8 ?_
    refine lv_lconst (v := (0 : Int64)) hx hb dX3_extremePoint_9 (by decide +kernel) ?_
    refine lv_iconst (v := nI 1) hx hb dX3_extremePoint_10 (by decide +kernel) ?_
    refine lv_iload_n hx hb dX3_extremePoint_11 rfl (lv_at hl 1 rfl) ?_
    refine lv_ishl hx hb dX3_extremePoint_12 ?_
    refine W.eq (g2 := F0 m 13 ls [.int (nI (2 ^ q)), .long (0 : Int64), .long (lN j)]) (by rw [zsh1 hq]) ?_
    refine zi2l hx hb (by omega) dX3_extremePoint_13 ?_
    refine zcallS (As := [.long (lN j), .long (0 : Int64), .long (lN (2 ^ q))]) (rest := []) (k := 3) hx hb hml hown hts (kX3_in l D cL cI cR A F 7 (zME cL cI F C dg Y) (lN j) (0 : Int64) (lN (2 ^ q)) 1 (zn1N (m := 2 ^ q) rfl (by omega) (by omega))) gX3_extremePoint_X3_in rfl (by decide +kernel) ⟨Nat.le_of_ble_eq_true rfl, Nat.le_of_ble_eq_true rfl⟩ hAm hP hS rfl hl.1 rfl (Nat.le_of_ble_eq_true rfl) dX3_extremePoint_14 ⟨Nat.zero_le _, Nat.zero_le _⟩ (zkn (fun H locs hP hS => ?_))
    refine W.eq (g2 := F0 m 17 ls [.int (nI 1)]) rfl ?_
    refine zf_eq (tgt := 29) hx hb dX3_extremePoint_17 (by decide) (by omega) (fun c2 => ?_) (fun c2 => ?_)
    ·
      exfalso; omega
    ·
      refine lv_aload_n hx hb dX3_extremePoint_20 rfl (lv_at hl 0 rfl) ?_
      refine lv_iload_n hx hb dX3_extremePoint_21 rfl (lv_at hl 1 rfl) ?_
      refine lv_iload_n hx hb dX3_extremePoint_22 rfl (lv_at hl 2 rfl) ?_
      refine zcallV (As := [.int (nI q), .int (nI j)]) (rest := []) (q := 0) (k := 2) hx hb hml hown hts (kX3_pointAt l D cL cI cR A F hF C dg Y q j hq (by omega)) gX3_extremePoint_X3_pointAt rfl (by decide +kernel) ⟨Nat.le_of_ble_eq_true rfl, Nat.le_of_ble_eq_true rfl⟩ rfl (by omega) (zM_o) rfl rfl hAm hP hS rfl hl.1 rfl (Nat.le_of_ble_eq_true rfl) dX3_extremePoint_23 ⟨Nat.zero_le _, Nat.zero_le _⟩ (zkn (fun H locs hP hS => ?_))
      refine W.eq (g2 := F0 m 26 ls [.long ((zcosv (j * 2 ^ (4 - q))).toInt64)]) rfl ?_
      refine lv_goto (tgt := 32) hx hb dX3_extremePoint_26 (by decide) ?_
      exact zretL hx hb hr hlk hS hP dX3_extremePoint_32 ⟨_, _, _, rfl, rfl, hCP, fun _ _ => rfl⟩

set_option maxHeartbeats 4000000 in
set_option maxRecDepth 100000 in
theorem kX3_interpolate (l : Launch) (D : va_G) (cL cI cR : ClassId) (A : Nat → Prop) (F : Nat → Nat) (hF : zq_F A F 7) (C : Nat → Nat → Int64) (dg : Nat → Nat) (vals found waits : Nat → Int32) (roots looks : Nat) (P : Nat → Nat → Int64) (n0 : Nat → Nat) (hCP : ∀ i, i < 8 → C i = P i ∧ dg i = n0 i) (h24 : ∀ i, i < 8 → n0 i ≤ 24) (hzz : ∀ i, i < 8 → ∀ j, n0 i < j → P i j = 0) (t : Nat) (ht : t ≤ 7) (q : Nat) (hq : q ≤ 4) (pv : Nat → Int64) (hpv : ∀ j, j < 17 → (vals j).toInt64 = pv j) : zCt l yX3_interpolate wsX3_interpolate 3 70 D cL cI cR A F 7 (zME cL cI F C dg (vals, found, waits, roots, looks)) [.ref (F 0), .int (nI q), .int (nI t)] (zPM cL cI F (zkr (zint pv q)) (zkP P t (zint pv q)) (zkN n0 t (zint pv q)) vals) := by
  refine zStart (cc := cX3_interpolate) (maxL := 8) (ret := (some .long)) (by decide +kernel) rfl (Nat.le_of_ble_eq_true rfl) ?_
  intro p e s m below meth c hx hb hr hml hlk hown hts hAm H hP hS ls hl
  have hown : s.vm.findClass RX3 = some m.cls := hown
  have hl : lv_has ls 8 [(0, .ref (F 0)), (1, .int (nI q)), (2, .int (nI t))] := hl
  have hinX3 : ∀ w ∈ u_ws RX3 TX3 8, w ∈ wsX3_interpolate := by decide +kernel
  obtain ⟨hCt, hNt⟩ := hCP t (by omega)
  have h24t : dg t ≤ 24 := by rw [hNt]; exact h24 t (by omega)
  have hzt : ∀ j, dg t < j → C t j = 0 := fun j hj => by rw [hCt]; exact hzz t (by omega) j (by rw [← hNt]; exact hj)
  have h2q := zp2 hq
  obtain ⟨f2, hf2⟩ : ∃ f : Nat → Int64, f = (zint pv q) := ⟨_, rfl⟩
  have hf2z : ∀ j, 2 ^ q < j → f2 j = 0 := by rw [hf2]; exact zint_0 _ _
  refine lv_iload_n hx hb dX3_interpolate_0 rfl (lv_at hl 1 rfl) ?_
  refine zcallS (As := [.int (nI q)]) (rest := []) (k := 1) hx hb hml hown hts (kX3_isPower l D cL cI cR A F 7 (zME cL cI F C dg (vals, found, waits, roots, looks)) (nI q) 1 (if_pos (zin_nI (a := 4) (by omega) (by decide))).symm) gX3_interpolate_X3_isPower rfl (by decide +kernel) ⟨Nat.le_of_ble_eq_true rfl, Nat.le_of_ble_eq_true rfl⟩ hAm hP hS rfl hl.1 rfl (Nat.le_of_ble_eq_true rfl) dX3_interpolate_1 ⟨Nat.zero_le _, Nat.zero_le _⟩ (zkn (fun H locs hP hS => ?_))
  refine W.eq (g2 := F0 m 4 ls [.int (nI 1)]) rfl ?_
  refine zf_eq (tgt := 14) hx hb dX3_interpolate_4 (by decide) (by omega) (fun c1 => ?_) (fun c1 => ?_)
  ·
    exfalso; omega
  ·
    refine lv_iload_n hx hb dX3_interpolate_7 rfl (lv_at hl 2 rfl) ?_
    refine zcallS (As := [.int (nI t)]) (rest := []) (k := 1) hx hb hml hown hts (kX3_isSeries l D cL cI cR A F 7 (zME cL cI F C dg (vals, found, waits, roots, looks)) (nI t) 1 (if_pos (zin_nI (a := 7) (by omega) (by decide))).symm) gX3_interpolate_X3_isSeries rfl (by decide +kernel) ⟨Nat.le_of_ble_eq_true rfl, Nat.le_of_ble_eq_true rfl⟩ hAm hP hS rfl hl.1 rfl (Nat.le_of_ble_eq_true rfl) dX3_interpolate_8 ⟨Nat.zero_le _, Nat.zero_le _⟩ (zkn (fun H locs hP hS => ?_))
    refine W.eq (g2 := F0 m 11 ls [.int (nI 1)]) rfl ?_
    refine zf_ne (tgt := 18) hx hb dX3_interpolate_11 (by decide) (by omega) (fun c2 => ?_) (fun c2 => ?_)
    ·
      refine lv_iconst (v := nI 1) hx hb dX3_interpolate_18 (by decide +kernel) ?_
      refine lv_iload_n hx hb dX3_interpolate_19 rfl (lv_at hl 1 rfl) ?_
      refine lv_ishl hx hb dX3_interpolate_20 ?_
      refine W.eq (g2 := F0 m 21 ls [.int (nI (2 ^ q))]) (by rw [zsh1 hq]) ?_
      refine lv_istore_n (lv' := [(3, .int (nI (2 ^ q))), (0, .ref (F 0)), (1, .int (nI q)), (2, .int (nI t))]) hx hb dX3_interpolate_21 rfl hl (by decide) rfl (fun ls hl => ?_)
      refine lv_aload_n hx hb dX3_interpolate_22 rfl (lv_at hl 1 rfl) ?_
      refine lv_bipush (v := nI 8) hx hb dX3_interpolate_23 (by decide +kernel) ?_
      refine lv_iload_n hx hb dX3_interpolate_25 rfl (lv_at hl 0 rfl) ?_
      refine zcallV (As := [.int (nI 8), .int (nI (2 ^ q))]) (rest := []) (q := 0) (k := 2) hx hb hml hown hts (kX3_clears l D cL cI cR A F hF C dg (vals, found, waits, roots, looks) 8 (by omega) (2 ^ q) (by omega)) gX3_interpolate_X3_clears rfl (by decide +kernel) ⟨Nat.le_of_ble_eq_true rfl, Nat.le_of_ble_eq_true rfl⟩ rfl (by omega) (zM_o) rfl rfl hAm hP hS rfl hl.1 rfl (Nat.le_of_ble_eq_true rfl) dX3_interpolate_26 ⟨Nat.zero_le _, Nat.zero_le _⟩ (zkn (fun H locs hP hS => ?_))
      refine W.eq (g2 := F0 m 29 ls []) rfl ?_
      refine lv_iconst (v := nI 0) hx hb dX3_interpolate_29 (by decide +kernel) ?_
      refine lv_istore (lv' := [(4, .int (nI 0)), (3, .int (nI (2 ^ q))), (0, .ref (F 0)), (1, .int (nI q)), (2, .int (nI t))]) hx hb dX3_interpolate_30 hl (by decide) rfl (fun ls hl => ?_)
      have L32 : ∀ (n : Nat) (k : Nat) (f : Nat → Int64) (hk : k ≤ 2 ^ q + 1) (hf : ∀ j, f j = if j < k then f2 j else 0) (hn : 2 ^ q + 1 - k < n) (H : Heap) (locs : List Loc), va_P D vwCl (zq_wd F 7 (zME cL cI F (va_up C 8 f) (va_up dg 8 (2 ^ q)) (vals, found, waits, roots, looks))) H → va_S A s.heap H locs → ∀ (ls : Array Slot), lv_has ls 8 [(0, .ref (F 0)), (1, .int (nI q)), (2, .int (nI t)), (3, .int (nI (2 ^ q))), (4, .int (nI k))] → W p l e ({ frames := 3, cells := 0, slots := 0, locals := 70 }) s m ([.ref (F 0), .int (nI q), .int (nI t)] : List Value).toArray below meth c H locs 0 0 (zQ below D A F 7 [.ref (F 0), .int (nI q), .int (nI t)] s (zPM cL cI F (zkr (zint pv q)) (zkP P t (zint pv q)) (zkN n0 t (zint pv q)) vals)) (F0 m 32 ls []) := by
        intro n
        induction n with
        | zero =>
          intro k f hk hf hn
          exact absurd hn (Nat.not_lt_zero _)
        | succ n ih32 =>
          intro k f hk hf hn H locs hP hS ls hl
          refine lv_iload hx hb dX3_interpolate_32 (lv_at hl 4 rfl) ?_
          refine lv_iload_n hx hb dX3_interpolate_34 rfl (lv_at hl 3 rfl) ?_
          refine zi_gt (tgt := 151) hx hb dX3_interpolate_35 (by decide) (by omega) (by omega) (fun c3 => ?_) (fun c3 => ?_)
          ·
            have hfe : f = f2 := funext (fun j => by rw [hf j]; by_cases h : j < k; (rw [if_pos h]); (rw [if_neg h, hf2z j (by omega)]))
            have hP : va_P D vwCl (zq_wd F 7 (zME cL cI F (va_up C 8 f2) (va_up dg 8 (2 ^ q)) (vals, found, waits, roots, looks))) H := by rw [← hfe]; exact hP
            refine lv_aload_n hx hb dX3_interpolate_151 rfl (lv_at hl 0 rfl) ?_
            refine lv_iload_n hx hb dX3_interpolate_152 rfl (lv_at hl 2 rfl) ?_
            refine zcallV (As := [.int (nI t)]) (rest := []) (q := 0) (k := 1) hx hb hml hown hts (kX3_gives l D cL cI cR A F hF (va_up C 8 f2) (va_up dg 8 (2 ^ q)) (vals, found, waits, roots, looks) t (by omega) f2 (va_up_eq _ _ _) (2 ^ q) (va_up_eq _ _ _) (by omega) hf2z (zkP (va_up C 8 f2) t f2) (zkN (va_up (va_up dg 8 (2 ^ q)) 8 (ztop f2 48)) t f2) rfl rfl) gX3_interpolate_X3_gives rfl (by decide +kernel) ⟨Nat.le_of_ble_eq_true rfl, Nat.le_of_ble_eq_true rfl⟩ rfl (by omega) (zM_o) rfl rfl hAm hP hS rfl hl.1 rfl (Nat.le_of_ble_eq_true rfl) dX3_interpolate_153 ⟨Nat.zero_le _, Nat.zero_le _⟩ (zkn (fun H locs hP hS => ?_))
            refine W.eq (g2 := F0 m 156 ls [.long (zkr f2)]) rfl ?_
            exact zretL hx hb hr hlk hS hP dX3_interpolate_156 ⟨_, _, _, rfl, by rw [← hf2], by rw [← hf2]; exact (fun i hi => zend_keep2 (fun i hi => ⟨by (repeat rw [zup8 _ _ (by omega)]); exact (hCP i hi).1, by (repeat rw [zup8 _ _ (by omega)]); exact (hCP i hi).2⟩) i hi), fun _ _ => rfl⟩
          ·
            refine lv_lconst (v := (0 : Int64)) hx hb dX3_interpolate_38 (by decide +kernel) ?_
            refine lv_lstore (lv' := [(5, .long (0 : Int64)), (0, .ref (F 0)), (1, .int (nI q)), (2, .int (nI t)), (3, .int (nI (2 ^ q))), (4, .int (nI k))]) hx hb dX3_interpolate_39 hl (by decide) rfl (fun ls hl => ?_)
            refine lv_iconst (v := nI 0) hx hb dX3_interpolate_41 (by decide +kernel) ?_
            refine lv_istore (lv' := [(7, .int (nI 0)), (5, .long (0 : Int64)), (0, .ref (F 0)), (1, .int (nI q)), (2, .int (nI t)), (3, .int (nI (2 ^ q))), (4, .int (nI k))]) hx hb dX3_interpolate_42 hl (by decide) rfl (fun ls hl => ?_)
            have L44 : ∀ (n : Nat) (i1 : Nat) (u : Int64) (hi1 : i1 ≤ 2 ^ q + 1) (hu : u = zcs pv q k i1) (hn : 2 ^ q + 1 - i1 < n) (H : Heap) (locs : List Loc), va_P D vwCl (zq_wd F 7 (zME cL cI F (va_up C 8 f) (va_up dg 8 (2 ^ q)) (vals, found, waits, roots, looks))) H → va_S A s.heap H locs → ∀ (ls : Array Slot), lv_has ls 8 [(0, .ref (F 0)), (1, .int (nI q)), (2, .int (nI t)), (3, .int (nI (2 ^ q))), (4, .int (nI k)), (5, .long u), (7, .int (nI i1))] → W p l e ({ frames := 3, cells := 0, slots := 0, locals := 70 }) s m ([.ref (F 0), .int (nI q), .int (nI t)] : List Value).toArray below meth c H locs 0 0 (zQ below D A F 7 [.ref (F 0), .int (nI q), .int (nI t)] s (zPM cL cI F (zkr (zint pv q)) (zkP P t (zint pv q)) (zkN n0 t (zint pv q)) vals)) (F0 m 44 ls []) := by
              intro n
              induction n with
              | zero =>
                intro i1 u hi1 hu hn
                exact absurd hn (Nat.not_lt_zero _)
              | succ n ih44 =>
                intro i1 u hi1 hu hn H locs hP hS ls hl
                refine lv_iload hx hb dX3_interpolate_44 (lv_at hl 6 rfl) ?_
                refine lv_iload_n hx hb dX3_interpolate_46 rfl (lv_at hl 3 rfl) ?_
                refine zi_gt (tgt := 103) hx hb dX3_interpolate_47 (by decide) (by omega) (by omega) (fun c4 => ?_) (fun c4 => ?_)
                ·
                  refine lv_aload_n hx hb dX3_interpolate_103 rfl (lv_at hl 0 rfl) ?_
                  refine lv_bipush (v := nI 8) hx hb dX3_interpolate_104 (by decide +kernel) ?_
                  refine lv_iload hx hb dX3_interpolate_106 (lv_at hl 4 rfl) ?_
                  refine lv_iload hx hb dX3_interpolate_108 (lv_at hl 4 rfl) ?_
                  refine zf_eq (tgt := 119) hx hb dX3_interpolate_110 (by decide) (by omega) (fun c5 => ?_) (fun c5 => ?_)
                  ·
                    refine lv_lconst (v := (1 : Int64)) hx hb dX3_interpolate_119 (by decide +kernel) ?_
                    refine lv_goto (tgt := 126) hx hb dX3_interpolate_120 (by decide) ?_
                    refine lv_lload hx hb dX3_interpolate_126 (lv_at hl 5 rfl) ?_
                    refine lv_lmul hx hb dX3_interpolate_128 ?_
                    refine lv_ldc2 hx hb hown (hts (.constantLong RX3 47 (2)) (by decide +kernel)) dX3_interpolate_129 ?_
                    refine lv_iload_n hx hb dX3_interpolate_132 rfl (lv_at hl 3 rfl) ?_
                    refine zi2l hx hb (by omega) dX3_interpolate_133 ?_
                    refine lv_lmul hx hb dX3_interpolate_134 ?_
                    refine lv_ldc2 hx hb hown (hts (.constantLong RX3 45 (1048576)) (by decide +kernel)) dX3_interpolate_135 ?_
                    refine lv_lmul hx hb dX3_interpolate_138 ?_
                    refine zcallS (As := [.long ((1 : Int64) * u), .long (((2 : Int64) * (lN (2 ^ q))) * (1048576 : Int64))]) (rest := [.int (nI k), .int (nI 8), .ref (F 0)]) (k := 2) hx hb hml hown hts (kX3_rounded l D cL cI cR A F 7 (zME cL cI F (va_up C 8 f) (va_up dg 8 (2 ^ q)) (vals, found, waits, roots, looks)) ((1 : Int64) * u) (((2 : Int64) * (lN (2 ^ q))) * (1048576 : Int64)) (zipos hq)) gX3_interpolate_X3_rounded rfl (by decide +kernel) ⟨Nat.le_of_ble_eq_true rfl, Nat.le_of_ble_eq_true rfl⟩ hAm hP hS rfl hl.1 rfl (Nat.le_of_ble_eq_true rfl) dX3_interpolate_139 ⟨Nat.zero_le _, Nat.zero_le _⟩ (zkn (fun H locs hP hS => ?_))
                    refine W.eq (g2 := F0 m 142 ls [.long (zR ((1 : Int64) * u) (((2 : Int64) * (lN (2 ^ q))) * (1048576 : Int64))), .int (nI k), .int (nI 8), .ref (F 0)]) rfl ?_
                    refine zcallV (As := [.int (nI 8), .int (nI k), .long (zR ((1 : Int64) * u) (((2 : Int64) * (lN (2 ^ q))) * (1048576 : Int64)))]) (rest := []) (q := 0) (k := 3) hx hb hml hown hts (kX3_sets l D cL cI cR A F hF (va_up C 8 f) (va_up dg 8 (2 ^ q)) (vals, found, waits, roots, looks) 8 (by omega) k (by omega) (zR ((1 : Int64) * u) (((2 : Int64) * (lN (2 ^ q))) * (1048576 : Int64))) (va_up C 8 (vp_updL f k (zR ((1 : Int64) * u) (((2 : Int64) * (lN (2 ^ q))) * (1048576 : Int64))))) (by first | rfl | simp only [bx_uu, va_up_eq])) gX3_interpolate_X3_sets rfl (by decide +kernel) ⟨Nat.le_of_ble_eq_true rfl, Nat.le_of_ble_eq_true rfl⟩ rfl (by omega) (zM_o) rfl rfl hAm hP hS rfl hl.1 rfl (Nat.le_of_ble_eq_true rfl) dX3_interpolate_142 ⟨Nat.zero_le _, Nat.zero_le _⟩ (zkn (fun H locs hP hS => ?_))
                    refine W.eq (g2 := F0 m 145 ls []) rfl ?_
                    refine lv_iinc (v := (nI (k + 1))) (lv' := [(4, .int (nI (k + 1))), (0, .ref (F 0)), (1, .int (nI q)), (2, .int (nI t)), (3, .int (nI (2 ^ q))), (5, .long u), (7, .int (nI i1))]) hx hb dX3_interpolate_145 hl (k := 4) rfl (zinc (by omega)) (by decide) rfl (fun ls hl => ?_)
                    refine lv_goto (tgt := 32) hx hb dX3_interpolate_148 (by decide) ?_
                    exact ih32 (k + 1) _ (by omega) (fun j => by unfold vp_updL; split; (rename_i h; rw [h, if_pos (by omega), hf2]; unfold zint; rw [if_pos (by omega), hu, show i1 = 2 ^ q + 1 by omega]; (first | rw [if_pos (by omega)] | rw [if_neg (by omega)]) <;> rfl); (rw [hf j]; by_cases h : j < k; (rw [if_pos h, if_pos (by omega)]); (rw [if_neg h, if_neg (by omega)]))) (by omega) H _ hP hS ls (lv_sub hl [1, 2, 3, 4, 0] rfl)
                  ·
                    refine lv_iload hx hb dX3_interpolate_113 (lv_at hl 4 rfl) ?_
                    refine lv_iload_n hx hb dX3_interpolate_115 rfl (lv_at hl 3 rfl) ?_
                    refine zi_ne (tgt := 123) hx hb dX3_interpolate_116 (by decide) (by omega) (by omega) (fun c6 => ?_) (fun c6 => ?_)
                    ·
                      refine lv_ldc2 hx hb hown (hts (.constantLong RX3 47 (2)) (by decide +kernel)) dX3_interpolate_123 ?_
                      refine lv_lload hx hb dX3_interpolate_126 (lv_at hl 5 rfl) ?_
                      refine lv_lmul hx hb dX3_interpolate_128 ?_
                      refine lv_ldc2 hx hb hown (hts (.constantLong RX3 47 (2)) (by decide +kernel)) dX3_interpolate_129 ?_
                      refine lv_iload_n hx hb dX3_interpolate_132 rfl (lv_at hl 3 rfl) ?_
                      refine zi2l hx hb (by omega) dX3_interpolate_133 ?_
                      refine lv_lmul hx hb dX3_interpolate_134 ?_
                      refine lv_ldc2 hx hb hown (hts (.constantLong RX3 45 (1048576)) (by decide +kernel)) dX3_interpolate_135 ?_
                      refine lv_lmul hx hb dX3_interpolate_138 ?_
                      refine zcallS (As := [.long ((2 : Int64) * u), .long (((2 : Int64) * (lN (2 ^ q))) * (1048576 : Int64))]) (rest := [.int (nI k), .int (nI 8), .ref (F 0)]) (k := 2) hx hb hml hown hts (kX3_rounded l D cL cI cR A F 7 (zME cL cI F (va_up C 8 f) (va_up dg 8 (2 ^ q)) (vals, found, waits, roots, looks)) ((2 : Int64) * u) (((2 : Int64) * (lN (2 ^ q))) * (1048576 : Int64)) (zipos hq)) gX3_interpolate_X3_rounded rfl (by decide +kernel) ⟨Nat.le_of_ble_eq_true rfl, Nat.le_of_ble_eq_true rfl⟩ hAm hP hS rfl hl.1 rfl (Nat.le_of_ble_eq_true rfl) dX3_interpolate_139 ⟨Nat.zero_le _, Nat.zero_le _⟩ (zkn (fun H locs hP hS => ?_))
                      refine W.eq (g2 := F0 m 142 ls [.long (zR ((2 : Int64) * u) (((2 : Int64) * (lN (2 ^ q))) * (1048576 : Int64))), .int (nI k), .int (nI 8), .ref (F 0)]) rfl ?_
                      refine zcallV (As := [.int (nI 8), .int (nI k), .long (zR ((2 : Int64) * u) (((2 : Int64) * (lN (2 ^ q))) * (1048576 : Int64)))]) (rest := []) (q := 0) (k := 3) hx hb hml hown hts (kX3_sets l D cL cI cR A F hF (va_up C 8 f) (va_up dg 8 (2 ^ q)) (vals, found, waits, roots, looks) 8 (by omega) k (by omega) (zR ((2 : Int64) * u) (((2 : Int64) * (lN (2 ^ q))) * (1048576 : Int64))) (va_up C 8 (vp_updL f k (zR ((2 : Int64) * u) (((2 : Int64) * (lN (2 ^ q))) * (1048576 : Int64))))) (by first | rfl | simp only [bx_uu, va_up_eq])) gX3_interpolate_X3_sets rfl (by decide +kernel) ⟨Nat.le_of_ble_eq_true rfl, Nat.le_of_ble_eq_true rfl⟩ rfl (by omega) (zM_o) rfl rfl hAm hP hS rfl hl.1 rfl (Nat.le_of_ble_eq_true rfl) dX3_interpolate_142 ⟨Nat.zero_le _, Nat.zero_le _⟩ (zkn (fun H locs hP hS => ?_))
                      refine W.eq (g2 := F0 m 145 ls []) rfl ?_
                      refine lv_iinc (v := (nI (k + 1))) (lv' := [(4, .int (nI (k + 1))), (0, .ref (F 0)), (1, .int (nI q)), (2, .int (nI t)), (3, .int (nI (2 ^ q))), (5, .long u), (7, .int (nI i1))]) hx hb dX3_interpolate_145 hl (k := 4) rfl (zinc (by omega)) (by decide) rfl (fun ls hl => ?_)
                      refine lv_goto (tgt := 32) hx hb dX3_interpolate_148 (by decide) ?_
                      exact ih32 (k + 1) _ (by omega) (fun j => by unfold vp_updL; split; (rename_i h; rw [h, if_pos (by omega), hf2]; unfold zint; rw [if_pos (by omega), hu, show i1 = 2 ^ q + 1 by omega]; (first | rw [if_pos (by omega)] | rw [if_neg (by omega)]) <;> rfl); (rw [hf j]; by_cases h : j < k; (rw [if_pos h, if_pos (by omega)]); (rw [if_neg h, if_neg (by omega)]))) (by omega) H _ hP hS ls (lv_sub hl [1, 2, 3, 4, 0] rfl)
                    ·
                      refine lv_lconst (v := (1 : Int64)) hx hb dX3_interpolate_119 (by decide +kernel) ?_
                      refine lv_goto (tgt := 126) hx hb dX3_interpolate_120 (by decide) ?_
                      refine lv_lload hx hb dX3_interpolate_126 (lv_at hl 5 rfl) ?_
                      refine lv_lmul hx hb dX3_interpolate_128 ?_
                      refine lv_ldc2 hx hb hown (hts (.constantLong RX3 47 (2)) (by decide +kernel)) dX3_interpolate_129 ?_
                      refine lv_iload_n hx hb dX3_interpolate_132 rfl (lv_at hl 3 rfl) ?_
                      refine zi2l hx hb (by omega) dX3_interpolate_133 ?_
                      refine lv_lmul hx hb dX3_interpolate_134 ?_
                      refine lv_ldc2 hx hb hown (hts (.constantLong RX3 45 (1048576)) (by decide +kernel)) dX3_interpolate_135 ?_
                      refine lv_lmul hx hb dX3_interpolate_138 ?_
                      refine zcallS (As := [.long ((1 : Int64) * u), .long (((2 : Int64) * (lN (2 ^ q))) * (1048576 : Int64))]) (rest := [.int (nI k), .int (nI 8), .ref (F 0)]) (k := 2) hx hb hml hown hts (kX3_rounded l D cL cI cR A F 7 (zME cL cI F (va_up C 8 f) (va_up dg 8 (2 ^ q)) (vals, found, waits, roots, looks)) ((1 : Int64) * u) (((2 : Int64) * (lN (2 ^ q))) * (1048576 : Int64)) (zipos hq)) gX3_interpolate_X3_rounded rfl (by decide +kernel) ⟨Nat.le_of_ble_eq_true rfl, Nat.le_of_ble_eq_true rfl⟩ hAm hP hS rfl hl.1 rfl (Nat.le_of_ble_eq_true rfl) dX3_interpolate_139 ⟨Nat.zero_le _, Nat.zero_le _⟩ (zkn (fun H locs hP hS => ?_))
                      refine W.eq (g2 := F0 m 142 ls [.long (zR ((1 : Int64) * u) (((2 : Int64) * (lN (2 ^ q))) * (1048576 : Int64))), .int (nI k), .int (nI 8), .ref (F 0)]) rfl ?_
                      refine zcallV (As := [.int (nI 8), .int (nI k), .long (zR ((1 : Int64) * u) (((2 : Int64) * (lN (2 ^ q))) * (1048576 : Int64)))]) (rest := []) (q := 0) (k := 3) hx hb hml hown hts (kX3_sets l D cL cI cR A F hF (va_up C 8 f) (va_up dg 8 (2 ^ q)) (vals, found, waits, roots, looks) 8 (by omega) k (by omega) (zR ((1 : Int64) * u) (((2 : Int64) * (lN (2 ^ q))) * (1048576 : Int64))) (va_up C 8 (vp_updL f k (zR ((1 : Int64) * u) (((2 : Int64) * (lN (2 ^ q))) * (1048576 : Int64))))) (by first | rfl | simp only [bx_uu, va_up_eq])) gX3_interpolate_X3_sets rfl (by decide +kernel) ⟨Nat.le_of_ble_eq_true rfl, Nat.le_of_ble_eq_true rfl⟩ rfl (by omega) (zM_o) rfl rfl hAm hP hS rfl hl.1 rfl (Nat.le_of_ble_eq_true rfl) dX3_interpolate_142 ⟨Nat.zero_le _, Nat.zero_le _⟩ (zkn (fun H locs hP hS => ?_))
                      refine W.eq (g2 := F0 m 145 ls []) rfl ?_
                      refine lv_iinc (v := (nI (k + 1))) (lv' := [(4, .int (nI (k + 1))), (0, .ref (F 0)), (1, .int (nI q)), (2, .int (nI t)), (3, .int (nI (2 ^ q))), (5, .long u), (7, .int (nI i1))]) hx hb dX3_interpolate_145 hl (k := 4) rfl (zinc (by omega)) (by decide) rfl (fun ls hl => ?_)
                      refine lv_goto (tgt := 32) hx hb dX3_interpolate_148 (by decide) ?_
                      exact ih32 (k + 1) _ (by omega) (fun j => by unfold vp_updL; split; (rename_i h; rw [h, if_pos (by omega), hf2]; unfold zint; rw [if_pos (by omega), hu, show i1 = 2 ^ q + 1 by omega]; (first | rw [if_pos (by omega)] | rw [if_neg (by omega)]) <;> rfl); (rw [hf j]; by_cases h : j < k; (rw [if_pos h, if_pos (by omega)]); (rw [if_neg h, if_neg (by omega)]))) (by omega) H _ hP hS ls (lv_sub hl [1, 2, 3, 4, 0] rfl)
                ·
                  have hik := zjk (j := i1) (k := k) (by omega) (by omega)
                  refine lv_lload hx hb dX3_interpolate_50 (lv_at hl 5 rfl) ?_
                  refine lv_iload hx hb dX3_interpolate_52 (lv_at hl 6 rfl) ?_
                  refine zf_eq (tgt := 63) hx hb dX3_interpolate_54 (by decide) (by omega) (fun c7 => ?_) (fun c7 => ?_)
                  ·
                    refine lv_lconst (v := (1 : Int64)) hx hb dX3_interpolate_63 (by decide +kernel) ?_
                    refine lv_goto (tgt := 70) hx hb dX3_interpolate_64 (by decide) ?_
                    refine lv_aload_n hx hb dX3_interpolate_70 rfl (lv_at hl 0 rfl) ?_
                    refine zget (q := 0) (k := 2) (v := .ref (F 3)) hx hb hts hinX3 hown hAm hP (by omega) (zM_o) rfl (by decide) (hts (.fieldLink RX3 17 "CosineSeriesModel" "values" "[I") (by decide +kernel)) (by first | rfl | simp [va_up, *]) dX3_interpolate_71 ?_
                    refine lv_iload hx hb dX3_interpolate_74 (lv_at hl 6 rfl) ?_
                    refine ziald (q := 3) (k := i1) (v := (vals i1)) hx hb hAm hP (by omega) (zM_v) (by omega) (by decide) (by first | rfl | simp [va_up, *]) dX3_interpolate_76 ?_
                    refine lv_i2l (v := (vals i1).toInt64) hx hb dX3_interpolate_77 rfl ?_
                    refine W.eq (g2 := F0 m 78 ls [.long (pv i1), .long (1 : Int64), .long u]) (by rw [hpv i1 (by omega)]) ?_
                    refine lv_lmul hx hb dX3_interpolate_78 ?_
                    refine lv_aload_n hx hb dX3_interpolate_79 rfl (lv_at hl 0 rfl) ?_
                    refine lv_iload hx hb dX3_interpolate_80 (lv_at hl 6 rfl) ?_
                    refine lv_iload hx hb dX3_interpolate_82 (lv_at hl 4 rfl) ?_
                    refine zimul (d := (i1 * k)) hx hb rfl dX3_interpolate_84 ?_
                    refine lv_bipush (v := nI 16) hx hb dX3_interpolate_85 (by decide +kernel) ?_
                    refine lv_iload_n hx hb dX3_interpolate_87 rfl (lv_at hl 3 rfl) ?_
                    refine lv_idiv hx hb dX3_interpolate_88 (znI_ne (by omega) (by omega)) ?_
                    refine W.eq (g2 := F0 m 89 ls [.int (nI (2 ^ (4 - q))), .int (nI (i1 * k)), .ref (F 0), .long ((1 : Int64) * (pv i1)), .long u]) (by rw [zd16 hq]) ?_
                    refine zimul (d := ((i1 * k) * (2 ^ (4 - q)))) hx hb rfl dX3_interpolate_89 ?_
                    refine zcallV (As := [.int (nI ((i1 * k) * (2 ^ (4 - q))))]) (rest := [.long ((1 : Int64) * (pv i1)), .long u]) (q := 0) (k := 1) hx hb hml hown hts (kX3_cosine l D cL cI cR A F hF (va_up C 8 f) (va_up dg 8 (2 ^ q)) (vals, found, waits, roots, looks) (i1 * k * 2 ^ (4 - q)) (by have := zj4 hik hq; omega)) gX3_interpolate_X3_cosine rfl (by decide +kernel) ⟨Nat.le_of_ble_eq_true rfl, Nat.le_of_ble_eq_true rfl⟩ rfl (by omega) (zM_o) rfl rfl hAm hP hS rfl hl.1 rfl (Nat.le_of_ble_eq_true rfl) dX3_interpolate_90 ⟨Nat.zero_le _, Nat.zero_le _⟩ (zkn (fun H locs hP hS => ?_))
                    refine W.eq (g2 := F0 m 93 ls [.long ((zcosv (i1 * k * 2 ^ (4 - q))).toInt64), .long ((1 : Int64) * (pv i1)), .long u]) rfl ?_
                    refine lv_lmul hx hb dX3_interpolate_93 ?_
                    refine lv_ladd hx hb dX3_interpolate_94 ?_
                    refine lv_lstore (lv' := [(5, .long (u + (((1 : Int64) * (pv i1)) * ((zcosv (i1 * k * 2 ^ (4 - q))).toInt64)))), (0, .ref (F 0)), (1, .int (nI q)), (2, .int (nI t)), (3, .int (nI (2 ^ q))), (4, .int (nI k)), (7, .int (nI i1))]) hx hb dX3_interpolate_95 hl (by decide) rfl (fun ls hl => ?_)
                    refine lv_iinc (v := (nI (i1 + 1))) (lv' := [(7, .int (nI (i1 + 1))), (5, .long (u + (((1 : Int64) * (pv i1)) * ((zcosv (i1 * k * 2 ^ (4 - q))).toInt64)))), (0, .ref (F 0)), (1, .int (nI q)), (2, .int (nI t)), (3, .int (nI (2 ^ q))), (4, .int (nI k))]) hx hb dX3_interpolate_97 hl (k := 6) rfl (zinc (by omega)) (by decide) rfl (fun ls hl => ?_)
                    refine lv_goto (tgt := 44) hx hb dX3_interpolate_100 (by decide) ?_
                    exact ih44 (i1 + 1) (u + (((1 : Int64) * (pv i1)) * ((zcosv (i1 * k * 2 ^ (4 - q))).toInt64))) (by omega) (by rw [hu]; simp only [zcs]; (first | rw [if_pos (by omega)] | rw [if_neg (by omega)]) <;> rfl) (by omega) H _ hP hS ls (lv_sub hl [2, 3, 4, 5, 6, 1, 0] rfl)
                  ·
                    refine lv_iload hx hb dX3_interpolate_57 (lv_at hl 6 rfl) ?_
                    refine lv_iload_n hx hb dX3_interpolate_59 rfl (lv_at hl 3 rfl) ?_
                    refine zi_ne (tgt := 67) hx hb dX3_interpolate_60 (by decide) (by omega) (by omega) (fun c8 => ?_) (fun c8 => ?_)
                    ·
                      refine lv_ldc2 hx hb hown (hts (.constantLong RX3 47 (2)) (by decide +kernel)) dX3_interpolate_67 ?_
                      refine lv_aload_n hx hb dX3_interpolate_70 rfl (lv_at hl 0 rfl) ?_
                      refine zget (q := 0) (k := 2) (v := .ref (F 3)) hx hb hts hinX3 hown hAm hP (by omega) (zM_o) rfl (by decide) (hts (.fieldLink RX3 17 "CosineSeriesModel" "values" "[I") (by decide +kernel)) (by first | rfl | simp [va_up, *]) dX3_interpolate_71 ?_
                      refine lv_iload hx hb dX3_interpolate_74 (lv_at hl 6 rfl) ?_
                      refine ziald (q := 3) (k := i1) (v := (vals i1)) hx hb hAm hP (by omega) (zM_v) (by omega) (by decide) (by first | rfl | simp [va_up, *]) dX3_interpolate_76 ?_
                      refine lv_i2l (v := (vals i1).toInt64) hx hb dX3_interpolate_77 rfl ?_
                      refine W.eq (g2 := F0 m 78 ls [.long (pv i1), .long (2 : Int64), .long u]) (by rw [hpv i1 (by omega)]) ?_
                      refine lv_lmul hx hb dX3_interpolate_78 ?_
                      refine lv_aload_n hx hb dX3_interpolate_79 rfl (lv_at hl 0 rfl) ?_
                      refine lv_iload hx hb dX3_interpolate_80 (lv_at hl 6 rfl) ?_
                      refine lv_iload hx hb dX3_interpolate_82 (lv_at hl 4 rfl) ?_
                      refine zimul (d := (i1 * k)) hx hb rfl dX3_interpolate_84 ?_
                      refine lv_bipush (v := nI 16) hx hb dX3_interpolate_85 (by decide +kernel) ?_
                      refine lv_iload_n hx hb dX3_interpolate_87 rfl (lv_at hl 3 rfl) ?_
                      refine lv_idiv hx hb dX3_interpolate_88 (znI_ne (by omega) (by omega)) ?_
                      refine W.eq (g2 := F0 m 89 ls [.int (nI (2 ^ (4 - q))), .int (nI (i1 * k)), .ref (F 0), .long ((2 : Int64) * (pv i1)), .long u]) (by rw [zd16 hq]) ?_
                      refine zimul (d := ((i1 * k) * (2 ^ (4 - q)))) hx hb rfl dX3_interpolate_89 ?_
                      refine zcallV (As := [.int (nI ((i1 * k) * (2 ^ (4 - q))))]) (rest := [.long ((2 : Int64) * (pv i1)), .long u]) (q := 0) (k := 1) hx hb hml hown hts (kX3_cosine l D cL cI cR A F hF (va_up C 8 f) (va_up dg 8 (2 ^ q)) (vals, found, waits, roots, looks) (i1 * k * 2 ^ (4 - q)) (by have := zj4 hik hq; omega)) gX3_interpolate_X3_cosine rfl (by decide +kernel) ⟨Nat.le_of_ble_eq_true rfl, Nat.le_of_ble_eq_true rfl⟩ rfl (by omega) (zM_o) rfl rfl hAm hP hS rfl hl.1 rfl (Nat.le_of_ble_eq_true rfl) dX3_interpolate_90 ⟨Nat.zero_le _, Nat.zero_le _⟩ (zkn (fun H locs hP hS => ?_))
                      refine W.eq (g2 := F0 m 93 ls [.long ((zcosv (i1 * k * 2 ^ (4 - q))).toInt64), .long ((2 : Int64) * (pv i1)), .long u]) rfl ?_
                      refine lv_lmul hx hb dX3_interpolate_93 ?_
                      refine lv_ladd hx hb dX3_interpolate_94 ?_
                      refine lv_lstore (lv' := [(5, .long (u + (((2 : Int64) * (pv i1)) * ((zcosv (i1 * k * 2 ^ (4 - q))).toInt64)))), (0, .ref (F 0)), (1, .int (nI q)), (2, .int (nI t)), (3, .int (nI (2 ^ q))), (4, .int (nI k)), (7, .int (nI i1))]) hx hb dX3_interpolate_95 hl (by decide) rfl (fun ls hl => ?_)
                      refine lv_iinc (v := (nI (i1 + 1))) (lv' := [(7, .int (nI (i1 + 1))), (5, .long (u + (((2 : Int64) * (pv i1)) * ((zcosv (i1 * k * 2 ^ (4 - q))).toInt64)))), (0, .ref (F 0)), (1, .int (nI q)), (2, .int (nI t)), (3, .int (nI (2 ^ q))), (4, .int (nI k))]) hx hb dX3_interpolate_97 hl (k := 6) rfl (zinc (by omega)) (by decide) rfl (fun ls hl => ?_)
                      refine lv_goto (tgt := 44) hx hb dX3_interpolate_100 (by decide) ?_
                      exact ih44 (i1 + 1) (u + (((2 : Int64) * (pv i1)) * ((zcosv (i1 * k * 2 ^ (4 - q))).toInt64))) (by omega) (by rw [hu]; simp only [zcs]; (first | rw [if_pos (by omega)] | rw [if_neg (by omega)]) <;> rfl) (by omega) H _ hP hS ls (lv_sub hl [2, 3, 4, 5, 6, 1, 0] rfl)
                    ·
                      refine lv_lconst (v := (1 : Int64)) hx hb dX3_interpolate_63 (by decide +kernel) ?_
                      refine lv_goto (tgt := 70) hx hb dX3_interpolate_64 (by decide) ?_
                      refine lv_aload_n hx hb dX3_interpolate_70 rfl (lv_at hl 0 rfl) ?_
                      refine zget (q := 0) (k := 2) (v := .ref (F 3)) hx hb hts hinX3 hown hAm hP (by omega) (zM_o) rfl (by decide) (hts (.fieldLink RX3 17 "CosineSeriesModel" "values" "[I") (by decide +kernel)) (by first | rfl | simp [va_up, *]) dX3_interpolate_71 ?_
                      refine lv_iload hx hb dX3_interpolate_74 (lv_at hl 6 rfl) ?_
                      refine ziald (q := 3) (k := i1) (v := (vals i1)) hx hb hAm hP (by omega) (zM_v) (by omega) (by decide) (by first | rfl | simp [va_up, *]) dX3_interpolate_76 ?_
                      refine lv_i2l (v := (vals i1).toInt64) hx hb dX3_interpolate_77 rfl ?_
                      refine W.eq (g2 := F0 m 78 ls [.long (pv i1), .long (1 : Int64), .long u]) (by rw [hpv i1 (by omega)]) ?_
                      refine lv_lmul hx hb dX3_interpolate_78 ?_
                      refine lv_aload_n hx hb dX3_interpolate_79 rfl (lv_at hl 0 rfl) ?_
                      refine lv_iload hx hb dX3_interpolate_80 (lv_at hl 6 rfl) ?_
                      refine lv_iload hx hb dX3_interpolate_82 (lv_at hl 4 rfl) ?_
                      refine zimul (d := (i1 * k)) hx hb rfl dX3_interpolate_84 ?_
                      refine lv_bipush (v := nI 16) hx hb dX3_interpolate_85 (by decide +kernel) ?_
                      refine lv_iload_n hx hb dX3_interpolate_87 rfl (lv_at hl 3 rfl) ?_
                      refine lv_idiv hx hb dX3_interpolate_88 (znI_ne (by omega) (by omega)) ?_
                      refine W.eq (g2 := F0 m 89 ls [.int (nI (2 ^ (4 - q))), .int (nI (i1 * k)), .ref (F 0), .long ((1 : Int64) * (pv i1)), .long u]) (by rw [zd16 hq]) ?_
                      refine zimul (d := ((i1 * k) * (2 ^ (4 - q)))) hx hb rfl dX3_interpolate_89 ?_
                      refine zcallV (As := [.int (nI ((i1 * k) * (2 ^ (4 - q))))]) (rest := [.long ((1 : Int64) * (pv i1)), .long u]) (q := 0) (k := 1) hx hb hml hown hts (kX3_cosine l D cL cI cR A F hF (va_up C 8 f) (va_up dg 8 (2 ^ q)) (vals, found, waits, roots, looks) (i1 * k * 2 ^ (4 - q)) (by have := zj4 hik hq; omega)) gX3_interpolate_X3_cosine rfl (by decide +kernel) ⟨Nat.le_of_ble_eq_true rfl, Nat.le_of_ble_eq_true rfl⟩ rfl (by omega) (zM_o) rfl rfl hAm hP hS rfl hl.1 rfl (Nat.le_of_ble_eq_true rfl) dX3_interpolate_90 ⟨Nat.zero_le _, Nat.zero_le _⟩ (zkn (fun H locs hP hS => ?_))
                      refine W.eq (g2 := F0 m 93 ls [.long ((zcosv (i1 * k * 2 ^ (4 - q))).toInt64), .long ((1 : Int64) * (pv i1)), .long u]) rfl ?_
                      refine lv_lmul hx hb dX3_interpolate_93 ?_
                      refine lv_ladd hx hb dX3_interpolate_94 ?_
                      refine lv_lstore (lv' := [(5, .long (u + (((1 : Int64) * (pv i1)) * ((zcosv (i1 * k * 2 ^ (4 - q))).toInt64)))), (0, .ref (F 0)), (1, .int (nI q)), (2, .int (nI t)), (3, .int (nI (2 ^ q))), (4, .int (nI k)), (7, .int (nI i1))]) hx hb dX3_interpolate_95 hl (by decide) rfl (fun ls hl => ?_)
                      refine lv_iinc (v := (nI (i1 + 1))) (lv' := [(7, .int (nI (i1 + 1))), (5, .long (u + (((1 : Int64) * (pv i1)) * ((zcosv (i1 * k * 2 ^ (4 - q))).toInt64)))), (0, .ref (F 0)), (1, .int (nI q)), (2, .int (nI t)), (3, .int (nI (2 ^ q))), (4, .int (nI k))]) hx hb dX3_interpolate_97 hl (k := 6) rfl (zinc (by omega)) (by decide) rfl (fun ls hl => ?_)
                      refine lv_goto (tgt := 44) hx hb dX3_interpolate_100 (by decide) ?_
                      exact ih44 (i1 + 1) (u + (((1 : Int64) * (pv i1)) * ((zcosv (i1 * k * 2 ^ (4 - q))).toInt64))) (by omega) (by rw [hu]; simp only [zcs]; (first | rw [if_pos (by omega)] | rw [if_neg (by omega)]) <;> rfl) (by omega) H _ hP hS ls (lv_sub hl [2, 3, 4, 5, 6, 1, 0] rfl)
            exact L44 _ 0 0 (by omega) rfl (Nat.lt_succ_self _) H _ hP hS ls (lv_sub hl [2, 3, 4, 5, 6, 1, 0] rfl)
      exact L32 _ 0 (fun _ => 0) (by omega) (fun j => by rw [if_neg (by omega)]) (Nat.lt_succ_self _) H _ hP hS ls (lv_sub hl [2, 3, 4, 1, 0] rfl)
    ·
      exfalso; omega

set_option maxHeartbeats 4000000 in
set_option maxRecDepth 100000 in
theorem kX3_sample (l : Launch) (D : va_G) (cL cI cR : ClassId) (A : Nat → Prop) (F : Nat → Nat) (hF : zq_F A F 7) (C : Nat → Nat → Int64) (dg : Nat → Nat) (vals found waits : Nat → Int32) (roots looks : Nat) (P : Nat → Nat → Int64) (n0 : Nat → Nat) (hCP : ∀ i, i < 8 → C i = P i ∧ dg i = n0 i) (h24 : ∀ i, i < 8 → n0 i ≤ 24) (hzz : ∀ i, i < 8 → ∀ j, n0 i < j → P i j = 0) (a : Nat) (ha : a ≤ 7) (q : Nat) (hq : q ≤ 4) : zCt l yX3_sample wsX3_sample 2 55 D cL cI cR A F 7 (zME cL cI F C dg (vals, found, waits, roots, looks)) [.ref (F 0), .int (nI a), .int (nI q)] (zPM cL cI F (if zsok (P a) (n0 a) q (2 ^ q + 1) = true then lN (2 ^ q + 1) else -9000000000000000003) P n0 (if zsok (P a) (n0 a) q (2 ^ q + 1) = true then (fun j => if j ≤ 2 ^ q then (zsv (P a) (n0 a) q j).toInt32 else vals j) else vals)) := by
  refine zStart (cc := cX3_sample) (maxL := 5) (ret := (some .long)) (by decide +kernel) rfl (Nat.le_of_ble_eq_true rfl) ?_
  intro p e s m below meth c hx hb hr hml hlk hown hts hAm H hP hS ls hl
  have hown : s.vm.findClass RX3 = some m.cls := hown
  have hl : lv_has ls 5 [(0, .ref (F 0)), (1, .int (nI a)), (2, .int (nI q))] := hl
  have hinX3 : ∀ w ∈ u_ws RX3 TX3 8, w ∈ wsX3_sample := by decide +kernel
  obtain ⟨hCa, hNa⟩ := hCP a (by omega)
  have h24a : dg a ≤ 24 := by rw [hNa]; exact h24 a (by omega)
  have hza : ∀ j, dg a < j → C a j = 0 := fun j hj => by rw [hCa]; exact hzz a (by omega) j (by rw [← hNa]; exact hj)
  have h2q := zp2 hq
  refine lv_iload_n hx hb dX3_sample_0 rfl (lv_at hl 1 rfl) ?_
  refine zcallS (As := [.int (nI a)]) (rest := []) (k := 1) hx hb hml hown hts (kX3_isSeries l D cL cI cR A F 7 (zME cL cI F C dg (vals, found, waits, roots, looks)) (nI a) 1 (if_pos (zin_nI (a := 7) (by omega) (by decide))).symm) gX3_sample_X3_isSeries rfl (by decide +kernel) ⟨Nat.le_of_ble_eq_true rfl, Nat.le_of_ble_eq_true rfl⟩ hAm hP hS rfl hl.1 rfl (Nat.le_of_ble_eq_true rfl) dX3_sample_1 ⟨Nat.zero_le _, Nat.zero_le _⟩ (zkn (fun H locs hP hS => ?_))
  refine W.eq (g2 := F0 m 4 ls [.int (nI 1)]) rfl ?_
  refine zf_eq (tgt := 14) hx hb dX3_sample_4 (by decide) (by omega) (fun c1 => ?_) (fun c1 => ?_)
  ·
    exfalso; omega
  ·
    refine lv_iload_n hx hb dX3_sample_7 rfl (lv_at hl 2 rfl) ?_
    refine zcallS (As := [.int (nI q)]) (rest := []) (k := 1) hx hb hml hown hts (kX3_isPower l D cL cI cR A F 7 (zME cL cI F C dg (vals, found, waits, roots, looks)) (nI q) 1 (if_pos (zin_nI (a := 4) (by omega) (by decide))).symm) gX3_sample_X3_isPower rfl (by decide +kernel) ⟨Nat.le_of_ble_eq_true rfl, Nat.le_of_ble_eq_true rfl⟩ hAm hP hS rfl hl.1 rfl (Nat.le_of_ble_eq_true rfl) dX3_sample_8 ⟨Nat.zero_le _, Nat.zero_le _⟩ (zkn (fun H locs hP hS => ?_))
    refine W.eq (g2 := F0 m 11 ls [.int (nI 1)]) rfl ?_
    refine zf_ne (tgt := 18) hx hb dX3_sample_11 (by decide) (by omega) (fun c2 => ?_) (fun c2 => ?_)
    ·
      refine lv_iconst (v := nI 1) hx hb dX3_sample_18 (by decide +kernel) ?_
      refine lv_iload_n hx hb dX3_sample_19 rfl (lv_at hl 2 rfl) ?_
      refine lv_ishl hx hb dX3_sample_20 ?_
      refine W.eq (g2 := F0 m 21 ls [.int (nI (2 ^ q))]) (by rw [zsh1 hq]) ?_
      refine lv_istore_n (lv' := [(3, .int (nI (2 ^ q))), (0, .ref (F 0)), (1, .int (nI a)), (2, .int (nI q))]) hx hb dX3_sample_21 rfl hl (by decide) rfl (fun ls hl => ?_)
      refine lv_iconst (v := nI 0) hx hb dX3_sample_22 (by decide +kernel) ?_
      refine lv_istore (lv' := [(4, .int (nI 0)), (3, .int (nI (2 ^ q))), (0, .ref (F 0)), (1, .int (nI a)), (2, .int (nI q))]) hx hb dX3_sample_23 hl (by decide) rfl (fun ls hl => ?_)
      have L25 : ∀ (n : Nat) (k : Nat) (hk : k ≤ 2 ^ q + 1) (hg : zsok (C a) (dg a) q k = true) (hn : 2 ^ q + 1 - k < n) (H : Heap) (locs : List Loc), va_P D vwCl (zq_wd F 7 (zME cL cI F C dg (vals, found, waits, roots, looks))) H → va_S A s.heap H locs → ∀ (ls : Array Slot), lv_has ls 5 [(0, .ref (F 0)), (1, .int (nI a)), (2, .int (nI q)), (3, .int (nI (2 ^ q))), (4, .int (nI k))] → W p l e ({ frames := 2, cells := 0, slots := 0, locals := 55 }) s m ([.ref (F 0), .int (nI a), .int (nI q)] : List Value).toArray below meth c H locs 0 0 (zQ below D A F 7 [.ref (F 0), .int (nI a), .int (nI q)] s (zPM cL cI F (if zsok (P a) (n0 a) q (2 ^ q + 1) = true then lN (2 ^ q + 1) else -9000000000000000003) P n0 (if zsok (P a) (n0 a) q (2 ^ q + 1) = true then (fun j => if j ≤ 2 ^ q then (zsv (P a) (n0 a) q j).toInt32 else vals j) else vals))) (F0 m 25 ls []) := by
        intro n
        induction n with
        | zero =>
          intro k hk hg hn
          exact absurd hn (Nat.not_lt_zero _)
        | succ n ih25 =>
          intro k hk hg hn H locs hP hS ls hl
          refine lv_iload hx hb dX3_sample_25 (lv_at hl 4 rfl) ?_
          refine lv_iload_n hx hb dX3_sample_27 rfl (lv_at hl 3 rfl) ?_
          refine zi_gt (tgt := 63) hx hb dX3_sample_28 (by decide) (by omega) (by omega) (fun c3 => ?_) (fun c3 => ?_)
          ·
            have hok : zsok (C a) (dg a) q (2 ^ q + 1) = true := by rw [show 2 ^ q + 1 = k by omega]; exact hg
            refine lv_iconst (v := nI 0) hx hb dX3_sample_63 (by decide +kernel) ?_
            refine lv_istore (lv' := [(4, .int (nI 0)), (0, .ref (F 0)), (1, .int (nI a)), (2, .int (nI q)), (3, .int (nI (2 ^ q)))]) hx hb dX3_sample_64 hl (by decide) rfl (fun ls hl => ?_)
            have L66 : ∀ (n : Nat) (k2 : Nat) (g : Nat → Int32) (hk2 : k2 ≤ 2 ^ q + 1) (hg2 : ∀ j, j < 17 → g j = if j < k2 then (zsv (C a) (dg a) q j).toInt32 else vals j) (hn : 2 ^ q + 1 - k2 < n) (H : Heap) (locs : List Loc), va_P D vwCl (zq_wd F 7 (zME cL cI F C dg (g, found, waits, roots, looks))) H → va_S A s.heap H locs → ∀ (ls : Array Slot), lv_has ls 5 [(0, .ref (F 0)), (1, .int (nI a)), (2, .int (nI q)), (3, .int (nI (2 ^ q))), (4, .int (nI k2))] → W p l e ({ frames := 2, cells := 0, slots := 0, locals := 55 }) s m ([.ref (F 0), .int (nI a), .int (nI q)] : List Value).toArray below meth c H locs 0 0 (zQ below D A F 7 [.ref (F 0), .int (nI a), .int (nI q)] s (zPM cL cI F (if zsok (P a) (n0 a) q (2 ^ q + 1) = true then lN (2 ^ q + 1) else -9000000000000000003) P n0 (if zsok (P a) (n0 a) q (2 ^ q + 1) = true then (fun j => if j ≤ 2 ^ q then (zsv (P a) (n0 a) q j).toInt32 else vals j) else vals))) (F0 m 66 ls []) := by
              intro n
              induction n with
              | zero =>
                intro k2 g hk2 hg2 hn
                exact absurd hn (Nat.not_lt_zero _)
              | succ n ih66 =>
                intro k2 g hk2 hg2 hn H locs hP hS ls hl
                refine lv_iload hx hb dX3_sample_66 (lv_at hl 4 rfl) ?_
                refine lv_iload_n hx hb dX3_sample_68 rfl (lv_at hl 3 rfl) ?_
                refine zi_gt (tgt := 98) hx hb dX3_sample_69 (by decide) (by omega) (by omega) (fun c4 => ?_) (fun c4 => ?_)
                ·
                  refine lv_iload_n hx hb dX3_sample_98 rfl (lv_at hl 3 rfl) ?_
                  refine lv_iconst (v := nI 1) hx hb dX3_sample_99 (by decide +kernel) ?_
                  refine ziadd (d := ((2 ^ q) + 1)) hx hb (by omega) dX3_sample_100 ?_
                  refine zi2l hx hb (by omega) dX3_sample_101 ?_
                  exact zretL hx hb hr hlk hS hP dX3_sample_102 ⟨_, _, _, rfl, by rw [← hCa, ← hNa, if_pos hok], hCP, fun j hj => by rw [← hCa, ← hNa, if_pos hok]; show g j = _; rw [hg2 j hj]; by_cases h : j < k2; (rw [if_pos h, if_pos (by omega)]); (rw [if_neg h, if_neg (by omega)])⟩
                ·
                  refine lv_aload_n hx hb dX3_sample_72 rfl (lv_at hl 0 rfl) ?_
                  refine zget (q := 0) (k := 2) (v := .ref (F 3)) hx hb hts hinX3 hown hAm hP (by omega) (zM_o) rfl (by decide) (hts (.fieldLink RX3 17 "CosineSeriesModel" "values" "[I") (by decide +kernel)) (by first | rfl | simp [va_up, *]) dX3_sample_73 ?_
                  refine lv_iload hx hb dX3_sample_76 (lv_at hl 4 rfl) ?_
                  refine lv_aload_n hx hb dX3_sample_78 rfl (lv_at hl 0 rfl) ?_
                  refine lv_iload_n hx hb dX3_sample_79 rfl (lv_at hl 1 rfl) ?_
                  refine lv_aload_n hx hb dX3_sample_80 rfl (lv_at hl 0 rfl) ?_
                  refine lv_iload_n hx hb dX3_sample_81 rfl (lv_at hl 2 rfl) ?_
                  refine lv_iload hx hb dX3_sample_82 (lv_at hl 4 rfl) ?_
                  refine zcallV (As := [.int (nI q), .int (nI k2)]) (rest := [.int (nI a), .ref (F 0), .int (nI k2), .ref (F 3)]) (q := 0) (k := 2) hx hb hml hown hts (kX3_pointAt l D cL cI cR A F hF C dg (g, found, waits, roots, looks) q k2 hq (by omega)) gX3_sample_X3_pointAt rfl (by decide +kernel) ⟨Nat.le_of_ble_eq_true rfl, Nat.le_of_ble_eq_true rfl⟩ rfl (by omega) (zM_o) rfl rfl hAm hP hS rfl hl.1 rfl (Nat.le_of_ble_eq_true rfl) dX3_sample_84 ⟨Nat.zero_le _, Nat.zero_le _⟩ (zkn (fun H locs hP hS => ?_))
                  refine W.eq (g2 := F0 m 87 ls [.long ((zcosv (k2 * 2 ^ (4 - q))).toInt64), .int (nI a), .ref (F 0), .int (nI k2), .ref (F 3)]) rfl ?_
                  refine zcallV (As := [.int (nI a), .long ((zcosv (k2 * 2 ^ (4 - q))).toInt64)]) (rest := [.int (nI k2), .ref (F 3)]) (q := 0) (k := 2) hx hb hml hown hts (kX3_valueAt l D cL cI cR A F hF C dg (g, found, waits, roots, looks) a (by omega) ((zcosv (k2 * 2 ^ (4 - q))).toInt64) (C a) (by first | rfl | simp [va_up, *]) (dg a) (by first | rfl | simp [va_up, *]) (by omega)) gX3_sample_X3_valueAt rfl (by decide +kernel) ⟨Nat.le_of_ble_eq_true rfl, Nat.le_of_ble_eq_true rfl⟩ rfl (by omega) (zM_o) rfl rfl hAm hP hS rfl hl.1 rfl (Nat.le_of_ble_eq_true rfl) dX3_sample_87 ⟨Nat.zero_le _, Nat.zero_le _⟩ (zkn (fun H locs hP hS => ?_))
                  refine W.eq (g2 := F0 m 90 ls [.long (zval (C a) (dg a) ((zcosv (k2 * 2 ^ (4 - q))).toInt64)), .int (nI k2), .ref (F 3)]) rfl ?_
                  refine lv_l2i (v := (zval (C a) (dg a) ((zcosv (k2 * 2 ^ (4 - q))).toInt64)).toInt32) hx hb dX3_sample_90 rfl ?_
                  refine ziast (q := 3) (k := k2) (E' := (zME cL cI F C dg ((upd g k2 ((zval (C a) (dg a) ((zcosv (k2 * 2 ^ (4 - q))).toInt64)).toInt32)), found, waits, roots, looks))) hx hb hAm hP hF hS (by omega) (zM_v) (by omega) (by decide) dX3_sample_91 (zM_uv) (fun H locs hP hS => ?_)
                  refine lv_iinc (v := (nI (k2 + 1))) (lv' := [(4, .int (nI (k2 + 1))), (0, .ref (F 0)), (1, .int (nI a)), (2, .int (nI q)), (3, .int (nI (2 ^ q)))]) hx hb dX3_sample_92 hl (k := 4) rfl (zinc (by omega)) (by decide) rfl (fun ls hl => ?_)
                  refine lv_goto (tgt := 66) hx hb dX3_sample_95 (by decide) ?_
                  exact ih66 (k2 + 1) _ (by omega) (fun j hj => by unfold upd; split; (rename_i h; rw [h, if_pos (by omega)]; rfl); (rw [hg2 j hj]; by_cases h : j < k2; (rw [if_pos h, if_pos (by omega)]); (rw [if_neg h, if_neg (by omega)]))) (by omega) H _ hP hS ls (lv_sub hl [1, 2, 3, 4, 0] rfl)
            exact L66 _ 0 _ (by omega) (fun j _ => by rw [if_neg (by omega)]) (Nat.lt_succ_self _) H _ hP hS ls (lv_sub hl [1, 2, 3, 4, 0] rfl)
          ·
            refine lv_aload_n hx hb dX3_sample_31 rfl (lv_at hl 0 rfl) ?_
            refine lv_iload_n hx hb dX3_sample_32 rfl (lv_at hl 1 rfl) ?_
            refine lv_aload_n hx hb dX3_sample_33 rfl (lv_at hl 0 rfl) ?_
            refine lv_iload_n hx hb dX3_sample_34 rfl (lv_at hl 2 rfl) ?_
            refine lv_iload hx hb dX3_sample_35 (lv_at hl 4 rfl) ?_
            refine zcallV (As := [.int (nI q), .int (nI k)]) (rest := [.int (nI a), .ref (F 0)]) (q := 0) (k := 2) hx hb hml hown hts (kX3_pointAt l D cL cI cR A F hF C dg (vals, found, waits, roots, looks) q k hq (by omega)) gX3_sample_X3_pointAt rfl (by decide +kernel) ⟨Nat.le_of_ble_eq_true rfl, Nat.le_of_ble_eq_true rfl⟩ rfl (by omega) (zM_o) rfl rfl hAm hP hS rfl hl.1 rfl (Nat.le_of_ble_eq_true rfl) dX3_sample_37 ⟨Nat.zero_le _, Nat.zero_le _⟩ (zkn (fun H locs hP hS => ?_))
            refine W.eq (g2 := F0 m 40 ls [.long ((zcosv (k * 2 ^ (4 - q))).toInt64), .int (nI a), .ref (F 0)]) rfl ?_
            refine zcallV (As := [.int (nI a), .long ((zcosv (k * 2 ^ (4 - q))).toInt64)]) (rest := []) (q := 0) (k := 2) hx hb hml hown hts (kX3_valueAt l D cL cI cR A F hF C dg (vals, found, waits, roots, looks) a (by omega) ((zcosv (k * 2 ^ (4 - q))).toInt64) (C a) (by first | rfl | simp [va_up, *]) (dg a) (by first | rfl | simp [va_up, *]) (by omega)) gX3_sample_X3_valueAt rfl (by decide +kernel) ⟨Nat.le_of_ble_eq_true rfl, Nat.le_of_ble_eq_true rfl⟩ rfl (by omega) (zM_o) rfl rfl hAm hP hS rfl hl.1 rfl (Nat.le_of_ble_eq_true rfl) dX3_sample_40 ⟨Nat.zero_le _, Nat.zero_le _⟩ (zkn (fun H locs hP hS => ?_))
            refine W.eq (g2 := F0 m 43 ls [.long (zval (C a) (dg a) ((zcosv (k * 2 ^ (4 - q))).toInt64))]) rfl ?_
            refine zcallS (As := [.long (zval (C a) (dg a) ((zcosv (k * 2 ^ (4 - q))).toInt64))]) (rest := []) (k := 1) hx hb hml hown hts (kX3_size l D cL cI cR A F 7 (zME cL cI F C dg (vals, found, waits, roots, looks)) (zval (C a) (dg a) ((zcosv (k * 2 ^ (4 - q))).toInt64))) gX3_sample_X3_size rfl (by decide +kernel) ⟨Nat.le_of_ble_eq_true rfl, Nat.le_of_ble_eq_true rfl⟩ hAm hP hS rfl hl.1 rfl (Nat.le_of_ble_eq_true rfl) dX3_sample_43 ⟨Nat.zero_le _, Nat.zero_le _⟩ (zkn (fun H locs hP hS => ?_))
            refine W.eq (g2 := F0 m 46 ls [.long (zabs (zval (C a) (dg a) ((zcosv (k * 2 ^ (4 - q))).toInt64)))]) rfl ?_
            refine lv_ldc2 hx hb hown (hts (.constantLong RX3 138 (134217728)) (by decide +kernel)) dX3_sample_46 ?_
            refine zl_le (tgt := 57) hx hb dX3_sample_49 dX3_sample_50 (by decide) (fun c5 => ?_) (fun c5 => ?_)
            ·
              have c2 := c5
              refine lv_iinc (v := (nI (k + 1))) (lv' := [(4, .int (nI (k + 1))), (0, .ref (F 0)), (1, .int (nI a)), (2, .int (nI q)), (3, .int (nI (2 ^ q)))]) hx hb dX3_sample_57 hl (k := 4) rfl (zinc (by omega)) (by decide) rfl (fun ls hl => ?_)
              refine lv_goto (tgt := 25) hx hb dX3_sample_60 (by decide) ?_
              exact ih25 (k + 1) (by omega) (by unfold zsok; rw [hg]; exact decide_eq_true c2) (by omega) H _ hP hS ls (lv_sub hl [1, 2, 3, 4, 0] rfl)
            ·
              refine lv_ldc2 hx hb hown (hts (.constantLong RX3 65 (-9000000000000000003)) (by decide +kernel)) dX3_sample_53 ?_
              exact zretL hx hb hr hlk hS hP dX3_sample_56 ⟨_, _, _, rfl, by rw [← hCa, ← hNa, if_neg (by rw [zsok_bad (by exact c5) _ (by omega)]; decide)], hCP, fun j _ => by rw [← hCa, ← hNa, if_neg (by rw [zsok_bad (by exact c5) _ (by omega)]; decide)]⟩
      exact L25 _ 0 (by omega) rfl (Nat.lt_succ_self _) H _ hP hS ls (lv_sub hl [2, 3, 4, 1, 0] rfl)
    ·
      exfalso; omega

set_option maxHeartbeats 4000000 in
set_option maxRecDepth 100000 in
theorem kX3_misfit (l : Launch) (D : va_G) (cL cI cR : ClassId) (A : Nat → Prop) (F : Nat → Nat) (hF : zq_F A F 7) (C : Nat → Nat → Int64) (dg : Nat → Nat) (vals found waits : Nat → Int32) (roots looks : Nat) (P : Nat → Nat → Int64) (n0 : Nat → Nat) (hCP : ∀ i, i < 8 → C i = P i ∧ dg i = n0 i) (h24 : ∀ i, i < 8 → n0 i ≤ 24) (hzz : ∀ i, i < 8 → ∀ j, n0 i < j → P i j = 0) (a : Nat) (ha : a ≤ 7) (q : Nat) (hq : q ≤ 4) (pv : Nat → Int64) (hpv : ∀ j, j < 17 → (vals j).toInt64 = pv j) : zCt l yX3_misfit wsX3_misfit 2 55 D cL cI cR A F 7 (zME cL cI F C dg (vals, found, waits, roots, looks)) [.ref (F 0), .int (nI a), .int (nI q)] (zPM cL cI F (zmis (P a) (n0 a) q pv (2 ^ q + 1)) P n0 vals) := by
  refine zStart (cc := cX3_misfit) (maxL := 8) (ret := (some .long)) (by decide +kernel) rfl (Nat.le_of_ble_eq_true rfl) ?_
  intro p e s m below meth c hx hb hr hml hlk hown hts hAm H hP hS ls hl
  have hown : s.vm.findClass RX3 = some m.cls := hown
  have hl : lv_has ls 8 [(0, .ref (F 0)), (1, .int (nI a)), (2, .int (nI q))] := hl
  have hinX3 : ∀ w ∈ u_ws RX3 TX3 8, w ∈ wsX3_misfit := by decide +kernel
  obtain ⟨hCa, hNa⟩ := hCP a (by omega)
  have h24a : dg a ≤ 24 := by rw [hNa]; exact h24 a (by omega)
  have hza : ∀ j, dg a < j → C a j = 0 := fun j hj => by rw [hCa]; exact hzz a (by omega) j (by rw [← hNa]; exact hj)
  have h2q := zp2 hq
  refine lv_iload_n hx hb dX3_misfit_0 rfl (lv_at hl 1 rfl) ?_
  refine zcallS (As := [.int (nI a)]) (rest := []) (k := 1) hx hb hml hown hts (kX3_isSeries l D cL cI cR A F 7 (zME cL cI F C dg (vals, found, waits, roots, looks)) (nI a) 1 (if_pos (zin_nI (a := 7) (by omega) (by decide))).symm) gX3_misfit_X3_isSeries rfl (by decide +kernel) ⟨Nat.le_of_ble_eq_true rfl, Nat.le_of_ble_eq_true rfl⟩ hAm hP hS rfl hl.1 rfl (Nat.le_of_ble_eq_true rfl) dX3_misfit_1 ⟨Nat.zero_le _, Nat.zero_le _⟩ (zkn (fun H locs hP hS => ?_))
  refine W.eq (g2 := F0 m 4 ls [.int (nI 1)]) rfl ?_
  refine zf_eq (tgt := 14) hx hb dX3_misfit_4 (by decide) (by omega) (fun c1 => ?_) (fun c1 => ?_)
  ·
    exfalso; omega
  ·
    refine lv_iload_n hx hb dX3_misfit_7 rfl (lv_at hl 2 rfl) ?_
    refine zcallS (As := [.int (nI q)]) (rest := []) (k := 1) hx hb hml hown hts (kX3_isPower l D cL cI cR A F 7 (zME cL cI F C dg (vals, found, waits, roots, looks)) (nI q) 1 (if_pos (zin_nI (a := 4) (by omega) (by decide))).symm) gX3_misfit_X3_isPower rfl (by decide +kernel) ⟨Nat.le_of_ble_eq_true rfl, Nat.le_of_ble_eq_true rfl⟩ hAm hP hS rfl hl.1 rfl (Nat.le_of_ble_eq_true rfl) dX3_misfit_8 ⟨Nat.zero_le _, Nat.zero_le _⟩ (zkn (fun H locs hP hS => ?_))
    refine W.eq (g2 := F0 m 11 ls [.int (nI 1)]) rfl ?_
    refine zf_ne (tgt := 18) hx hb dX3_misfit_11 (by decide) (by omega) (fun c2 => ?_) (fun c2 => ?_)
    ·
      refine lv_lconst (v := (0 : Int64)) hx hb dX3_misfit_18 (by decide +kernel) ?_
      refine lv_lstore_n (lv' := [(3, .long (0 : Int64)), (0, .ref (F 0)), (1, .int (nI a)), (2, .int (nI q))]) hx hb dX3_misfit_19 rfl hl (by decide) rfl (fun ls hl => ?_)
      refine lv_iconst (v := nI 0) hx hb dX3_misfit_20 (by decide +kernel) ?_
      refine lv_istore (lv' := [(5, .int (nI 0)), (3, .long (0 : Int64)), (0, .ref (F 0)), (1, .int (nI a)), (2, .int (nI q))]) hx hb dX3_misfit_21 hl (by decide) rfl (fun ls hl => ?_)
      have L23 : ∀ (n : Nat) (k : Nat) (u : Int64) (hk : k ≤ 2 ^ q + 1) (hu : u = zmis (C a) (dg a) q pv k) (hn : 2 ^ q + 1 - k < n) (H : Heap) (locs : List Loc), va_P D vwCl (zq_wd F 7 (zME cL cI F C dg (vals, found, waits, roots, looks))) H → va_S A s.heap H locs → ∀ (ls : Array Slot), lv_has ls 8 [(0, .ref (F 0)), (1, .int (nI a)), (2, .int (nI q)), (3, .long u), (5, .int (nI k))] → W p l e ({ frames := 2, cells := 0, slots := 0, locals := 55 }) s m ([.ref (F 0), .int (nI a), .int (nI q)] : List Value).toArray below meth c H locs 0 0 (zQ below D A F 7 [.ref (F 0), .int (nI a), .int (nI q)] s (zPM cL cI F (zmis (P a) (n0 a) q pv (2 ^ q + 1)) P n0 vals)) (F0 m 23 ls []) := by
        intro n
        induction n with
        | zero =>
          intro k u hk hu hn
          exact absurd hn (Nat.not_lt_zero _)
        | succ n ih23 =>
          intro k u hk hu hn H locs hP hS ls hl
          refine lv_iload hx hb dX3_misfit_23 (lv_at hl 4 rfl) ?_
          refine lv_iconst (v := nI 1) hx hb dX3_misfit_25 (by decide +kernel) ?_
          refine lv_iload_n hx hb dX3_misfit_26 rfl (lv_at hl 2 rfl) ?_
          refine lv_ishl hx hb dX3_misfit_27 ?_
          refine W.eq (g2 := F0 m 28 ls [.int (nI (2 ^ q)), .int (nI k)]) (by rw [zsh1 hq]) ?_
          refine zi_gt (tgt := 77) hx hb dX3_misfit_28 (by decide) (by omega) (by omega) (fun c3 => ?_) (fun c3 => ?_)
          ·
            refine lv_lload_n hx hb dX3_misfit_77 rfl (lv_at hl 3 rfl) ?_
            exact zretL hx hb hr hlk hS hP dX3_misfit_78 ⟨_, _, _, rfl, by rw [hu, show k = 2 ^ q + 1 by omega, hCa, hNa], hCP, fun _ _ => rfl⟩
          ·
            refine lv_aload_n hx hb dX3_misfit_31 rfl (lv_at hl 0 rfl) ?_
            refine lv_iload_n hx hb dX3_misfit_32 rfl (lv_at hl 1 rfl) ?_
            refine lv_aload_n hx hb dX3_misfit_33 rfl (lv_at hl 0 rfl) ?_
            refine lv_iload_n hx hb dX3_misfit_34 rfl (lv_at hl 2 rfl) ?_
            refine lv_iload hx hb dX3_misfit_35 (lv_at hl 4 rfl) ?_
            refine zcallV (As := [.int (nI q), .int (nI k)]) (rest := [.int (nI a), .ref (F 0)]) (q := 0) (k := 2) hx hb hml hown hts (kX3_pointAt l D cL cI cR A F hF C dg (vals, found, waits, roots, looks) q k hq (by omega)) gX3_misfit_X3_pointAt rfl (by decide +kernel) ⟨Nat.le_of_ble_eq_true rfl, Nat.le_of_ble_eq_true rfl⟩ rfl (by omega) (zM_o) rfl rfl hAm hP hS rfl hl.1 rfl (Nat.le_of_ble_eq_true rfl) dX3_misfit_37 ⟨Nat.zero_le _, Nat.zero_le _⟩ (zkn (fun H locs hP hS => ?_))
            refine W.eq (g2 := F0 m 40 ls [.long ((zcosv (k * 2 ^ (4 - q))).toInt64), .int (nI a), .ref (F 0)]) rfl ?_
            refine zcallV (As := [.int (nI a), .long ((zcosv (k * 2 ^ (4 - q))).toInt64)]) (rest := []) (q := 0) (k := 2) hx hb hml hown hts (kX3_valueAt l D cL cI cR A F hF C dg (vals, found, waits, roots, looks) a (by omega) ((zcosv (k * 2 ^ (4 - q))).toInt64) (C a) (by first | rfl | simp [va_up, *]) (dg a) (by first | rfl | simp [va_up, *]) (by omega)) gX3_misfit_X3_valueAt rfl (by decide +kernel) ⟨Nat.le_of_ble_eq_true rfl, Nat.le_of_ble_eq_true rfl⟩ rfl (by omega) (zM_o) rfl rfl hAm hP hS rfl hl.1 rfl (Nat.le_of_ble_eq_true rfl) dX3_misfit_40 ⟨Nat.zero_le _, Nat.zero_le _⟩ (zkn (fun H locs hP hS => ?_))
            refine W.eq (g2 := F0 m 43 ls [.long (zval (C a) (dg a) ((zcosv (k * 2 ^ (4 - q))).toInt64))]) rfl ?_
            refine lv_aload_n hx hb dX3_misfit_43 rfl (lv_at hl 0 rfl) ?_
            refine zget (q := 0) (k := 2) (v := .ref (F 3)) hx hb hts hinX3 hown hAm hP (by omega) (zM_o) rfl (by decide) (hts (.fieldLink RX3 17 "CosineSeriesModel" "values" "[I") (by decide +kernel)) (by first | rfl | simp [va_up, *]) dX3_misfit_44 ?_
            refine lv_iload hx hb dX3_misfit_47 (lv_at hl 4 rfl) ?_
            refine ziald (q := 3) (k := k) (v := (vals k)) hx hb hAm hP (by omega) (zM_v) (by omega) (by decide) (by first | rfl | simp [va_up, *]) dX3_misfit_49 ?_
            refine lv_i2l (v := (vals k).toInt64) hx hb dX3_misfit_50 rfl ?_
            refine W.eq (g2 := F0 m 51 ls [.long (pv k), .long (zval (C a) (dg a) ((zcosv (k * 2 ^ (4 - q))).toInt64))]) (by rw [hpv k (by omega)]) ?_
            refine lv_lsub hx hb dX3_misfit_51 ?_
            refine zcallS (As := [.long ((zval (C a) (dg a) ((zcosv (k * 2 ^ (4 - q))).toInt64)) - (pv k))]) (rest := []) (k := 1) hx hb hml hown hts (kX3_size l D cL cI cR A F 7 (zME cL cI F C dg (vals, found, waits, roots, looks)) ((zval (C a) (dg a) ((zcosv (k * 2 ^ (4 - q))).toInt64)) - (pv k))) gX3_misfit_X3_size rfl (by decide +kernel) ⟨Nat.le_of_ble_eq_true rfl, Nat.le_of_ble_eq_true rfl⟩ hAm hP hS rfl hl.1 rfl (Nat.le_of_ble_eq_true rfl) dX3_misfit_52 ⟨Nat.zero_le _, Nat.zero_le _⟩ (zkn (fun H locs hP hS => ?_))
            refine W.eq (g2 := F0 m 55 ls [.long (zabs ((zval (C a) (dg a) ((zcosv (k * 2 ^ (4 - q))).toInt64)) - (pv k)))]) rfl ?_
            refine lv_lstore (lv' := [(6, .long (zabs ((zval (C a) (dg a) ((zcosv (k * 2 ^ (4 - q))).toInt64)) - (pv k)))), (0, .ref (F 0)), (1, .int (nI a)), (2, .int (nI q)), (3, .long u), (5, .int (nI k))]) hx hb dX3_misfit_55 hl (by decide) rfl (fun ls hl => ?_)
            refine lv_lload hx hb dX3_misfit_57 (lv_at hl 0 rfl) ?_
            refine lv_lload_n hx hb dX3_misfit_59 rfl (lv_at hl 4 rfl) ?_
            refine zl_le (tgt := 69) hx hb dX3_misfit_60 dX3_misfit_61 (by decide) (fun c4 => ?_) (fun c4 => ?_)
            ·
              have hmx := zmaxle c4
              refine lv_lload_n hx hb dX3_misfit_69 rfl (lv_at hl 4 rfl) ?_
              refine lv_lstore_n (lv' := [(3, .long u), (6, .long (zabs ((zval (C a) (dg a) ((zcosv (k * 2 ^ (4 - q))).toInt64)) - (pv k)))), (0, .ref (F 0)), (1, .int (nI a)), (2, .int (nI q)), (5, .int (nI k))]) hx hb dX3_misfit_70 rfl hl (by decide) rfl (fun ls hl => ?_)
              refine lv_iinc (v := (nI (k + 1))) (lv' := [(5, .int (nI (k + 1))), (3, .long u), (6, .long (zabs ((zval (C a) (dg a) ((zcosv (k * 2 ^ (4 - q))).toInt64)) - (pv k)))), (0, .ref (F 0)), (1, .int (nI a)), (2, .int (nI q))]) hx hb dX3_misfit_71 hl (k := 5) rfl (zinc (by omega)) (by decide) rfl (fun ls hl => ?_)
              refine lv_goto (tgt := 23) hx hb dX3_misfit_74 (by decide) ?_
              exact ih23 (k + 1) u (by omega) (by rw [hmx, hu]; rfl) (by omega) H _ hP hS ls (lv_sub hl [3, 4, 5, 1, 0] rfl)
            ·
              have hmx := zmaxlt c4
              refine lv_lload hx hb dX3_misfit_64 (lv_at hl 0 rfl) ?_
              refine lv_goto (tgt := 70) hx hb dX3_misfit_66 (by decide) ?_
              refine lv_lstore_n (lv' := [(3, .long (zabs ((zval (C a) (dg a) ((zcosv (k * 2 ^ (4 - q))).toInt64)) - (pv k)))), (6, .long (zabs ((zval (C a) (dg a) ((zcosv (k * 2 ^ (4 - q))).toInt64)) - (pv k)))), (0, .ref (F 0)), (1, .int (nI a)), (2, .int (nI q)), (5, .int (nI k))]) hx hb dX3_misfit_70 rfl hl (by decide) rfl (fun ls hl => ?_)
              refine lv_iinc (v := (nI (k + 1))) (lv' := [(5, .int (nI (k + 1))), (3, .long (zabs ((zval (C a) (dg a) ((zcosv (k * 2 ^ (4 - q))).toInt64)) - (pv k)))), (6, .long (zabs ((zval (C a) (dg a) ((zcosv (k * 2 ^ (4 - q))).toInt64)) - (pv k)))), (0, .ref (F 0)), (1, .int (nI a)), (2, .int (nI q))]) hx hb dX3_misfit_71 hl (k := 5) rfl (zinc (by omega)) (by decide) rfl (fun ls hl => ?_)
              refine lv_goto (tgt := 23) hx hb dX3_misfit_74 (by decide) ?_
              exact ih23 (k + 1) (zabs ((zval (C a) (dg a) ((zcosv (k * 2 ^ (4 - q))).toInt64)) - (pv k))) (by omega) (by rw [hmx, hu]; rfl) (by omega) H _ hP hS ls (lv_sub hl [3, 4, 5, 1, 0] rfl)
      exact L23 _ 0 0 (by omega) rfl (Nat.lt_succ_self _) H _ hP hS ls (lv_sub hl [2, 3, 4, 1, 0] rfl)
    ·
      exfalso; omega

set_option maxHeartbeats 4000000 in
set_option maxRecDepth 100000 in
theorem kX3_root (l : Launch) (D : va_G) (cL cI cR : ClassId) (A : Nat → Prop) (F : Nat → Nat) (hF : zq_F A F 7) (C : Nat → Nat → Int64) (dg : Nat → Nat) (vals found waits : Nat → Int32) (roots looks : Nat) (P : Nat → Nat → Int64) (n0 : Nat → Nat) (hCP : ∀ i, i < 8 → C i = P i ∧ dg i = n0 i) (h24 : ∀ i, i < 8 → n0 i ≤ 24) (hzz : ∀ i, i < 8 → ∀ j, n0 i < j → P i j = 0) (a : Nat) (ha : a ≤ 7) (ix : Int32) (hix : -1 ≤ ix.toInt) : zCt l yX3_root wsX3_root 4 109 D cL cI cR A F 7 (zME cL cI F C dg (vals, found, waits, roots, looks)) [.ref (F 0), .int (nI a), .int ix] (zPM cL cI F (zrootr (zroots (P a) (n0 a)).1 ix) P n0 vals) := by
  refine zStart (cc := cX3_root) (maxL := 3) (ret := (some .long)) (by decide +kernel) rfl (Nat.le_of_ble_eq_true rfl) ?_
  intro p e s m below meth c hx hb hr hml hlk hown hts hAm H hP hS ls hl
  have hown : s.vm.findClass RX3 = some m.cls := hown
  have hl : lv_has ls 3 [(0, .ref (F 0)), (1, .int (nI a)), (2, .int ix)] := hl
  have hinX3 : ∀ w ∈ u_ws RX3 TX3 8, w ∈ wsX3_root := by decide +kernel
  obtain ⟨hCa, hNa⟩ := hCP a (by omega)
  have h24a : dg a ≤ 24 := by rw [hNa]; exact h24 a (by omega)
  have hza : ∀ j, dg a < j → C a j = 0 := fun j hj => by rw [hCa]; exact hzz a (by omega) j (by rw [← hNa]; exact hj)
  have h48r : dg a ≤ 48 := by omega
  have hzl := zroots_len (C a) (dg a)
  refine lv_iload_n hx hb dX3_root_0 rfl (lv_at hl 1 rfl) ?_
  refine zcallS (As := [.int (nI a)]) (rest := []) (k := 1) hx hb hml hown hts (kX3_isSeries l D cL cI cR A F 7 (zME cL cI F C dg (vals, found, waits, roots, looks)) (nI a) 1 (if_pos (zin_nI (a := 7) (by omega) (by decide))).symm) gX3_root_X3_isSeries rfl (by decide +kernel) ⟨Nat.le_of_ble_eq_true rfl, Nat.le_of_ble_eq_true rfl⟩ hAm hP hS rfl hl.1 rfl (Nat.le_of_ble_eq_true rfl) dX3_root_1 ⟨Nat.zero_le _, Nat.zero_le _⟩ (zkn (fun H locs hP hS => ?_))
  refine W.eq (g2 := F0 m 4 ls [.int (nI 1)]) rfl ?_
  refine zf_eq (tgt := 12) hx hb dX3_root_4 (by decide) (by omega) (fun c1 => ?_) (fun c1 => ?_)
  ·
    exfalso; omega
  ·
    refine lv_iload_n hx hb dX3_root_7 rfl (lv_at hl 2 rfl) ?_
    refine lv_iconst (v := (-1 : Int32)) hx hb dX3_root_8 (by decide +kernel) ?_
    refine lv_icmp_ge (tgt := 16) hx hb dX3_root_9 (by decide) (fun c2 => ?_) (fun c2 => ?_)
    ·
      refine lv_aload_n hx hb dX3_root_16 rfl (lv_at hl 0 rfl) ?_
      refine lv_iload_n hx hb dX3_root_17 rfl (lv_at hl 1 rfl) ?_
      refine zcallV (As := [.int (nI a)]) (rest := []) (q := 0) (k := 1) hx hb hml hown hts (kX3_searches l D cL cI cR A F hF C dg vals found waits roots looks a (by omega) h48r) gX3_root_X3_searches rfl (by decide +kernel) ⟨Nat.le_of_ble_eq_true rfl, Nat.le_of_ble_eq_true rfl⟩ rfl (by omega) (zM_o) rfl rfl hAm hP hS rfl hl.1 rfl (Nat.le_of_ble_eq_true rfl) dX3_root_18 ⟨Nat.zero_le _, Nat.zero_le _⟩ (fun v9 E9 H locs hPQ9 hP _ hS => ?_)
      obtain ⟨fd2, ws2, rfl, rfl, hrt2⟩ := hPQ9
      skip
      refine W.eq (g2 := F0 m 21 ls []) rfl ?_
      refine lv_iload_n hx hb dX3_root_21 rfl (lv_at hl 2 rfl) ?_
      refine lv_if_ge (tgt := 33) hx hb dX3_root_22 (by decide) (fun c3 => ?_) (fun c3 => ?_)
      ·
        have hne : ¬ ix = -1 := fun h => by have h9 := c3; rw [h] at h9; exact absurd h9 (by decide)
        refine lv_iload_n hx hb dX3_root_33 rfl (lv_at hl 2 rfl) ?_
        refine lv_aload_n hx hb dX3_root_34 rfl (lv_at hl 0 rfl) ?_
        refine zget (q := 0) (k := 4) (v := .int (nI ((zroots (C a) (dg a)).1.length))) hx hb hts hinX3 hown hAm hP (by omega) (zM_o) rfl (by decide) (hts (.fieldLink RX3 155 "CosineSeriesModel" "roots" "I") (by decide +kernel)) (by first | rfl | simp [va_up, *]) dX3_root_35 ?_
        refine lv_icmp_ge (tgt := 51) hx hb dX3_root_38 (by decide) (fun c4 => ?_) (fun c4 => ?_)
        ·
          refine lv_ldc2 hx hb hown (hts (.constantLong RX3 130 (-9000000000000000004)) (by decide +kernel)) dX3_root_51 ?_
          exact zretL hx hb hr hlk hS hP dX3_root_54 ⟨_, _, _, rfl, by rw [← hCa, ← hNa]; unfold zrootr; rw [if_neg hne, if_neg (by have h9 := c4; rw [Int32.le_iff_toInt_le, nI_toInt (by omega)] at h9; omega)], hCP, fun _ _ => rfl⟩
        ·
          obtain ⟨j, hj, hje⟩ := zidx hix hne c4 hzl.1
          have hl : lv_has ls 3 [(0, .ref (F 0)), (1, .int (nI a)), (2, .int (nI j))] := by rw [hje] at hl; exact hl
          refine lv_aload_n hx hb dX3_root_41 rfl (lv_at hl 0 rfl) ?_
          refine zget (q := 0) (k := 5) (v := .ref (F 5)) hx hb hts hinX3 hown hAm hP (by omega) (zM_o) rfl (by decide) (hts (.fieldLink RX3 31 "CosineSeriesModel" "found" "[I") (by decide +kernel)) (by first | rfl | simp [va_up, *]) dX3_root_42 ?_
          refine lv_iload_n hx hb dX3_root_45 rfl (lv_at hl 2 rfl) ?_
          refine ziald (q := 5) (k := j) (v := (fd2 j)) hx hb hAm hP (by omega) (zM_f) (by omega) (by decide) (by first | rfl | simp [va_up, *]) dX3_root_46 ?_
          refine lv_i2l (v := (fd2 j).toInt64) hx hb dX3_root_47 rfl ?_
          refine lv_goto (tgt := 54) hx hb dX3_root_48 (by decide) ?_
          exact zretL hx hb hr hlk hS hP dX3_root_54 ⟨_, _, _, rfl, by rw [← hCa, ← hNa]; unfold zrootr; rw [if_neg hne, if_pos (by rw [hje, nI_toInt (by omega)]; omega), hje, nI_toInt (by omega), zrtsI_get _ hrt2 j hj]; rfl, hCP, fun _ _ => rfl⟩
      ·
        have hm1 : ix = -1 := zix c3 hix
        refine lv_aload_n hx hb dX3_root_25 rfl (lv_at hl 0 rfl) ?_
        refine zget (q := 0) (k := 4) (v := .int (nI ((zroots (C a) (dg a)).1.length))) hx hb hts hinX3 hown hAm hP (by omega) (zM_o) rfl (by decide) (hts (.fieldLink RX3 155 "CosineSeriesModel" "roots" "I") (by decide +kernel)) (by first | rfl | simp [va_up, *]) dX3_root_26 ?_
        refine zi2l hx hb (by omega) dX3_root_29 ?_
        refine lv_goto (tgt := 54) hx hb dX3_root_30 (by decide) ?_
        exact zretL hx hb hr hlk hS hP dX3_root_54 ⟨_, _, _, rfl, by rw [← hCa, ← hNa]; unfold zrootr; rw [if_pos hm1], hCP, fun _ _ => rfl⟩
    ·
      exact absurd (by rw [Int32.le_iff_toInt_le]; exact hix) c2

set_option maxHeartbeats 4000000 in
set_option maxRecDepth 100000 in
theorem kX3_intervals (l : Launch) (D : va_G) (cL cI cR : ClassId) (A : Nat → Prop) (F : Nat → Nat) (hF : zq_F A F 7) (C : Nat → Nat → Int64) (dg : Nat → Nat) (vals found waits : Nat → Int32) (roots looks : Nat) (P : Nat → Nat → Int64) (n0 : Nat → Nat) (hCP : ∀ i, i < 8 → C i = P i ∧ dg i = n0 i) (h24 : ∀ i, i < 8 → n0 i ≤ 24) (hzz : ∀ i, i < 8 → ∀ j, n0 i < j → P i j = 0) (a : Nat) (ha : a ≤ 7) : zCt l yX3_intervals wsX3_intervals 4 109 D cL cI cR A F 7 (zME cL cI F C dg (vals, found, waits, roots, looks)) [.ref (F 0), .int (nI a)] (zPM cL cI F (lN (zroots (P a) (n0 a)).2) P n0 vals) := by
  refine zStart (cc := cX3_intervals) (maxL := 2) (ret := (some .long)) (by decide +kernel) rfl (Nat.le_of_ble_eq_true rfl) ?_
  intro p e s m below meth c hx hb hr hml hlk hown hts hAm H hP hS ls hl
  have hown : s.vm.findClass RX3 = some m.cls := hown
  have hl : lv_has ls 2 [(0, .ref (F 0)), (1, .int (nI a))] := hl
  have hinX3 : ∀ w ∈ u_ws RX3 TX3 8, w ∈ wsX3_intervals := by decide +kernel
  obtain ⟨hCa, hNa⟩ := hCP a (by omega)
  have h24a : dg a ≤ 24 := by rw [hNa]; exact h24 a (by omega)
  have hza : ∀ j, dg a < j → C a j = 0 := fun j hj => by rw [hCa]; exact hzz a (by omega) j (by rw [← hNa]; exact hj)
  have h48r : dg a ≤ 48 := by omega
  have hzl := zroots_len (C a) (dg a)
  refine lv_iload_n hx hb dX3_intervals_0 rfl (lv_at hl 1 rfl) ?_
  refine zcallS (As := [.int (nI a)]) (rest := []) (k := 1) hx hb hml hown hts (kX3_isSeries l D cL cI cR A F 7 (zME cL cI F C dg (vals, found, waits, roots, looks)) (nI a) 1 (if_pos (zin_nI (a := 7) (by omega) (by decide))).symm) gX3_intervals_X3_isSeries rfl (by decide +kernel) ⟨Nat.le_of_ble_eq_true rfl, Nat.le_of_ble_eq_true rfl⟩ hAm hP hS rfl hl.1 rfl (Nat.le_of_ble_eq_true rfl) dX3_intervals_1 ⟨Nat.zero_le _, Nat.zero_le _⟩ (zkn (fun H locs hP hS => ?_))
  refine W.eq (g2 := F0 m 4 ls [.int (nI 1)]) rfl ?_
  refine zf_ne (tgt := 11) hx hb dX3_intervals_4 (by decide) (by omega) (fun c1 => ?_) (fun c1 => ?_)
  ·
    refine lv_aload_n hx hb dX3_intervals_11 rfl (lv_at hl 0 rfl) ?_
    refine lv_iload_n hx hb dX3_intervals_12 rfl (lv_at hl 1 rfl) ?_
    refine zcallV (As := [.int (nI a)]) (rest := []) (q := 0) (k := 1) hx hb hml hown hts (kX3_searches l D cL cI cR A F hF C dg vals found waits roots looks a (by omega) h48r) gX3_intervals_X3_searches rfl (by decide +kernel) ⟨Nat.le_of_ble_eq_true rfl, Nat.le_of_ble_eq_true rfl⟩ rfl (by omega) (zM_o) rfl rfl hAm hP hS rfl hl.1 rfl (Nat.le_of_ble_eq_true rfl) dX3_intervals_13 ⟨Nat.zero_le _, Nat.zero_le _⟩ (fun v9 E9 H locs hPQ9 hP _ hS => ?_)
    obtain ⟨fd2, ws2, rfl, rfl, hrt2⟩ := hPQ9
    skip
    refine W.eq (g2 := F0 m 16 ls []) rfl ?_
    refine lv_aload_n hx hb dX3_intervals_16 rfl (lv_at hl 0 rfl) ?_
    refine zget (q := 0) (k := 6) (v := .int (nI ((zroots (C a) (dg a)).2))) hx hb hts hinX3 hown hAm hP (by omega) (zM_o) rfl (by decide) (hts (.fieldLink RX3 159 "CosineSeriesModel" "looks" "I") (by decide +kernel)) (by first | rfl | simp [va_up, *]) dX3_intervals_17 ?_
    refine zi2l hx hb (by omega) dX3_intervals_20 ?_
    exact zretL hx hb hr hlk hS hP dX3_intervals_21 ⟨_, _, _, rfl, by rw [hCa, hNa], hCP, fun _ _ => rfl⟩
  ·
    exfalso; omega

set_option maxHeartbeats 4000000 in
set_option maxRecDepth 100000 in
theorem kX3_greatest (l : Launch) (D : va_G) (cL cI cR : ClassId) (A : Nat → Prop) (F : Nat → Nat) (hF : zq_F A F 7) (C : Nat → Nat → Int64) (dg : Nat → Nat) (vals found waits : Nat → Int32) (roots looks : Nat) (P : Nat → Nat → Int64) (n0 : Nat → Nat) (hCP : ∀ i, i < 8 → C i = P i ∧ dg i = n0 i) (h24 : ∀ i, i < 8 → n0 i ≤ 24) (hzz : ∀ i, i < 8 → ∀ j, n0 i < j → P i j = 0) (a : Nat) (ha : a ≤ 7) (hov : zke (zder (P a) (n0 a)) = 0 ∨ zke (zder (P a) (n0 a)) = -9000000000000000003) : zCt l yX3_greatest wsX3_greatest 4 109 D cL cI cR A F 7 (zME cL cI F C dg (vals, found, waits, roots, looks)) [.ref (F 0), .int (nI a)] (zPM cL cI F (zgr (P a) (n0 a)) P n0 vals) := by
  refine zStart (cc := cX3_greatest) (maxL := 9) (ret := (some .long)) (by decide +kernel) rfl (Nat.le_of_ble_eq_true rfl) ?_
  intro p e s m below meth c hx hb hr hml hlk hown hts hAm H hP hS ls hl
  have hown : s.vm.findClass RX3 = some m.cls := hown
  have hl : lv_has ls 9 [(0, .ref (F 0)), (1, .int (nI a))] := hl
  have hinX3 : ∀ w ∈ u_ws RX3 TX3 8, w ∈ wsX3_greatest := by decide +kernel
  obtain ⟨hCa, hNa⟩ := hCP a (by omega)
  have h24a : dg a ≤ 24 := by rw [hNa]; exact h24 a (by omega)
  have hza : ∀ j, dg a < j → C a j = 0 := fun j hj => by rw [hCa]; exact hzz a (by omega) j (by rw [← hNa]; exact hj)
  obtain ⟨f2, hf2⟩ : ∃ f : Nat → Int64, f = zder (C a) (dg a) := ⟨_, rfl⟩
  rw [← hCa, ← hNa, ← hf2] at hov
  have h48g := ztop_le f2 48
  have h48r : va_up dg 8 (ztop f2 48) 8 ≤ 48 := by rw [va_up_eq]; exact h48g
  have hzl := zroots_len f2 (ztop f2 48)
  have hf2z : ∀ j, dg a < j → f2 j = 0 := by rw [hf2]; exact zder_0 _ _
  refine lv_iload_n hx hb dX3_greatest_0 rfl (lv_at hl 1 rfl) ?_
  refine zcallS (As := [.int (nI a)]) (rest := []) (k := 1) hx hb hml hown hts (kX3_isSeries l D cL cI cR A F 7 (zME cL cI F C dg (vals, found, waits, roots, looks)) (nI a) 1 (if_pos (zin_nI (a := 7) (by omega) (by decide))).symm) gX3_greatest_X3_isSeries rfl (by decide +kernel) ⟨Nat.le_of_ble_eq_true rfl, Nat.le_of_ble_eq_true rfl⟩ hAm hP hS rfl hl.1 rfl (Nat.le_of_ble_eq_true rfl) dX3_greatest_1 ⟨Nat.zero_le _, Nat.zero_le _⟩ (zkn (fun H locs hP hS => ?_))
  refine W.eq (g2 := F0 m 4 ls [.int (nI 1)]) rfl ?_
  refine zf_ne (tgt := 11) hx hb dX3_greatest_4 (by decide) (by omega) (fun c1 => ?_) (fun c1 => ?_)
  ·
    refine lv_aload_n hx hb dX3_greatest_11 rfl (lv_at hl 0 rfl) ?_
    refine lv_iload_n hx hb dX3_greatest_12 rfl (lv_at hl 1 rfl) ?_
    refine zcallV (As := [.int (nI a)]) (rest := []) (q := 0) (k := 1) hx hb hml hown hts (kX3_derives l D cL cI cR A F hF C dg (vals, found, waits, roots, looks) a (by omega) (by omega) h24a) gX3_greatest_X3_derives rfl (by decide +kernel) ⟨Nat.le_of_ble_eq_true rfl, Nat.le_of_ble_eq_true rfl⟩ rfl (by omega) (zM_o) rfl rfl hAm hP hS rfl hl.1 rfl (Nat.le_of_ble_eq_true rfl) dX3_greatest_13 ⟨Nat.zero_le _, Nat.zero_le _⟩ (zkn (fun H locs hP hS => ?_))
    refine W.eq (g2 := F0 m 16 ls []) rfl ?_
    have hP : va_P D vwCl (zq_wd F 7 (zME cL cI F (va_up C 8 f2) (va_up dg 8 (dg a)) (vals, found, waits, roots, looks))) H := by rw [hf2]; exact hP
    refine lv_aload_n hx hb dX3_greatest_16 rfl (lv_at hl 0 rfl) ?_
    refine lv_bipush (v := nI 8) hx hb dX3_greatest_17 (by decide +kernel) ?_
    refine zcallV (As := [.int (nI 8)]) (rest := []) (q := 0) (k := 1) hx hb hml hown hts (kX3_trims l D cL cI cR A F hF (va_up C 8 f2) (va_up dg 8 (dg a)) (vals, found, waits, roots, looks) 8 (by omega) f2 (by first | rfl | simp [va_up, *]) (dg a) (by first | rfl | simp [va_up, *]) (by omega) hf2z (va_up dg 8 (ztop f2 48)) (by first | rfl | simp only [bx_uu])) gX3_greatest_X3_trims rfl (by decide +kernel) ⟨Nat.le_of_ble_eq_true rfl, Nat.le_of_ble_eq_true rfl⟩ rfl (by omega) (zM_o) rfl rfl hAm hP hS rfl hl.1 rfl (Nat.le_of_ble_eq_true rfl) dX3_greatest_19 ⟨Nat.zero_le _, Nat.zero_le _⟩ (zkn (fun H locs hP hS => ?_))
    refine W.eq (g2 := F0 m 22 ls [.long (zke f2)]) rfl ?_
    refine lv_lconst (v := (0 : Int64)) hx hb dX3_greatest_22 (by decide +kernel) ?_
    refine zl_eq (tgt := 31) hx hb dX3_greatest_23 dX3_greatest_24 (by decide) (fun c2 => ?_) (fun c2 => ?_)
    ·
      have hke := c2
      refine lv_aload_n hx hb dX3_greatest_31 rfl (lv_at hl 0 rfl) ?_
      refine lv_bipush (v := nI 8) hx hb dX3_greatest_32 (by decide +kernel) ?_
      refine zcallV (As := [.int (nI 8)]) (rest := []) (q := 0) (k := 1) hx hb hml hown hts (kX3_searches l D cL cI cR A F hF (va_up C 8 f2) (va_up dg 8 (ztop f2 48)) vals found waits roots looks 8 (by omega) h48r) gX3_greatest_X3_searches rfl (by decide +kernel) ⟨Nat.le_of_ble_eq_true rfl, Nat.le_of_ble_eq_true rfl⟩ rfl (by omega) (zM_o) rfl rfl hAm hP hS rfl hl.1 rfl (Nat.le_of_ble_eq_true rfl) dX3_greatest_34 ⟨Nat.zero_le _, Nat.zero_le _⟩ (fun v9 E9 H locs hPQ9 hP _ hS => ?_)
      obtain ⟨fd2, ws2, rfl, rfl, hrt2⟩ := hPQ9
      rw [va_up_eq, va_up_eq] at hP hrt2
      refine W.eq (g2 := F0 m 37 ls []) rfl ?_
      refine lv_aload_n hx hb dX3_greatest_37 rfl (lv_at hl 0 rfl) ?_
      refine lv_iload_n hx hb dX3_greatest_38 rfl (lv_at hl 1 rfl) ?_
      refine lv_ldc2 hx hb hown (hts (.constantLong RX3 43 (-1048576)) (by decide +kernel)) dX3_greatest_39 ?_
      refine zcallV (As := [.int (nI a), .long (-1048576 : Int64)]) (rest := []) (q := 0) (k := 2) hx hb hml hown hts (kX3_valueAt l D cL cI cR A F hF (va_up C 8 f2) (va_up dg 8 (ztop f2 48)) (vals, fd2, ws2, (zroots f2 (ztop f2 48)).1.length, (zroots f2 (ztop f2 48)).2) a (by omega) (-1048576) (C a) (zup8 _ _ (by omega)) (dg a) (zup8 _ _ (by omega)) (by omega)) gX3_greatest_X3_valueAt rfl (by decide +kernel) ⟨Nat.le_of_ble_eq_true rfl, Nat.le_of_ble_eq_true rfl⟩ rfl (by omega) (zM_o) rfl rfl hAm hP hS rfl hl.1 rfl (Nat.le_of_ble_eq_true rfl) dX3_greatest_42 ⟨Nat.zero_le _, Nat.zero_le _⟩ (zkn (fun H locs hP hS => ?_))
      refine W.eq (g2 := F0 m 45 ls [.long (zval (C a) (dg a) (-1048576))]) rfl ?_
      refine lv_lstore_n (lv' := [(2, .long (zval (C a) (dg a) (-1048576))), (0, .ref (F 0)), (1, .int (nI a))]) hx hb dX3_greatest_45 rfl hl (by decide) rfl (fun ls hl => ?_)
      refine lv_aload_n hx hb dX3_greatest_46 rfl (lv_at hl 1 rfl) ?_
      refine lv_iload_n hx hb dX3_greatest_47 rfl (lv_at hl 2 rfl) ?_
      refine lv_ldc2 hx hb hown (hts (.constantLong RX3 45 (1048576)) (by decide +kernel)) dX3_greatest_48 ?_
      refine zcallV (As := [.int (nI a), .long (1048576 : Int64)]) (rest := []) (q := 0) (k := 2) hx hb hml hown hts (kX3_valueAt l D cL cI cR A F hF (va_up C 8 f2) (va_up dg 8 (ztop f2 48)) (vals, fd2, ws2, (zroots f2 (ztop f2 48)).1.length, (zroots f2 (ztop f2 48)).2) a (by omega) 1048576 (C a) (zup8 _ _ (by omega)) (dg a) (zup8 _ _ (by omega)) (by omega)) gX3_greatest_X3_valueAt rfl (by decide +kernel) ⟨Nat.le_of_ble_eq_true rfl, Nat.le_of_ble_eq_true rfl⟩ rfl (by omega) (zM_o) rfl rfl hAm hP hS rfl hl.1 rfl (Nat.le_of_ble_eq_true rfl) dX3_greatest_51 ⟨Nat.zero_le _, Nat.zero_le _⟩ (zkn (fun H locs hP hS => ?_))
      refine W.eq (g2 := F0 m 54 ls [.long (zval (C a) (dg a) 1048576)]) rfl ?_
      refine lv_lstore (lv' := [(4, .long (zval (C a) (dg a) 1048576)), (2, .long (zval (C a) (dg a) (-1048576))), (0, .ref (F 0)), (1, .int (nI a))]) hx hb dX3_greatest_54 hl (by decide) rfl (fun ls hl => ?_)
      refine lv_lload hx hb dX3_greatest_56 (lv_at hl 0 rfl) ?_
      refine lv_lload_n hx hb dX3_greatest_58 rfl (lv_at hl 1 rfl) ?_
      refine zl_le (tgt := 68) hx hb dX3_greatest_59 dX3_greatest_60 (by decide) (fun c3 => ?_) (fun c3 => ?_)
      ·
        have hm0 := zmaxle c3
        refine lv_lload_n hx hb dX3_greatest_68 rfl (lv_at hl 1 rfl) ?_
        refine lv_lstore_n (lv' := [(2, .long (zval (C a) (dg a) (-1048576))), (4, .long (zval (C a) (dg a) 1048576)), (0, .ref (F 0)), (1, .int (nI a))]) hx hb dX3_greatest_69 rfl hl (by decide) rfl (fun ls hl => ?_)
        refine lv_iconst (v := nI 0) hx hb dX3_greatest_70 (by decide +kernel) ?_
        refine lv_istore (lv' := [(6, .int (nI 0)), (2, .long (zval (C a) (dg a) (-1048576))), (4, .long (zval (C a) (dg a) 1048576)), (0, .ref (F 0)), (1, .int (nI a))]) hx hb dX3_greatest_71 hl (by decide) rfl (fun ls hl => ?_)
        have L73 : ∀ (n : Nat) (k : Nat) (u : Int64) (hk : k ≤ (zroots f2 (ztop f2 48)).1.length) (hu : u = zgm (C a) (dg a) (zroots f2 (ztop f2 48)).1 k) (hn : (zroots f2 (ztop f2 48)).1.length - k < n) (H : Heap) (locs : List Loc), va_P D vwCl (zq_wd F 7 (zME cL cI F (va_up C 8 f2) (va_up dg 8 (ztop f2 48)) (vals, fd2, ws2, (zroots f2 (ztop f2 48)).1.length, (zroots f2 (ztop f2 48)).2))) H → va_S A s.heap H locs → ∀ (ls : Array Slot), lv_has ls 9 [(0, .ref (F 0)), (1, .int (nI a)), (2, .long u), (6, .int (nI k))] → W p l e ({ frames := 4, cells := 0, slots := 0, locals := 109 }) s m ([.ref (F 0), .int (nI a)] : List Value).toArray below meth c H locs 0 0 (zQ below D A F 7 [.ref (F 0), .int (nI a)] s (zPM cL cI F (zgr (P a) (n0 a)) P n0 vals)) (F0 m 73 ls []) := by
          intro n
          induction n with
          | zero =>
            intro k u hk hu hn
            exact absurd hn (Nat.not_lt_zero _)
          | succ n ih73 =>
            intro k u hk hu hn H locs hP hS ls hl
            refine lv_iload hx hb dX3_greatest_73 (lv_at hl 3 rfl) ?_
            refine lv_aload_n hx hb dX3_greatest_75 rfl (lv_at hl 0 rfl) ?_
            refine zget (q := 0) (k := 4) (v := .int (nI ((zroots f2 (ztop f2 48)).1.length))) hx hb hts hinX3 hown hAm hP (by omega) (zM_o) rfl (by decide) (hts (.fieldLink RX3 155 "CosineSeriesModel" "roots" "I") (by decide +kernel)) (by first | rfl | simp [va_up, *]) dX3_greatest_76 ?_
            refine zi_ge (tgt := 117) hx hb dX3_greatest_79 (by decide) (by omega) (by omega) (fun c4 => ?_) (fun c4 => ?_)
            ·
              refine lv_lload_n hx hb dX3_greatest_117 rfl (lv_at hl 2 rfl) ?_
              exact zretL hx hb hr hlk hS hP dX3_greatest_118 ⟨_, _, _, rfl, by rw [← hCa, ← hNa]; unfold zgr; rw [← hf2, if_pos hke, hu, show k = (zroots f2 (ztop f2 48)).1.length by omega], zend_8 hCP, fun _ _ => rfl⟩
            ·
              refine lv_aload_n hx hb dX3_greatest_82 rfl (lv_at hl 0 rfl) ?_
              refine lv_iload_n hx hb dX3_greatest_83 rfl (lv_at hl 1 rfl) ?_
              refine lv_aload_n hx hb dX3_greatest_84 rfl (lv_at hl 0 rfl) ?_
              refine zget (q := 0) (k := 5) (v := .ref (F 5)) hx hb hts hinX3 hown hAm hP (by omega) (zM_o) rfl (by decide) (hts (.fieldLink RX3 31 "CosineSeriesModel" "found" "[I") (by decide +kernel)) (by first | rfl | simp [va_up, *]) dX3_greatest_85 ?_
              refine lv_iload hx hb dX3_greatest_88 (lv_at hl 3 rfl) ?_
              refine ziald (q := 5) (k := k) (v := (fd2 k)) hx hb hAm hP (by omega) (zM_f) (by omega) (by decide) (by first | rfl | simp [va_up, *]) dX3_greatest_90 ?_
              refine lv_i2l (v := (fd2 k).toInt64) hx hb dX3_greatest_91 rfl ?_
              refine W.eq (g2 := F0 m 92 ls [.long (zgetr (zroots f2 (ztop f2 48)).1 k), .int (nI a), .ref (F 0)]) (by rw [zrtsI_get _ hrt2 k (by omega)]) ?_
              refine zcallV (As := [.int (nI a), .long (zgetr (zroots f2 (ztop f2 48)).1 k)]) (rest := []) (q := 0) (k := 2) hx hb hml hown hts (kX3_valueAt l D cL cI cR A F hF (va_up C 8 f2) (va_up dg 8 (ztop f2 48)) (vals, fd2, ws2, (zroots f2 (ztop f2 48)).1.length, (zroots f2 (ztop f2 48)).2) a (by omega) (zgetr (zroots f2 (ztop f2 48)).1 k) (C a) (zup8 _ _ (by omega)) (dg a) (zup8 _ _ (by omega)) (by omega)) gX3_greatest_X3_valueAt rfl (by decide +kernel) ⟨Nat.le_of_ble_eq_true rfl, Nat.le_of_ble_eq_true rfl⟩ rfl (by omega) (zM_o) rfl rfl hAm hP hS rfl hl.1 rfl (Nat.le_of_ble_eq_true rfl) dX3_greatest_92 ⟨Nat.zero_le _, Nat.zero_le _⟩ (zkn (fun H locs hP hS => ?_))
              refine W.eq (g2 := F0 m 95 ls [.long (zval (C a) (dg a) (zgetr (zroots f2 (ztop f2 48)).1 k))]) rfl ?_
              refine lv_lstore (lv' := [(7, .long (zval (C a) (dg a) (zgetr (zroots f2 (ztop f2 48)).1 k))), (0, .ref (F 0)), (1, .int (nI a)), (2, .long u), (6, .int (nI k))]) hx hb dX3_greatest_95 hl (by decide) rfl (fun ls hl => ?_)
              refine lv_lload hx hb dX3_greatest_97 (lv_at hl 0 rfl) ?_
              refine lv_lload_n hx hb dX3_greatest_99 rfl (lv_at hl 3 rfl) ?_
              refine zl_le (tgt := 109) hx hb dX3_greatest_100 dX3_greatest_101 (by decide) (fun c5 => ?_) (fun c5 => ?_)
              ·
                have hmx := zmaxle c5
                refine lv_lload_n hx hb dX3_greatest_109 rfl (lv_at hl 3 rfl) ?_
                refine lv_lstore_n (lv' := [(2, .long u), (7, .long (zval (C a) (dg a) (zgetr (zroots f2 (ztop f2 48)).1 k))), (0, .ref (F 0)), (1, .int (nI a)), (6, .int (nI k))]) hx hb dX3_greatest_110 rfl hl (by decide) rfl (fun ls hl => ?_)
                refine lv_iinc (v := (nI (k + 1))) (lv' := [(6, .int (nI (k + 1))), (2, .long u), (7, .long (zval (C a) (dg a) (zgetr (zroots f2 (ztop f2 48)).1 k))), (0, .ref (F 0)), (1, .int (nI a))]) hx hb dX3_greatest_111 hl (k := 4) rfl (zinc (by omega)) (by decide) rfl (fun ls hl => ?_)
                refine lv_goto (tgt := 73) hx hb dX3_greatest_114 (by decide) ?_
                exact ih73 (k + 1) u (by omega) (by rw [hmx, hu]; rfl) (by omega) H _ hP hS ls (lv_sub hl [3, 4, 1, 0] rfl)
              ·
                have hmx := zmaxlt c5
                refine lv_lload hx hb dX3_greatest_104 (lv_at hl 0 rfl) ?_
                refine lv_goto (tgt := 110) hx hb dX3_greatest_106 (by decide) ?_
                refine lv_lstore_n (lv' := [(2, .long (zval (C a) (dg a) (zgetr (zroots f2 (ztop f2 48)).1 k))), (7, .long (zval (C a) (dg a) (zgetr (zroots f2 (ztop f2 48)).1 k))), (0, .ref (F 0)), (1, .int (nI a)), (6, .int (nI k))]) hx hb dX3_greatest_110 rfl hl (by decide) rfl (fun ls hl => ?_)
                refine lv_iinc (v := (nI (k + 1))) (lv' := [(6, .int (nI (k + 1))), (2, .long (zval (C a) (dg a) (zgetr (zroots f2 (ztop f2 48)).1 k))), (7, .long (zval (C a) (dg a) (zgetr (zroots f2 (ztop f2 48)).1 k))), (0, .ref (F 0)), (1, .int (nI a))]) hx hb dX3_greatest_111 hl (k := 4) rfl (zinc (by omega)) (by decide) rfl (fun ls hl => ?_)
                refine lv_goto (tgt := 73) hx hb dX3_greatest_114 (by decide) ?_
                exact ih73 (k + 1) (zval (C a) (dg a) (zgetr (zroots f2 (ztop f2 48)).1 k)) (by omega) (by rw [hmx, hu]; rfl) (by omega) H _ hP hS ls (lv_sub hl [3, 4, 1, 0] rfl)
        exact L73 _ 0 _ (by omega) (by rw [hm0]; rfl) (Nat.lt_succ_self _) H _ hP hS ls (lv_sub hl [3, 4, 1, 0] rfl)
      ·
        have hm0 := zmaxlt c3
        refine lv_lload hx hb dX3_greatest_63 (lv_at hl 0 rfl) ?_
        refine lv_goto (tgt := 69) hx hb dX3_greatest_65 (by decide) ?_
        refine lv_lstore_n (lv' := [(2, .long (zval (C a) (dg a) 1048576)), (4, .long (zval (C a) (dg a) 1048576)), (0, .ref (F 0)), (1, .int (nI a))]) hx hb dX3_greatest_69 rfl hl (by decide) rfl (fun ls hl => ?_)
        refine lv_iconst (v := nI 0) hx hb dX3_greatest_70 (by decide +kernel) ?_
        refine lv_istore (lv' := [(6, .int (nI 0)), (2, .long (zval (C a) (dg a) 1048576)), (4, .long (zval (C a) (dg a) 1048576)), (0, .ref (F 0)), (1, .int (nI a))]) hx hb dX3_greatest_71 hl (by decide) rfl (fun ls hl => ?_)
        have L73 : ∀ (n : Nat) (k : Nat) (u : Int64) (hk : k ≤ (zroots f2 (ztop f2 48)).1.length) (hu : u = zgm (C a) (dg a) (zroots f2 (ztop f2 48)).1 k) (hn : (zroots f2 (ztop f2 48)).1.length - k < n) (H : Heap) (locs : List Loc), va_P D vwCl (zq_wd F 7 (zME cL cI F (va_up C 8 f2) (va_up dg 8 (ztop f2 48)) (vals, fd2, ws2, (zroots f2 (ztop f2 48)).1.length, (zroots f2 (ztop f2 48)).2))) H → va_S A s.heap H locs → ∀ (ls : Array Slot), lv_has ls 9 [(0, .ref (F 0)), (1, .int (nI a)), (2, .long u), (6, .int (nI k))] → W p l e ({ frames := 4, cells := 0, slots := 0, locals := 109 }) s m ([.ref (F 0), .int (nI a)] : List Value).toArray below meth c H locs 0 0 (zQ below D A F 7 [.ref (F 0), .int (nI a)] s (zPM cL cI F (zgr (P a) (n0 a)) P n0 vals)) (F0 m 73 ls []) := by
          intro n
          induction n with
          | zero =>
            intro k u hk hu hn
            exact absurd hn (Nat.not_lt_zero _)
          | succ n ih73 =>
            intro k u hk hu hn H locs hP hS ls hl
            refine lv_iload hx hb dX3_greatest_73 (lv_at hl 3 rfl) ?_
            refine lv_aload_n hx hb dX3_greatest_75 rfl (lv_at hl 0 rfl) ?_
            refine zget (q := 0) (k := 4) (v := .int (nI ((zroots f2 (ztop f2 48)).1.length))) hx hb hts hinX3 hown hAm hP (by omega) (zM_o) rfl (by decide) (hts (.fieldLink RX3 155 "CosineSeriesModel" "roots" "I") (by decide +kernel)) (by first | rfl | simp [va_up, *]) dX3_greatest_76 ?_
            refine zi_ge (tgt := 117) hx hb dX3_greatest_79 (by decide) (by omega) (by omega) (fun c6 => ?_) (fun c6 => ?_)
            ·
              refine lv_lload_n hx hb dX3_greatest_117 rfl (lv_at hl 2 rfl) ?_
              exact zretL hx hb hr hlk hS hP dX3_greatest_118 ⟨_, _, _, rfl, by rw [← hCa, ← hNa]; unfold zgr; rw [← hf2, if_pos hke, hu, show k = (zroots f2 (ztop f2 48)).1.length by omega], zend_8 hCP, fun _ _ => rfl⟩
            ·
              refine lv_aload_n hx hb dX3_greatest_82 rfl (lv_at hl 0 rfl) ?_
              refine lv_iload_n hx hb dX3_greatest_83 rfl (lv_at hl 1 rfl) ?_
              refine lv_aload_n hx hb dX3_greatest_84 rfl (lv_at hl 0 rfl) ?_
              refine zget (q := 0) (k := 5) (v := .ref (F 5)) hx hb hts hinX3 hown hAm hP (by omega) (zM_o) rfl (by decide) (hts (.fieldLink RX3 31 "CosineSeriesModel" "found" "[I") (by decide +kernel)) (by first | rfl | simp [va_up, *]) dX3_greatest_85 ?_
              refine lv_iload hx hb dX3_greatest_88 (lv_at hl 3 rfl) ?_
              refine ziald (q := 5) (k := k) (v := (fd2 k)) hx hb hAm hP (by omega) (zM_f) (by omega) (by decide) (by first | rfl | simp [va_up, *]) dX3_greatest_90 ?_
              refine lv_i2l (v := (fd2 k).toInt64) hx hb dX3_greatest_91 rfl ?_
              refine W.eq (g2 := F0 m 92 ls [.long (zgetr (zroots f2 (ztop f2 48)).1 k), .int (nI a), .ref (F 0)]) (by rw [zrtsI_get _ hrt2 k (by omega)]) ?_
              refine zcallV (As := [.int (nI a), .long (zgetr (zroots f2 (ztop f2 48)).1 k)]) (rest := []) (q := 0) (k := 2) hx hb hml hown hts (kX3_valueAt l D cL cI cR A F hF (va_up C 8 f2) (va_up dg 8 (ztop f2 48)) (vals, fd2, ws2, (zroots f2 (ztop f2 48)).1.length, (zroots f2 (ztop f2 48)).2) a (by omega) (zgetr (zroots f2 (ztop f2 48)).1 k) (C a) (zup8 _ _ (by omega)) (dg a) (zup8 _ _ (by omega)) (by omega)) gX3_greatest_X3_valueAt rfl (by decide +kernel) ⟨Nat.le_of_ble_eq_true rfl, Nat.le_of_ble_eq_true rfl⟩ rfl (by omega) (zM_o) rfl rfl hAm hP hS rfl hl.1 rfl (Nat.le_of_ble_eq_true rfl) dX3_greatest_92 ⟨Nat.zero_le _, Nat.zero_le _⟩ (zkn (fun H locs hP hS => ?_))
              refine W.eq (g2 := F0 m 95 ls [.long (zval (C a) (dg a) (zgetr (zroots f2 (ztop f2 48)).1 k))]) rfl ?_
              refine lv_lstore (lv' := [(7, .long (zval (C a) (dg a) (zgetr (zroots f2 (ztop f2 48)).1 k))), (0, .ref (F 0)), (1, .int (nI a)), (2, .long u), (6, .int (nI k))]) hx hb dX3_greatest_95 hl (by decide) rfl (fun ls hl => ?_)
              refine lv_lload hx hb dX3_greatest_97 (lv_at hl 0 rfl) ?_
              refine lv_lload_n hx hb dX3_greatest_99 rfl (lv_at hl 3 rfl) ?_
              refine zl_le (tgt := 109) hx hb dX3_greatest_100 dX3_greatest_101 (by decide) (fun c7 => ?_) (fun c7 => ?_)
              ·
                have hmx := zmaxle c7
                refine lv_lload_n hx hb dX3_greatest_109 rfl (lv_at hl 3 rfl) ?_
                refine lv_lstore_n (lv' := [(2, .long u), (7, .long (zval (C a) (dg a) (zgetr (zroots f2 (ztop f2 48)).1 k))), (0, .ref (F 0)), (1, .int (nI a)), (6, .int (nI k))]) hx hb dX3_greatest_110 rfl hl (by decide) rfl (fun ls hl => ?_)
                refine lv_iinc (v := (nI (k + 1))) (lv' := [(6, .int (nI (k + 1))), (2, .long u), (7, .long (zval (C a) (dg a) (zgetr (zroots f2 (ztop f2 48)).1 k))), (0, .ref (F 0)), (1, .int (nI a))]) hx hb dX3_greatest_111 hl (k := 4) rfl (zinc (by omega)) (by decide) rfl (fun ls hl => ?_)
                refine lv_goto (tgt := 73) hx hb dX3_greatest_114 (by decide) ?_
                exact ih73 (k + 1) u (by omega) (by rw [hmx, hu]; rfl) (by omega) H _ hP hS ls (lv_sub hl [3, 4, 1, 0] rfl)
              ·
                have hmx := zmaxlt c7
                refine lv_lload hx hb dX3_greatest_104 (lv_at hl 0 rfl) ?_
                refine lv_goto (tgt := 110) hx hb dX3_greatest_106 (by decide) ?_
                refine lv_lstore_n (lv' := [(2, .long (zval (C a) (dg a) (zgetr (zroots f2 (ztop f2 48)).1 k))), (7, .long (zval (C a) (dg a) (zgetr (zroots f2 (ztop f2 48)).1 k))), (0, .ref (F 0)), (1, .int (nI a)), (6, .int (nI k))]) hx hb dX3_greatest_110 rfl hl (by decide) rfl (fun ls hl => ?_)
                refine lv_iinc (v := (nI (k + 1))) (lv' := [(6, .int (nI (k + 1))), (2, .long (zval (C a) (dg a) (zgetr (zroots f2 (ztop f2 48)).1 k))), (7, .long (zval (C a) (dg a) (zgetr (zroots f2 (ztop f2 48)).1 k))), (0, .ref (F 0)), (1, .int (nI a))]) hx hb dX3_greatest_111 hl (k := 4) rfl (zinc (by omega)) (by decide) rfl (fun ls hl => ?_)
                refine lv_goto (tgt := 73) hx hb dX3_greatest_114 (by decide) ?_
                exact ih73 (k + 1) (zval (C a) (dg a) (zgetr (zroots f2 (ztop f2 48)).1 k)) (by omega) (by rw [hmx, hu]; rfl) (by omega) H _ hP hS ls (lv_sub hl [3, 4, 1, 0] rfl)
        exact L73 _ 0 _ (by omega) (by rw [hm0]; rfl) (Nat.lt_succ_self _) H _ hP hS ls (lv_sub hl [3, 4, 1, 0] rfl)
    ·
      refine lv_ldc2 hx hb hown (hts (.constantLong RX3 65 (-9000000000000000003)) (by decide +kernel)) dX3_greatest_27 ?_
      exact zretL hx hb hr hlk hS hP dX3_greatest_30 ⟨_, _, _, rfl, by rw [← hCa, ← hNa]; unfold zgr; rw [← hf2, if_neg c2, hov.resolve_left c2], zend_8 hCP, fun _ _ => rfl⟩
  ·
    exfalso; omega
