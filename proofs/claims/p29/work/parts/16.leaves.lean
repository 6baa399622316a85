/-! leaves: numbers alone -/
theorem zneg_iff (x : Int64) : x < 0 ↔ x.toInt < 0 := by
  rw [Int64.lt_iff_toInt_lt]
  rfl
theorem zxor_neg {v d : Int64} (hd : 0 < d) : (v ^^^ d) < 0 ↔ v < 0 := by
  have h1 : d.toBitVec.msb = false := by
    rw [Int64.lt_iff_toInt_lt] at hd
    have h2 : (0 : Int64).toInt = 0 := rfl
    rw [h2] at hd
    rw [BitVec.msb_eq_toInt]
    have h3 : d.toBitVec.toInt = d.toInt := rfl
    rw [h3]
    simp
    omega
  have e1 : ∀ x : Int64, x < 0 ↔ x.toBitVec.msb = true := by
    intro x
    rw [zneg_iff, BitVec.msb_eq_toInt]
    have h3 : x.toBitVec.toInt = x.toInt := rfl
    rw [h3]
    simp
  rw [e1, e1, Int64.toBitVec_xor, BitVec.msb_xor, h1]
  simp
theorem zint_tdiv (v d : Int) (hd : 0 < d) : (0 ≤ v → 0 ≤ v.tdiv d ∧ v.tdiv d ≤ v ∧ 0 ≤ v.tdiv d * d ∧ v.tdiv d * d ≤ v) ∧ (v < 0 → v ≤ v.tdiv d ∧ v.tdiv d ≤ 0 ∧ v ≤ v.tdiv d * d ∧ v.tdiv d * d ≤ 0) := by
  have key : ∀ w : Int, 0 ≤ w → 0 ≤ w.tdiv d ∧ w.tdiv d ≤ w ∧ 0 ≤ w.tdiv d * d ∧ w.tdiv d * d ≤ w := by
    intro w hw
    have h1 : 0 ≤ w.tdiv d := Int.tdiv_nonneg hw (Int.le_of_lt hd)
    have h2 : w.tdiv d ≤ w := Int.tdiv_le_self d hw
    have h3 : d * w.tdiv d ≤ w := Int.mul_tdiv_self_le hw
    have h4 : 0 ≤ w.tdiv d * d := Int.mul_nonneg h1 (Int.le_of_lt hd)
    rw [Int.mul_comm] at h3
    exact ⟨h1, h2, h4, h3⟩
  refine ⟨key v, fun hv => ?_⟩
  have h := key (-v) (by omega)
  rw [Int.neg_tdiv] at h
  have e : -(v.tdiv d) * d = -(v.tdiv d * d) := Int.neg_mul _ _
  rw [e] at h
  omega
theorem zdiv_int {v d : Int64} (hd : 0 < d) : (v / d * d).toInt = v.toInt.tdiv d.toInt * d.toInt := by
  have hd' : 0 < d.toInt := by
    rw [Int64.lt_iff_toInt_lt] at hd
    exact hd
  have hv1 := Int64.le_toInt v
  have hv2 := Int64.toInt_lt v
  have h := zint_tdiv v.toInt d.toInt hd'
  have e1 : (v / d).toInt = v.toInt.tdiv d.toInt := by
    rw [Int64.toInt_div]
    apply Int.bmod_eq_of_le <;> omega
  rw [Int64.toInt_mul, e1]
  apply Int.bmod_eq_of_le <;> omega
theorem zfl_pos {v d : Int64} (hd : 0 < d) (hv : ¬ v < 0) : zfl v d = v / d := by
  have hd' : 0 < d.toInt := by
    rw [Int64.lt_iff_toInt_lt] at hd
    exact hd
  rw [zneg_iff] at hv
  have h := zint_tdiv v.toInt d.toInt hd'
  unfold zfl
  rw [if_neg]
  rw [Int64.lt_iff_toInt_lt, zdiv_int hd]
  omega
theorem zfl_neg {v d : Int64} (hd : 0 < d) (hv : v < 0) (h : ¬ v / d * d = v) : zfl v d = v / d - 1 := by
  have hd' : 0 < d.toInt := by
    rw [Int64.lt_iff_toInt_lt] at hd
    exact hd
  rw [zneg_iff] at hv
  have h2 := zint_tdiv v.toInt d.toInt hd'
  have h3 : ¬ (v / d * d).toInt = v.toInt := fun e => h (Int64.toInt_inj.mp e)
  rw [zdiv_int hd] at h3
  unfold zfl
  rw [if_pos]
  rw [Int64.lt_iff_toInt_lt, zdiv_int hd]
  omega
theorem zfl_eq {v d : Int64} (h : v / d * d = v) : zfl v d = v / d := by
  unfold zfl
  rw [if_neg]
  rw [h]
  exact Int64.lt_irrefl
theorem zabs_ge {x : Int64} (h : 0 ≤ x) : zabs x = x := by
  unfold zabs
  split
  · rfl
  · rename_i h1
    have h2 : x = 0 := Int64.le_antisymm (Int64.not_lt.mp h1) h
    rw [h2]; rfl
theorem zabs_lt {x : Int64} (h : x < 0) : zabs x = -x := by
  unfold zabs
  rw [if_neg]
  intro h1
  exact Int64.lt_irrefl (Int64.lt_trans h h1)

set_option maxHeartbeats 4000000 in
set_option maxRecDepth 100000 in
theorem kX2_isOutside (l : Launch) (D : va_G) (cL cI cR : ClassId) (A : Nat → Prop) (F : Nat → Nat) (n : Nat) (E : Nat → va_E) (n1 l1 m1 : Int32) (b : Nat) (hv : b = zbN (n1 < l1 ∨ m1 < n1)) : zCt l yX2_isOutside wsX2_isOutside 0 0 D cL cI cR A F n E [.int n1, .int l1, .int m1] (fun v2 E2 => v2 = (some (.int (nI b))) ∧ E2 = E) := by
  refine zStart (cc := cX2_isOutside) (maxL := 3) (ret := (some .boolean)) (by decide +kernel) rfl (Nat.le_of_ble_eq_true rfl) ?_
  intro p e s m below meth c hx hb hr hml hlk hown hts hAm H hP hS ls hl
  have hown : s.vm.findClass RX2 = some m.cls := hown
  have hl : lv_has ls 3 [(0, .int n1), (1, .int l1), (2, .int m1)] := hl
  refine lv_iload_n hx hb dX2_isOutside_0 rfl (lv_at hl 0 rfl) ?_
  refine lv_iload_n hx hb dX2_isOutside_1 rfl (lv_at hl 1 rfl) ?_
  refine lv_icmp_lt (tgt := 10) hx hb dX2_isOutside_2 (by decide) (fun c1 => ?_) (fun c1 => ?_)
  ·
    refine lv_iconst (v := nI 1) hx hb dX2_isOutside_10 (by decide +kernel) ?_
    refine lv_goto (tgt := 15) hx hb dX2_isOutside_11 (by decide) ?_
    exact zretZ hx hb hr hlk hS hP (by first | rfl | (rw [hv]; unfold zbN; split <;> rfl)) dX2_isOutside_15 ⟨by rw [hv]; unfold zbN; rw [if_pos (Or.inl c1)], rfl⟩
  ·
    refine lv_iload_n hx hb dX2_isOutside_5 rfl (lv_at hl 0 rfl) ?_
    refine lv_iload_n hx hb dX2_isOutside_6 rfl (lv_at hl 2 rfl) ?_
    refine lv_icmp_le (tgt := 14) hx hb dX2_isOutside_7 (by decide) (fun c2 => ?_) (fun c2 => ?_)
    ·
      refine lv_iconst (v := nI 0) hx hb dX2_isOutside_14 (by decide +kernel) ?_
      exact zretZ hx hb hr hlk hS hP (by first | rfl | (rw [hv]; unfold zbN; split <;> rfl)) dX2_isOutside_15 ⟨by rw [hv]; unfold zbN; rw [if_neg (fun h => h.elim c1 (Int32.not_lt.mpr c2))], rfl⟩
    ·
      refine lv_iconst (v := nI 1) hx hb dX2_isOutside_10 (by decide +kernel) ?_
      refine lv_goto (tgt := 15) hx hb dX2_isOutside_11 (by decide) ?_
      exact zretZ hx hb hr hlk hS hP (by first | rfl | (rw [hv]; unfold zbN; split <;> rfl)) dX2_isOutside_15 ⟨by rw [hv]; unfold zbN; rw [if_pos (Or.inr (Int32.not_le.mp c2))], rfl⟩

set_option maxHeartbeats 4000000 in
set_option maxRecDepth 100000 in
theorem kJ9_floorDiv_f86c9 (l : Launch) (D : va_G) (cL cI cR : ClassId) (A : Nat → Prop) (F : Nat → Nat) (n : Nat) (E : Nat → va_E) (v0 d0 : Int64) (hd : 0 < d0) : zCt l yJ9_floorDiv_f86c9 wsJ9_floorDiv_f86c9 0 0 D cL cI cR A F n E [.long v0, .long d0] (fun v2 E2 => v2 = (some (.long (zfl v0 d0))) ∧ E2 = E) := by
  refine zStartF (cc := cJ9_floorDiv_f86c9) (maxL := 6) (ret := (some .long)) (by decide +kernel) rfl (Nat.le_of_ble_eq_true rfl) ?_
  intro p e s m below meth c hx hb hr hml hlk hown hts hAm H hP hS ls hl
  have hown : s.vm.findClass RJ9 = some m.cls := hown
  have hl : lv_has ls 6 [(0, .long v0), (2, .long d0)] := hl
  refine lv_lload_n hx hb dJ9_floorDiv_f86c9_0 rfl (lv_at hl 0 rfl) ?_
  refine lv_lload_n hx hb dJ9_floorDiv_f86c9_1 rfl (lv_at hl 1 rfl) ?_
  refine lv_ldiv hx hb dJ9_floorDiv_f86c9_2 (fun h => absurd hd (by rw [h]; exact Int64.lt_irrefl)) ?_
  refine lv_lstore (lv' := [(4, .long (v0 / d0)), (0, .long v0), (2, .long d0)]) hx hb dJ9_floorDiv_f86c9_3 hl (by decide) rfl (fun ls hl => ?_)
  refine lv_lload_n hx hb dJ9_floorDiv_f86c9_5 rfl (lv_at hl 1 rfl) ?_
  refine lv_lload_n hx hb dJ9_floorDiv_f86c9_6 rfl (lv_at hl 2 rfl) ?_
  refine lv_lxor hx hb dJ9_floorDiv_f86c9_7 ?_
  refine lv_lconst (v := (0 : Int64)) hx hb dJ9_floorDiv_f86c9_8 (by decide +kernel) ?_
  refine zl_ge (tgt := 27) hx hb dJ9_floorDiv_f86c9_9 dJ9_floorDiv_f86c9_10 (by decide) (fun c1 => ?_) (fun c1 => ?_)
  ·
    refine lv_lload hx hb dJ9_floorDiv_f86c9_27 (lv_at hl 0 rfl) ?_
    exact zretL hx hb hr hlk hS hP dJ9_floorDiv_f86c9_29 ⟨by rw [zfl_pos hd (fun h => absurd ((zxor_neg hd).mpr h) (Int64.not_lt.mpr c1))], rfl⟩
  ·
    refine lv_lload hx hb dJ9_floorDiv_f86c9_13 (lv_at hl 0 rfl) ?_
    refine lv_lload_n hx hb dJ9_floorDiv_f86c9_15 rfl (lv_at hl 2 rfl) ?_
    refine lv_lmul hx hb dJ9_floorDiv_f86c9_16 ?_
    refine lv_lload_n hx hb dJ9_floorDiv_f86c9_17 rfl (lv_at hl 1 rfl) ?_
    refine zl_eq (tgt := 27) hx hb dJ9_floorDiv_f86c9_18 dJ9_floorDiv_f86c9_19 (by decide) (fun c2 => ?_) (fun c2 => ?_)
    ·
      refine lv_lload hx hb dJ9_floorDiv_f86c9_27 (lv_at hl 0 rfl) ?_
      exact zretL hx hb hr hlk hS hP dJ9_floorDiv_f86c9_29 ⟨by rw [zfl_eq c2], rfl⟩
    ·
      refine lv_lload hx hb dJ9_floorDiv_f86c9_22 (lv_at hl 0 rfl) ?_
      refine lv_lconst (v := (1 : Int64)) hx hb dJ9_floorDiv_f86c9_24 (by decide +kernel) ?_
      refine lv_lsub hx hb dJ9_floorDiv_f86c9_25 ?_
      exact zretL hx hb hr hlk hS hP dJ9_floorDiv_f86c9_26 ⟨by rw [zfl_neg hd ((zxor_neg hd).mp (Int64.not_le.mp c1)) c2], rfl⟩

set_option maxHeartbeats 4000000 in
set_option maxRecDepth 100000 in
theorem kJ9_floorDiv_b2ac5 (l : Launch) (D : va_G) (cL cI cR : ClassId) (A : Nat → Prop) (F : Nat → Nat) (n : Nat) (E : Nat → va_E) (v0 : Int64) (d0 : Int32) (hd : 0 < d0.toInt64) : zCt l yJ9_floorDiv_b2ac5 wsJ9_floorDiv_b2ac5 1 25 D cL cI cR A F n E [.long v0, .int d0] (fun v2 E2 => v2 = (some (.long (zfl v0 d0.toInt64))) ∧ E2 = E) := by
  refine zStartF (cc := cJ9_floorDiv_b2ac5) (maxL := 3) (ret := (some .long)) (by decide +kernel) rfl (Nat.le_of_ble_eq_true rfl) ?_
  intro p e s m below meth c hx hb hr hml hlk hown hts hAm H hP hS ls hl
  have hown : s.vm.findClass RJ9 = some m.cls := hown
  have hl : lv_has ls 3 [(0, .long v0), (2, .int d0)] := hl
  refine lv_lload_n hx hb dJ9_floorDiv_b2ac5_0 rfl (lv_at hl 0 rfl) ?_
  refine lv_iload_n hx hb dJ9_floorDiv_b2ac5_1 rfl (lv_at hl 1 rfl) ?_
  refine lv_i2l (v := d0.toInt64) hx hb dJ9_floorDiv_b2ac5_2 rfl ?_
  refine zcallS (As := [.long v0, .long d0.toInt64]) (rest := []) (k := 2) hx hb hml hown hts (kJ9_floorDiv_f86c9 l D cL cI cR A F n E v0 d0.toInt64 hd) gJ9_floorDiv_b2ac5_J9_floorDiv_f86c9 rfl (by decide +kernel) ⟨Nat.le_of_ble_eq_true rfl, Nat.le_of_ble_eq_true rfl⟩ hAm hP hS rfl hl.1 rfl (Nat.le_of_ble_eq_true rfl) dJ9_floorDiv_b2ac5_3 ⟨Nat.zero_le _, Nat.zero_le _⟩ (zkn (fun H locs hP hS => ?_))
  refine W.eq (g2 := F0 m 6 ls [.long (zfl v0 d0.toInt64)]) rfl ?_
  exact zretL hx hb hr hlk hS hP dJ9_floorDiv_b2ac5_6 ⟨rfl, rfl⟩

set_option maxHeartbeats 4000000 in
set_option maxRecDepth 100000 in
theorem kX2_rounded (l : Launch) (D : va_G) (cL cI cR : ClassId) (A : Nat → Prop) (F : Nat → Nat) (n : Nat) (E : Nat → va_E) (v0 d0 : Int64) (hd : 0 < d0) : zCt l yX2_rounded wsX2_rounded 1 25 D cL cI cR A F n E [.long v0, .long d0] (fun v2 E2 => v2 = (some (.long (zR v0 d0))) ∧ E2 = E) := by
  refine zStart (cc := cX2_rounded) (maxL := 8) (ret := (some .long)) (by decide +kernel) rfl (Nat.le_of_ble_eq_true rfl) ?_
  intro p e s m below meth c hx hb hr hml hlk hown hts hAm H hP hS ls hl
  have hown : s.vm.findClass RX2 = some m.cls := hown
  have hl : lv_has ls 8 [(0, .long v0), (2, .long d0)] := hl
  refine lv_lload_n hx hb dX2_rounded_0 rfl (lv_at hl 1 rfl) ?_
  refine lv_lconst (v := (0 : Int64)) hx hb dX2_rounded_1 (by decide +kernel) ?_
  refine zl_gt (tgt := 8) hx hb dX2_rounded_2 dX2_rounded_3 (by decide) (fun c1 => ?_) (fun c1 => ?_)
  ·
    refine lv_lload_n hx hb dX2_rounded_8 rfl (lv_at hl 0 rfl) ?_
    refine lv_lload_n hx hb dX2_rounded_9 rfl (lv_at hl 1 rfl) ?_
    refine zcallS (As := [.long v0, .long d0]) (rest := []) (k := 2) hx hb hml hown hts (kJ9_floorDiv_f86c9 l D cL cI cR A F n E v0 d0 hd) gX2_rounded_J9_floorDiv_f86c9 rfl (by decide +kernel) ⟨Nat.le_of_ble_eq_true rfl, Nat.le_of_ble_eq_true rfl⟩ hAm hP hS rfl hl.1 rfl (Nat.le_of_ble_eq_true rfl) dX2_rounded_10 ⟨Nat.zero_le _, Nat.zero_le _⟩ (zkn (fun H locs hP hS => ?_))
    refine W.eq (g2 := F0 m 13 ls [.long (zfl v0 d0)]) rfl ?_
    refine lv_lstore (lv' := [(4, .long (zfl v0 d0)), (0, .long v0), (2, .long d0)]) hx hb dX2_rounded_13 hl (by decide) rfl (fun ls hl => ?_)
    refine lv_lload_n hx hb dX2_rounded_15 rfl (lv_at hl 1 rfl) ?_
    refine lv_lload hx hb dX2_rounded_16 (lv_at hl 0 rfl) ?_
    refine lv_lload_n hx hb dX2_rounded_18 rfl (lv_at hl 2 rfl) ?_
    refine lv_lmul hx hb dX2_rounded_19 ?_
    refine lv_lsub hx hb dX2_rounded_20 ?_
    refine lv_lstore (lv' := [(6, .long (v0 - ((zfl v0 d0) * d0))), (4, .long (zfl v0 d0)), (0, .long v0), (2, .long d0)]) hx hb dX2_rounded_21 hl (by decide) rfl (fun ls hl => ?_)
    refine lv_ldc2 hx hb hown (hts (.constantLong RX2 117 (2)) (by decide +kernel)) dX2_rounded_23 ?_
    refine lv_lload hx hb dX2_rounded_26 (lv_at hl 0 rfl) ?_
    refine lv_lmul hx hb dX2_rounded_28 ?_
    refine lv_lload_n hx hb dX2_rounded_29 rfl (lv_at hl 3 rfl) ?_
    refine zl_lt (tgt := 41) hx hb dX2_rounded_30 dX2_rounded_31 (by decide) (fun c2 => ?_) (fun c2 => ?_)
    ·
      refine lv_lload hx hb dX2_rounded_41 (lv_at hl 1 rfl) ?_
      exact zretL hx hb hr hlk hS hP dX2_rounded_43 ⟨by unfold zR; rw [if_pos c2], rfl⟩
    ·
      refine lv_lload hx hb dX2_rounded_34 (lv_at hl 1 rfl) ?_
      refine lv_lconst (v := (1 : Int64)) hx hb dX2_rounded_36 (by decide +kernel) ?_
      refine lv_ladd hx hb dX2_rounded_37 ?_
      refine lv_goto (tgt := 43) hx hb dX2_rounded_38 (by decide) ?_
      exact zretL hx hb hr hlk hS hP dX2_rounded_43 ⟨by unfold zR; rw [if_neg c2], rfl⟩
  ·
    exact absurd hd c1
