/-! the reference: refused calls -/
def zPM (cL cI : ClassId) (F : Nat → Nat) (r : Int64) (P' : Nat → Nat → Int64) (n' : Nat → Nat) (vals' : Nat → Int32) : Option Value → (Nat → va_E) → Prop := fun v2 E2 => ∃ (C2 : Nat → Nat → Int64) (dg2 : Nat → Nat) (Y2 : zZM), E2 = zME cL cI F C2 dg2 Y2 ∧ v2 = some (.long r) ∧ (∀ i, i < 8 → C2 i = P' i ∧ dg2 i = n' i) ∧ ∀ j, j < 17 → Y2.1 j = vals' j
theorem zn1N {k m : Nat} {c : Int64} (hc : c = lN m) (h : k ≤ m) (hm : m < 2147483648) : 1 = zbN ((0 : Int64) ≤ lN k ∧ lN k ≤ c) := by
  unfold zbN
  rw [if_pos]
  rw [hc, show (0 : Int64) = lN 0 from rfl, lN_le (by omega) (by omega), lN_le (by omega) (by omega)]
  omega

set_option maxHeartbeats 4000000 in
set_option maxRecDepth 100000 in
theorem kX3_setCoefficient_bad (l : Launch) (D : va_G) (cL cI cR : ClassId) (A : Nat → Prop) (F : Nat → Nat) (hF : zq_F A F 7) (C : Nat → Nat → Int64) (dg : Nat → Nat) (Y : zZM) (P : Nat → Nat → Int64) (n0 : Nat → Nat) (hCP : ∀ i, i < 8 → C i = P i ∧ dg i = n0 i) (sx kx vx : Int32) (hbad : ¬ (zin 0 7 sx ∧ zin 0 24 kx ∧ zin (-268435456) 268435456 vx)) : zCt l yX3_setCoefficient wsX3_setCoefficient 2 45 D cL cI cR A F 7 (zME cL cI F C dg Y) [.ref (F 0), .int sx, .int kx, .int vx] (zPM cL cI F (-9000000000000000001) P n0 Y.1) := by
  refine zStart (cc := cX3_setCoefficient) (maxL := 4) (ret := (some .long)) (by decide +kernel) rfl (Nat.le_of_ble_eq_true rfl) ?_
  intro p e s m below meth c hx hb hr hml hlk hown hts hAm H hP hS ls hl
  have hown : s.vm.findClass RX3 = some m.cls := hown
  have hl : lv_has ls 4 [(0, .ref (F 0)), (1, .int sx), (2, .int kx), (3, .int vx)] := hl
  refine lv_iload_n hx hb dX3_setCoefficient_0 rfl (lv_at hl 1 rfl) ?_
  by_cases h_sx : zin 0 7 sx
  ·
    refine zcallS (As := [.int sx]) (rest := []) (k := 1) hx hb hml hown hts (kX3_isSeries l D cL cI cR A F 7 (zME cL cI F C dg Y) sx 1 (by unfold zbN; rw [if_pos h_sx])) gX3_setCoefficient_X3_isSeries rfl (by decide +kernel) ⟨Nat.le_of_ble_eq_true rfl, Nat.le_of_ble_eq_true rfl⟩ hAm hP hS rfl hl.1 rfl (Nat.le_of_ble_eq_true rfl) dX3_setCoefficient_1 ⟨Nat.zero_le _, Nat.zero_le _⟩ (zkn (fun H locs hP hS => ?_))
    refine W.eq (g2 := F0 m 4 ls [.int (nI 1)]) rfl ?_
    refine zf_eq (tgt := 33) hx hb dX3_setCoefficient_4 (by decide) (by omega) (fun c1 => ?_) (fun c1 => ?_)
    ·
      exfalso; omega
    ·
      refine lv_iload_n hx hb dX3_setCoefficient_7 rfl (lv_at hl 2 rfl) ?_
      refine lv_i2l (v := kx.toInt64) hx hb dX3_setCoefficient_8 rfl ?_
      refine lv_lconst (v := (0 : Int64)) hx hb dX3_setCoefficient_9 (by decide +kernel) ?_
      refine lv_ldc2 hx hb hown (hts (.constantLong RX3 79 (24)) (by decide +kernel)) dX3_setCoefficient_10 ?_
      by_cases h_kx : zin 0 24 kx
      ·
        refine zcallS (As := [.long kx.toInt64, .long (0 : Int64), .long (24 : Int64)]) (rest := []) (k := 3) hx hb hml hown hts (kX3_in l D cL cI cR A F 7 (zME cL cI F C dg Y) kx.toInt64 (0 : Int64) (24 : Int64) 1 (zn1 rfl rfl h_kx)) gX3_setCoefficient_X3_in rfl (by decide +kernel) ⟨Nat.le_of_ble_eq_true rfl, Nat.le_of_ble_eq_true rfl⟩ hAm hP hS rfl hl.1 rfl (Nat.le_of_ble_eq_true rfl) dX3_setCoefficient_13 ⟨Nat.zero_le _, Nat.zero_le _⟩ (zkn (fun H locs hP hS => ?_))
        refine W.eq (g2 := F0 m 16 ls [.int (nI 1)]) rfl ?_
        refine zf_eq (tgt := 33) hx hb dX3_setCoefficient_16 (by decide) (by omega) (fun c2 => ?_) (fun c2 => ?_)
        ·
          exfalso; omega
        ·
          refine lv_iload_n hx hb dX3_setCoefficient_19 rfl (lv_at hl 3 rfl) ?_
          refine lv_i2l (v := vx.toInt64) hx hb dX3_setCoefficient_20 rfl ?_
          refine lv_ldc2 hx hb hown (hts (.constantLong RX3 81 (-268435456)) (by decide +kernel)) dX3_setCoefficient_21 ?_
          refine lv_ldc2 hx hb hown (hts (.constantLong RX3 63 (268435456)) (by decide +kernel)) dX3_setCoefficient_24 ?_
          by_cases h_vx : zin (-268435456) 268435456 vx
          ·
            refine zcallS (As := [.long vx.toInt64, .long (-268435456 : Int64), .long (268435456 : Int64)]) (rest := []) (k := 3) hx hb hml hown hts (kX3_in l D cL cI cR A F 7 (zME cL cI F C dg Y) vx.toInt64 (-268435456 : Int64) (268435456 : Int64) 1 (zn1 rfl rfl h_vx)) gX3_setCoefficient_X3_in rfl (by decide +kernel) ⟨Nat.le_of_ble_eq_true rfl, Nat.le_of_ble_eq_true rfl⟩ hAm hP hS rfl hl.1 rfl (Nat.le_of_ble_eq_true rfl) dX3_setCoefficient_27 ⟨Nat.zero_le _, Nat.zero_le _⟩ (zkn (fun H locs hP hS => ?_))
            refine W.eq (g2 := F0 m 30 ls [.int (nI 1)]) rfl ?_
            refine zf_ne (tgt := 37) hx hb dX3_setCoefficient_30 (by decide) (by omega) (fun c3 => ?_) (fun c3 => ?_)
            ·
              exact absurd ⟨h_sx, h_kx, h_vx⟩ hbad
            ·
              exfalso; omega
          ·
            refine zcallS (As := [.long vx.toInt64, .long (-268435456 : Int64), .long (268435456 : Int64)]) (rest := []) (k := 3) hx hb hml hown hts (kX3_in l D cL cI cR A F 7 (zME cL cI F C dg Y) vx.toInt64 (-268435456 : Int64) (268435456 : Int64) 0 (zn0 rfl rfl h_vx)) gX3_setCoefficient_X3_in rfl (by decide +kernel) ⟨Nat.le_of_ble_eq_true rfl, Nat.le_of_ble_eq_true rfl⟩ hAm hP hS rfl hl.1 rfl (Nat.le_of_ble_eq_true rfl) dX3_setCoefficient_27 ⟨Nat.zero_le _, Nat.zero_le _⟩ (zkn (fun H locs hP hS => ?_))
            refine W.eq (g2 := F0 m 30 ls [.int (nI 0)]) rfl ?_
            refine zf_ne (tgt := 37) hx hb dX3_setCoefficient_30 (by decide) (by omega) (fun c4 => ?_) (fun c4 => ?_)
            ·
              exfalso; omega
            ·
              refine lv_ldc2 hx hb hown (hts (.constantLong RX3 83 (-9000000000000000001)) (by decide +kernel)) dX3_setCoefficient_33 ?_
              exact zretL hx hb hr hlk hS hP dX3_setCoefficient_36 ⟨C, dg, Y, rfl, rfl, hCP, fun _ _ => rfl⟩
      ·
        refine zcallS (As := [.long kx.toInt64, .long (0 : Int64), .long (24 : Int64)]) (rest := []) (k := 3) hx hb hml hown hts (kX3_in l D cL cI cR A F 7 (zME cL cI F C dg Y) kx.toInt64 (0 : Int64) (24 : Int64) 0 (zn0 rfl rfl h_kx)) gX3_setCoefficient_X3_in rfl (by decide +kernel) ⟨Nat.le_of_ble_eq_true rfl, Nat.le_of_ble_eq_true rfl⟩ hAm hP hS rfl hl.1 rfl (Nat.le_of_ble_eq_true rfl) dX3_setCoefficient_13 ⟨Nat.zero_le _, Nat.zero_le _⟩ (zkn (fun H locs hP hS => ?_))
        refine W.eq (g2 := F0 m 16 ls [.int (nI 0)]) rfl ?_
        refine zf_eq (tgt := 33) hx hb dX3_setCoefficient_16 (by decide) (by omega) (fun c5 => ?_) (fun c5 => ?_)
        ·
          refine lv_ldc2 hx hb hown (hts (.constantLong RX3 83 (-9000000000000000001)) (by decide +kernel)) dX3_setCoefficient_33 ?_
          exact zretL hx hb hr hlk hS hP dX3_setCoefficient_36 ⟨C, dg, Y, rfl, rfl, hCP, fun _ _ => rfl⟩
        ·
          exfalso; omega
  ·
    refine zcallS (As := [.int sx]) (rest := []) (k := 1) hx hb hml hown hts (kX3_isSeries l D cL cI cR A F 7 (zME cL cI F C dg Y) sx 0 (by unfold zbN; rw [if_neg h_sx])) gX3_setCoefficient_X3_isSeries rfl (by decide +kernel) ⟨Nat.le_of_ble_eq_true rfl, Nat.le_of_ble_eq_true rfl⟩ hAm hP hS rfl hl.1 rfl (Nat.le_of_ble_eq_true rfl) dX3_setCoefficient_1 ⟨Nat.zero_le _, Nat.zero_le _⟩ (zkn (fun H locs hP hS => ?_))
    refine W.eq (g2 := F0 m 4 ls [.int (nI 0)]) rfl ?_
    refine zf_eq (tgt := 33) hx hb dX3_setCoefficient_4 (by decide) (by omega) (fun c6 => ?_) (fun c6 => ?_)
    ·
      refine lv_ldc2 hx hb hown (hts (.constantLong RX3 83 (-9000000000000000001)) (by decide +kernel)) dX3_setCoefficient_33 ?_
      exact zretL hx hb hr hlk hS hP dX3_setCoefficient_36 ⟨C, dg, Y, rfl, rfl, hCP, fun _ _ => rfl⟩
    ·
      exfalso; omega

set_option maxHeartbeats 4000000 in
set_option maxRecDepth 100000 in
theorem kX3_coefficient_bad (l : Launch) (D : va_G) (cL cI cR : ClassId) (A : Nat → Prop) (F : Nat → Nat) (hF : zq_F A F 7) (C : Nat → Nat → Int64) (dg : Nat → Nat) (Y : zZM) (P : Nat → Nat → Int64) (n0 : Nat → Nat) (hCP : ∀ i, i < 8 → C i = P i ∧ dg i = n0 i) (sx kx : Int32) (hbad : ¬ (zin 0 7 sx ∧ zin 0 24 kx)) : zCt l yX3_coefficient wsX3_coefficient 2 45 D cL cI cR A F 7 (zME cL cI F C dg Y) [.ref (F 0), .int sx, .int kx] (zPM cL cI F (-9000000000000000001) P n0 Y.1) := by
  refine zStart (cc := cX3_coefficient) (maxL := 3) (ret := (some .long)) (by decide +kernel) rfl (Nat.le_of_ble_eq_true rfl) ?_
  intro p e s m below meth c hx hb hr hml hlk hown hts hAm H hP hS ls hl
  have hown : s.vm.findClass RX3 = some m.cls := hown
  have hl : lv_has ls 3 [(0, .ref (F 0)), (1, .int sx), (2, .int kx)] := hl
  refine lv_iload_n hx hb dX3_coefficient_0 rfl (lv_at hl 1 rfl) ?_
  by_cases h_sx : zin 0 7 sx
  ·
    refine zcallS (As := [.int sx]) (rest := []) (k := 1) hx hb hml hown hts (kX3_isSeries l D cL cI cR A F 7 (zME cL cI F C dg Y) sx 1 (by unfold zbN; rw [if_pos h_sx])) gX3_coefficient_X3_isSeries rfl (by decide +kernel) ⟨Nat.le_of_ble_eq_true rfl, Nat.le_of_ble_eq_true rfl⟩ hAm hP hS rfl hl.1 rfl (Nat.le_of_ble_eq_true rfl) dX3_coefficient_1 ⟨Nat.zero_le _, Nat.zero_le _⟩ (zkn (fun H locs hP hS => ?_))
    refine W.eq (g2 := F0 m 4 ls [.int (nI 1)]) rfl ?_
    refine zf_eq (tgt := 28) hx hb dX3_coefficient_4 (by decide) (by omega) (fun c1 => ?_) (fun c1 => ?_)
    ·
      exfalso; omega
    ·
      refine lv_iload_n hx hb dX3_coefficient_7 rfl (lv_at hl 2 rfl) ?_
      refine lv_i2l (v := kx.toInt64) hx hb dX3_coefficient_8 rfl ?_
      refine lv_lconst (v := (0 : Int64)) hx hb dX3_coefficient_9 (by decide +kernel) ?_
      refine lv_ldc2 hx hb hown (hts (.constantLong RX3 79 (24)) (by decide +kernel)) dX3_coefficient_10 ?_
      by_cases h_kx : zin 0 24 kx
      ·
        refine zcallS (As := [.long kx.toInt64, .long (0 : Int64), .long (24 : Int64)]) (rest := []) (k := 3) hx hb hml hown hts (kX3_in l D cL cI cR A F 7 (zME cL cI F C dg Y) kx.toInt64 (0 : Int64) (24 : Int64) 1 (zn1 rfl rfl h_kx)) gX3_coefficient_X3_in rfl (by decide +kernel) ⟨Nat.le_of_ble_eq_true rfl, Nat.le_of_ble_eq_true rfl⟩ hAm hP hS rfl hl.1 rfl (Nat.le_of_ble_eq_true rfl) dX3_coefficient_13 ⟨Nat.zero_le _, Nat.zero_le _⟩ (zkn (fun H locs hP hS => ?_))
        refine W.eq (g2 := F0 m 16 ls [.int (nI 1)]) rfl ?_
        refine zf_eq (tgt := 28) hx hb dX3_coefficient_16 (by decide) (by omega) (fun c2 => ?_) (fun c2 => ?_)
        ·
          exfalso; omega
        ·
          exact absurd ⟨h_sx, h_kx⟩ hbad
      ·
        refine zcallS (As := [.long kx.toInt64, .long (0 : Int64), .long (24 : Int64)]) (rest := []) (k := 3) hx hb hml hown hts (kX3_in l D cL cI cR A F 7 (zME cL cI F C dg Y) kx.toInt64 (0 : Int64) (24 : Int64) 0 (zn0 rfl rfl h_kx)) gX3_coefficient_X3_in rfl (by decide +kernel) ⟨Nat.le_of_ble_eq_true rfl, Nat.le_of_ble_eq_true rfl⟩ hAm hP hS rfl hl.1 rfl (Nat.le_of_ble_eq_true rfl) dX3_coefficient_13 ⟨Nat.zero_le _, Nat.zero_le _⟩ (zkn (fun H locs hP hS => ?_))
        refine W.eq (g2 := F0 m 16 ls [.int (nI 0)]) rfl ?_
        refine zf_eq (tgt := 28) hx hb dX3_coefficient_16 (by decide) (by omega) (fun c3 => ?_) (fun c3 => ?_)
        ·
          refine lv_ldc2 hx hb hown (hts (.constantLong RX3 83 (-9000000000000000001)) (by decide +kernel)) dX3_coefficient_28 ?_
          exact zretL hx hb hr hlk hS hP dX3_coefficient_31 ⟨C, dg, Y, rfl, rfl, hCP, fun _ _ => rfl⟩
        ·
          exfalso; omega
  ·
    refine zcallS (As := [.int sx]) (rest := []) (k := 1) hx hb hml hown hts (kX3_isSeries l D cL cI cR A F 7 (zME cL cI F C dg Y) sx 0 (by unfold zbN; rw [if_neg h_sx])) gX3_coefficient_X3_isSeries rfl (by decide +kernel) ⟨Nat.le_of_ble_eq_true rfl, Nat.le_of_ble_eq_true rfl⟩ hAm hP hS rfl hl.1 rfl (Nat.le_of_ble_eq_true rfl) dX3_coefficient_1 ⟨Nat.zero_le _, Nat.zero_le _⟩ (zkn (fun H locs hP hS => ?_))
    refine W.eq (g2 := F0 m 4 ls [.int (nI 0)]) rfl ?_
    refine zf_eq (tgt := 28) hx hb dX3_coefficient_4 (by decide) (by omega) (fun c4 => ?_) (fun c4 => ?_)
    ·
      refine lv_ldc2 hx hb hown (hts (.constantLong RX3 83 (-9000000000000000001)) (by decide +kernel)) dX3_coefficient_28 ?_
      exact zretL hx hb hr hlk hS hP dX3_coefficient_31 ⟨C, dg, Y, rfl, rfl, hCP, fun _ _ => rfl⟩
    ·
      exfalso; omega

set_option maxHeartbeats 4000000 in
set_option maxRecDepth 100000 in
theorem kX3_degree_bad (l : Launch) (D : va_G) (cL cI cR : ClassId) (A : Nat → Prop) (F : Nat → Nat) (hF : zq_F A F 7) (C : Nat → Nat → Int64) (dg : Nat → Nat) (Y : zZM) (P : Nat → Nat → Int64) (n0 : Nat → Nat) (hCP : ∀ i, i < 8 → C i = P i ∧ dg i = n0 i) (sx : Int32) (hbad : ¬ (zin 0 7 sx)) : zCt l yX3_degree wsX3_degree 2 45 D cL cI cR A F 7 (zME cL cI F C dg Y) [.ref (F 0), .int sx] (zPM cL cI F (-9000000000000000001) P n0 Y.1) := by
  refine zStart (cc := cX3_degree) (maxL := 2) (ret := (some .long)) (by decide +kernel) rfl (Nat.le_of_ble_eq_true rfl) ?_
  intro p e s m below meth c hx hb hr hml hlk hown hts hAm H hP hS ls hl
  have hown : s.vm.findClass RX3 = some m.cls := hown
  have hl : lv_has ls 2 [(0, .ref (F 0)), (1, .int sx)] := hl
  refine lv_iload_n hx hb dX3_degree_0 rfl (lv_at hl 1 rfl) ?_
  by_cases h_sx : zin 0 7 sx
  ·
    refine zcallS (As := [.int sx]) (rest := []) (k := 1) hx hb hml hown hts (kX3_isSeries l D cL cI cR A F 7 (zME cL cI F C dg Y) sx 1 (by unfold zbN; rw [if_pos h_sx])) gX3_degree_X3_isSeries rfl (by decide +kernel) ⟨Nat.le_of_ble_eq_true rfl, Nat.le_of_ble_eq_true rfl⟩ hAm hP hS rfl hl.1 rfl (Nat.le_of_ble_eq_true rfl) dX3_degree_1 ⟨Nat.zero_le _, Nat.zero_le _⟩ (zkn (fun H locs hP hS => ?_))
    refine W.eq (g2 := F0 m 4 ls [.int (nI 1)]) rfl ?_
    refine zf_eq (tgt := 17) hx hb dX3_degree_4 (by decide) (by omega) (fun c1 => ?_) (fun c1 => ?_)
    ·
      exfalso; omega
    ·
      exact absurd h_sx hbad
  ·
    refine zcallS (As := [.int sx]) (rest := []) (k := 1) hx hb hml hown hts (kX3_isSeries l D cL cI cR A F 7 (zME cL cI F C dg Y) sx 0 (by unfold zbN; rw [if_neg h_sx])) gX3_degree_X3_isSeries rfl (by decide +kernel) ⟨Nat.le_of_ble_eq_true rfl, Nat.le_of_ble_eq_true rfl⟩ hAm hP hS rfl hl.1 rfl (Nat.le_of_ble_eq_true rfl) dX3_degree_1 ⟨Nat.zero_le _, Nat.zero_le _⟩ (zkn (fun H locs hP hS => ?_))
    refine W.eq (g2 := F0 m 4 ls [.int (nI 0)]) rfl ?_
    refine zf_eq (tgt := 17) hx hb dX3_degree_4 (by decide) (by omega) (fun c2 => ?_) (fun c2 => ?_)
    ·
      refine lv_ldc2 hx hb hown (hts (.constantLong RX3 83 (-9000000000000000001)) (by decide +kernel)) dX3_degree_17 ?_
      exact zretL hx hb hr hlk hS hP dX3_degree_20 ⟨C, dg, Y, rfl, rfl, hCP, fun _ _ => rfl⟩
    ·
      exfalso; omega

set_option maxHeartbeats 4000000 in
set_option maxRecDepth 100000 in
theorem kX3_copy_bad (l : Launch) (D : va_G) (cL cI cR : ClassId) (A : Nat → Prop) (F : Nat → Nat) (hF : zq_F A F 7) (C : Nat → Nat → Int64) (dg : Nat → Nat) (Y : zZM) (P : Nat → Nat → Int64) (n0 : Nat → Nat) (hCP : ∀ i, i < 8 → C i = P i ∧ dg i = n0 i) (ax tx : Int32) (hbad : ¬ (zin 0 7 ax ∧ zin 0 7 tx)) : zCt l yX3_copy wsX3_copy 2 45 D cL cI cR A F 7 (zME cL cI F C dg Y) [.ref (F 0), .int ax, .int tx] (zPM cL cI F (-9000000000000000001) P n0 Y.1) := by
  refine zStart (cc := cX3_copy) (maxL := 3) (ret := (some .long)) (by decide +kernel) rfl (Nat.le_of_ble_eq_true rfl) ?_
  intro p e s m below meth c hx hb hr hml hlk hown hts hAm H hP hS ls hl
  have hown : s.vm.findClass RX3 = some m.cls := hown
  have hl : lv_has ls 3 [(0, .ref (F 0)), (1, .int ax), (2, .int tx)] := hl
  refine lv_iload_n hx hb dX3_copy_0 rfl (lv_at hl 1 rfl) ?_
  by_cases h_ax : zin 0 7 ax
  ·
    refine zcallS (As := [.int ax]) (rest := []) (k := 1) hx hb hml hown hts (kX3_isSeries l D cL cI cR A F 7 (zME cL cI F C dg Y) ax 1 (by unfold zbN; rw [if_pos h_ax])) gX3_copy_X3_isSeries rfl (by decide +kernel) ⟨Nat.le_of_ble_eq_true rfl, Nat.le_of_ble_eq_true rfl⟩ hAm hP hS rfl hl.1 rfl (Nat.le_of_ble_eq_true rfl) dX3_copy_1 ⟨Nat.zero_le _, Nat.zero_le _⟩ (zkn (fun H locs hP hS => ?_))
    refine W.eq (g2 := F0 m 4 ls [.int (nI 1)]) rfl ?_
    refine zf_eq (tgt := 14) hx hb dX3_copy_4 (by decide) (by omega) (fun c1 => ?_) (fun c1 => ?_)
    ·
      exfalso; omega
    ·
      refine lv_iload_n hx hb dX3_copy_7 rfl (lv_at hl 2 rfl) ?_
      by_cases h_tx : zin 0 7 tx
      ·
        refine zcallS (As := [.int tx]) (rest := []) (k := 1) hx hb hml hown hts (kX3_isSeries l D cL cI cR A F 7 (zME cL cI F C dg Y) tx 1 (by unfold zbN; rw [if_pos h_tx])) gX3_copy_X3_isSeries rfl (by decide +kernel) ⟨Nat.le_of_ble_eq_true rfl, Nat.le_of_ble_eq_true rfl⟩ hAm hP hS rfl hl.1 rfl (Nat.le_of_ble_eq_true rfl) dX3_copy_8 ⟨Nat.zero_le _, Nat.zero_le _⟩ (zkn (fun H locs hP hS => ?_))
        refine W.eq (g2 := F0 m 11 ls [.int (nI 1)]) rfl ?_
        refine zf_ne (tgt := 18) hx hb dX3_copy_11 (by decide) (by omega) (fun c2 => ?_) (fun c2 => ?_)
        ·
          exact absurd ⟨h_ax, h_tx⟩ hbad
        ·
          exfalso; omega
      ·
        refine zcallS (As := [.int tx]) (rest := []) (k := 1) hx hb hml hown hts (kX3_isSeries l D cL cI cR A F 7 (zME cL cI F C dg Y) tx 0 (by unfold zbN; rw [if_neg h_tx])) gX3_copy_X3_isSeries rfl (by decide +kernel) ⟨Nat.le_of_ble_eq_true rfl, Nat.le_of_ble_eq_true rfl⟩ hAm hP hS rfl hl.1 rfl (Nat.le_of_ble_eq_true rfl) dX3_copy_8 ⟨Nat.zero_le _, Nat.zero_le _⟩ (zkn (fun H locs hP hS => ?_))
        refine W.eq (g2 := F0 m 11 ls [.int (nI 0)]) rfl ?_
        refine zf_ne (tgt := 18) hx hb dX3_copy_11 (by decide) (by omega) (fun c3 => ?_) (fun c3 => ?_)
        ·
          exfalso; omega
        ·
          refine lv_ldc2 hx hb hown (hts (.constantLong RX3 83 (-9000000000000000001)) (by decide +kernel)) dX3_copy_14 ?_
          exact zretL hx hb hr hlk hS hP dX3_copy_17 ⟨C, dg, Y, rfl, rfl, hCP, fun _ _ => rfl⟩
  ·
    refine zcallS (As := [.int ax]) (rest := []) (k := 1) hx hb hml hown hts (kX3_isSeries l D cL cI cR A F 7 (zME cL cI F C dg Y) ax 0 (by unfold zbN; rw [if_neg h_ax])) gX3_copy_X3_isSeries rfl (by decide +kernel) ⟨Nat.le_of_ble_eq_true rfl, Nat.le_of_ble_eq_true rfl⟩ hAm hP hS rfl hl.1 rfl (Nat.le_of_ble_eq_true rfl) dX3_copy_1 ⟨Nat.zero_le _, Nat.zero_le _⟩ (zkn (fun H locs hP hS => ?_))
    refine W.eq (g2 := F0 m 4 ls [.int (nI 0)]) rfl ?_
    refine zf_eq (tgt := 14) hx hb dX3_copy_4 (by decide) (by omega) (fun c4 => ?_) (fun c4 => ?_)
    ·
      refine lv_ldc2 hx hb hown (hts (.constantLong RX3 83 (-9000000000000000001)) (by decide +kernel)) dX3_copy_14 ?_
      exact zretL hx hb hr hlk hS hP dX3_copy_17 ⟨C, dg, Y, rfl, rfl, hCP, fun _ _ => rfl⟩
    ·
      exfalso; omega

set_option maxHeartbeats 4000000 in
set_option maxRecDepth 100000 in
theorem kX3_value_bad (l : Launch) (D : va_G) (cL cI cR : ClassId) (A : Nat → Prop) (F : Nat → Nat) (hF : zq_F A F 7) (C : Nat → Nat → Int64) (dg : Nat → Nat) (Y : zZM) (P : Nat → Nat → Int64) (n0 : Nat → Nat) (hCP : ∀ i, i < 8 → C i = P i ∧ dg i = n0 i) (sx xx : Int32) (hbad : ¬ (zin 0 7 sx ∧ zin (-1048576) 1048576 xx)) : zCt l yX3_value wsX3_value 2 45 D cL cI cR A F 7 (zME cL cI F C dg Y) [.ref (F 0), .int sx, .int xx] (zPM cL cI F (-9000000000000000001) P n0 Y.1) := by
  refine zStart (cc := cX3_value) (maxL := 3) (ret := (some .long)) (by decide +kernel) rfl (Nat.le_of_ble_eq_true rfl) ?_
  intro p e s m below meth c hx hb hr hml hlk hown hts hAm H hP hS ls hl
  have hown : s.vm.findClass RX3 = some m.cls := hown
  have hl : lv_has ls 3 [(0, .ref (F 0)), (1, .int sx), (2, .int xx)] := hl
  refine lv_iload_n hx hb dX3_value_0 rfl (lv_at hl 1 rfl) ?_
  by_cases h_sx : zin 0 7 sx
  ·
    refine zcallS (As := [.int sx]) (rest := []) (k := 1) hx hb hml hown hts (kX3_isSeries l D cL cI cR A F 7 (zME cL cI F C dg Y) sx 1 (by unfold zbN; rw [if_pos h_sx])) gX3_value_X3_isSeries rfl (by decide +kernel) ⟨Nat.le_of_ble_eq_true rfl, Nat.le_of_ble_eq_true rfl⟩ hAm hP hS rfl hl.1 rfl (Nat.le_of_ble_eq_true rfl) dX3_value_1 ⟨Nat.zero_le _, Nat.zero_le _⟩ (zkn (fun H locs hP hS => ?_))
    refine W.eq (g2 := F0 m 4 ls [.int (nI 1)]) rfl ?_
    refine zf_eq (tgt := 24) hx hb dX3_value_4 (by decide) (by omega) (fun c1 => ?_) (fun c1 => ?_)
    ·
      exfalso; omega
    ·
      refine lv_iload_n hx hb dX3_value_7 rfl (lv_at hl 2 rfl) ?_
      by_cases h_xx : zin (-1048576) 1048576 xx
      ·
        refine zcallS (As := [.int xx]) (rest := []) (k := 1) hx hb hml hown hts (kX3_isPoint l D cL cI cR A F 7 (zME cL cI F C dg Y) xx 1 (by unfold zbN; rw [if_pos h_xx])) gX3_value_X3_isPoint rfl (by decide +kernel) ⟨Nat.le_of_ble_eq_true rfl, Nat.le_of_ble_eq_true rfl⟩ hAm hP hS rfl hl.1 rfl (Nat.le_of_ble_eq_true rfl) dX3_value_8 ⟨Nat.zero_le _, Nat.zero_le _⟩ (zkn (fun H locs hP hS => ?_))
        refine W.eq (g2 := F0 m 11 ls [.int (nI 1)]) rfl ?_
        refine zf_eq (tgt := 24) hx hb dX3_value_11 (by decide) (by omega) (fun c2 => ?_) (fun c2 => ?_)
        ·
          exfalso; omega
        ·
          exact absurd ⟨h_sx, h_xx⟩ hbad
      ·
        refine zcallS (As := [.int xx]) (rest := []) (k := 1) hx hb hml hown hts (kX3_isPoint l D cL cI cR A F 7 (zME cL cI F C dg Y) xx 0 (by unfold zbN; rw [if_neg h_xx])) gX3_value_X3_isPoint rfl (by decide +kernel) ⟨Nat.le_of_ble_eq_true rfl, Nat.le_of_ble_eq_true rfl⟩ hAm hP hS rfl hl.1 rfl (Nat.le_of_ble_eq_true rfl) dX3_value_8 ⟨Nat.zero_le _, Nat.zero_le _⟩ (zkn (fun H locs hP hS => ?_))
        refine W.eq (g2 := F0 m 11 ls [.int (nI 0)]) rfl ?_
        refine zf_eq (tgt := 24) hx hb dX3_value_11 (by decide) (by omega) (fun c3 => ?_) (fun c3 => ?_)
        ·
          refine lv_ldc2 hx hb hown (hts (.constantLong RX3 83 (-9000000000000000001)) (by decide +kernel)) dX3_value_24 ?_
          exact zretL hx hb hr hlk hS hP dX3_value_27 ⟨C, dg, Y, rfl, rfl, hCP, fun _ _ => rfl⟩
        ·
          exfalso; omega
  ·
    refine zcallS (As := [.int sx]) (rest := []) (k := 1) hx hb hml hown hts (kX3_isSeries l D cL cI cR A F 7 (zME cL cI F C dg Y) sx 0 (by unfold zbN; rw [if_neg h_sx])) gX3_value_X3_isSeries rfl (by decide +kernel) ⟨Nat.le_of_ble_eq_true rfl, Nat.le_of_ble_eq_true rfl⟩ hAm hP hS rfl hl.1 rfl (Nat.le_of_ble_eq_true rfl) dX3_value_1 ⟨Nat.zero_le _, Nat.zero_le _⟩ (zkn (fun H locs hP hS => ?_))
    refine W.eq (g2 := F0 m 4 ls [.int (nI 0)]) rfl ?_
    refine zf_eq (tgt := 24) hx hb dX3_value_4 (by decide) (by omega) (fun c4 => ?_) (fun c4 => ?_)
    ·
      refine lv_ldc2 hx hb hown (hts (.constantLong RX3 83 (-9000000000000000001)) (by decide +kernel)) dX3_value_24 ?_
      exact zretL hx hb hr hlk hS hP dX3_value_27 ⟨C, dg, Y, rfl, rfl, hCP, fun _ _ => rfl⟩
    ·
      exfalso; omega

set_option maxHeartbeats 4000000 in
set_option maxRecDepth 100000 in
theorem kX3_add_bad (l : Launch) (D : va_G) (cL cI cR : ClassId) (A : Nat → Prop) (F : Nat → Nat) (hF : zq_F A F 7) (C : Nat → Nat → Int64) (dg : Nat → Nat) (Y : zZM) (P : Nat → Nat → Int64) (n0 : Nat → Nat) (hCP : ∀ i, i < 8 → C i = P i ∧ dg i = n0 i) (ax fax bx fbx tx : Int32) (hbad : ¬ (zin 0 7 ax ∧ zin 0 7 bx ∧ zin 0 7 tx ∧ zin (-1000) 1000 fax ∧ zin (-1000) 1000 fbx)) : zCt l yX3_add wsX3_add 2 45 D cL cI cR A F 7 (zME cL cI F C dg Y) [.ref (F 0), .int ax, .int fax, .int bx, .int fbx, .int tx] (zPM cL cI F (-9000000000000000001) P n0 Y.1) := by
  refine zStart (cc := cX3_add) (maxL := 7) (ret := (some .long)) (by decide +kernel) rfl (Nat.le_of_ble_eq_true rfl) ?_
  intro p e s m below meth c hx hb hr hml hlk hown hts hAm H hP hS ls hl
  have hown : s.vm.findClass RX3 = some m.cls := hown
  have hl : lv_has ls 7 [(0, .ref (F 0)), (1, .int ax), (2, .int fax), (3, .int bx), (4, .int fbx), (5, .int tx)] := hl
  refine lv_iload_n hx hb dX3_add_0 rfl (lv_at hl 1 rfl) ?_
  by_cases h_ax : zin 0 7 ax
  ·
    refine zcallS (As := [.int ax]) (rest := []) (k := 1) hx hb hml hown hts (kX3_isSeries l D cL cI cR A F 7 (zME cL cI F C dg Y) ax 1 (by unfold zbN; rw [if_pos h_ax])) gX3_add_X3_isSeries rfl (by decide +kernel) ⟨Nat.le_of_ble_eq_true rfl, Nat.le_of_ble_eq_true rfl⟩ hAm hP hS rfl hl.1 rfl (Nat.le_of_ble_eq_true rfl) dX3_add_1 ⟨Nat.zero_le _, Nat.zero_le _⟩ (zkn (fun H locs hP hS => ?_))
    refine W.eq (g2 := F0 m 4 ls [.int (nI 1)]) rfl ?_
    refine zf_eq (tgt := 51) hx hb dX3_add_4 (by decide) (by omega) (fun c1 => ?_) (fun c1 => ?_)
    ·
      exfalso; omega
    ·
      refine lv_iload_n hx hb dX3_add_7 rfl (lv_at hl 2 rfl) ?_
      refine lv_i2l (v := fax.toInt64) hx hb dX3_add_8 rfl ?_
      refine lv_ldc2 hx hb hown (hts (.constantLong RX3 99 (-1000)) (by decide +kernel)) dX3_add_9 ?_
      refine lv_ldc2 hx hb hown (hts (.constantLong RX3 101 (1000)) (by decide +kernel)) dX3_add_12 ?_
      by_cases h_fax : zin (-1000) 1000 fax
      ·
        refine zcallS (As := [.long fax.toInt64, .long (-1000 : Int64), .long (1000 : Int64)]) (rest := []) (k := 3) hx hb hml hown hts (kX3_in l D cL cI cR A F 7 (zME cL cI F C dg Y) fax.toInt64 (-1000 : Int64) (1000 : Int64) 1 (zn1 rfl rfl h_fax)) gX3_add_X3_in rfl (by decide +kernel) ⟨Nat.le_of_ble_eq_true rfl, Nat.le_of_ble_eq_true rfl⟩ hAm hP hS rfl hl.1 rfl (Nat.le_of_ble_eq_true rfl) dX3_add_15 ⟨Nat.zero_le _, Nat.zero_le _⟩ (zkn (fun H locs hP hS => ?_))
        refine W.eq (g2 := F0 m 18 ls [.int (nI 1)]) rfl ?_
        refine zf_eq (tgt := 51) hx hb dX3_add_18 (by decide) (by omega) (fun c2 => ?_) (fun c2 => ?_)
        ·
          exfalso; omega
        ·
          refine lv_iload_n hx hb dX3_add_21 rfl (lv_at hl 3 rfl) ?_
          by_cases h_bx : zin 0 7 bx
          ·
            refine zcallS (As := [.int bx]) (rest := []) (k := 1) hx hb hml hown hts (kX3_isSeries l D cL cI cR A F 7 (zME cL cI F C dg Y) bx 1 (by unfold zbN; rw [if_pos h_bx])) gX3_add_X3_isSeries rfl (by decide +kernel) ⟨Nat.le_of_ble_eq_true rfl, Nat.le_of_ble_eq_true rfl⟩ hAm hP hS rfl hl.1 rfl (Nat.le_of_ble_eq_true rfl) dX3_add_22 ⟨Nat.zero_le _, Nat.zero_le _⟩ (zkn (fun H locs hP hS => ?_))
            refine W.eq (g2 := F0 m 25 ls [.int (nI 1)]) rfl ?_
            refine zf_eq (tgt := 51) hx hb dX3_add_25 (by decide) (by omega) (fun c3 => ?_) (fun c3 => ?_)
            ·
              exfalso; omega
            ·
              refine lv_iload hx hb dX3_add_28 (lv_at hl 4 rfl) ?_
              refine lv_i2l (v := fbx.toInt64) hx hb dX3_add_30 rfl ?_
              refine lv_ldc2 hx hb hown (hts (.constantLong RX3 99 (-1000)) (by decide +kernel)) dX3_add_31 ?_
              refine lv_ldc2 hx hb hown (hts (.constantLong RX3 101 (1000)) (by decide +kernel)) dX3_add_34 ?_
              by_cases h_fbx : zin (-1000) 1000 fbx
              ·
                refine zcallS (As := [.long fbx.toInt64, .long (-1000 : Int64), .long (1000 : Int64)]) (rest := []) (k := 3) hx hb hml hown hts (kX3_in l D cL cI cR A F 7 (zME cL cI F C dg Y) fbx.toInt64 (-1000 : Int64) (1000 : Int64) 1 (zn1 rfl rfl h_fbx)) gX3_add_X3_in rfl (by decide +kernel) ⟨Nat.le_of_ble_eq_true rfl, Nat.le_of_ble_eq_true rfl⟩ hAm hP hS rfl hl.1 rfl (Nat.le_of_ble_eq_true rfl) dX3_add_37 ⟨Nat.zero_le _, Nat.zero_le _⟩ (zkn (fun H locs hP hS => ?_))
                refine W.eq (g2 := F0 m 40 ls [.int (nI 1)]) rfl ?_
                refine zf_eq (tgt := 51) hx hb dX3_add_40 (by decide) (by omega) (fun c4 => ?_) (fun c4 => ?_)
                ·
                  exfalso; omega
                ·
                  refine lv_iload hx hb dX3_add_43 (lv_at hl 5 rfl) ?_
                  by_cases h_tx : zin 0 7 tx
                  ·
                    refine zcallS (As := [.int tx]) (rest := []) (k := 1) hx hb hml hown hts (kX3_isSeries l D cL cI cR A F 7 (zME cL cI F C dg Y) tx 1 (by unfold zbN; rw [if_pos h_tx])) gX3_add_X3_isSeries rfl (by decide +kernel) ⟨Nat.le_of_ble_eq_true rfl, Nat.le_of_ble_eq_true rfl⟩ hAm hP hS rfl hl.1 rfl (Nat.le_of_ble_eq_true rfl) dX3_add_45 ⟨Nat.zero_le _, Nat.zero_le _⟩ (zkn (fun H locs hP hS => ?_))
                    refine W.eq (g2 := F0 m 48 ls [.int (nI 1)]) rfl ?_
                    refine zf_ne (tgt := 55) hx hb dX3_add_48 (by decide) (by omega) (fun c5 => ?_) (fun c5 => ?_)
                    ·
                      exact absurd ⟨h_ax, h_bx, h_tx, h_fax, h_fbx⟩ hbad
                    ·
                      exfalso; omega
                  ·
                    refine zcallS (As := [.int tx]) (rest := []) (k := 1) hx hb hml hown hts (kX3_isSeries l D cL cI cR A F 7 (zME cL cI F C dg Y) tx 0 (by unfold zbN; rw [if_neg h_tx])) gX3_add_X3_isSeries rfl (by decide +kernel) ⟨Nat.le_of_ble_eq_true rfl, Nat.le_of_ble_eq_true rfl⟩ hAm hP hS rfl hl.1 rfl (Nat.le_of_ble_eq_true rfl) dX3_add_45 ⟨Nat.zero_le _, Nat.zero_le _⟩ (zkn (fun H locs hP hS => ?_))
                    refine W.eq (g2 := F0 m 48 ls [.int (nI 0)]) rfl ?_
                    refine zf_ne (tgt := 55) hx hb dX3_add_48 (by decide) (by omega) (fun c6 => ?_) (fun c6 => ?_)
                    ·
                      exfalso; omega
                    ·
                      refine lv_ldc2 hx hb hown (hts (.constantLong RX3 83 (-9000000000000000001)) (by decide +kernel)) dX3_add_51 ?_
                      exact zretL hx hb hr hlk hS hP dX3_add_54 ⟨C, dg, Y, rfl, rfl, hCP, fun _ _ => rfl⟩
              ·
                refine zcallS (As := [.long fbx.toInt64, .long (-1000 : Int64), .long (1000 : Int64)]) (rest := []) (k := 3) hx hb hml hown hts (kX3_in l D cL cI cR A F 7 (zME cL cI F C dg Y) fbx.toInt64 (-1000 : Int64) (1000 : Int64) 0 (zn0 rfl rfl h_fbx)) gX3_add_X3_in rfl (by decide +kernel) ⟨Nat.le_of_ble_eq_true rfl, Nat.le_of_ble_eq_true rfl⟩ hAm hP hS rfl hl.1 rfl (Nat.le_of_ble_eq_true rfl) dX3_add_37 ⟨Nat.zero_le _, Nat.zero_le _⟩ (zkn (fun H locs hP hS => ?_))
                refine W.eq (g2 := F0 m 40 ls [.int (nI 0)]) rfl ?_
                refine zf_eq (tgt := 51) hx hb dX3_add_40 (by decide) (by omega) (fun c7 => ?_) (fun c7 => ?_)
                ·
                  refine lv_ldc2 hx hb hown (hts (.constantLong RX3 83 (-9000000000000000001)) (by decide +kernel)) dX3_add_51 ?_
                  exact zretL hx hb hr hlk hS hP dX3_add_54 ⟨C, dg, Y, rfl, rfl, hCP, fun _ _ => rfl⟩
                ·
                  exfalso; omega
          ·
            refine zcallS (As := [.int bx]) (rest := []) (k := 1) hx hb hml hown hts (kX3_isSeries l D cL cI cR A F 7 (zME cL cI F C dg Y) bx 0 (by unfold zbN; rw [if_neg h_bx])) gX3_add_X3_isSeries rfl (by decide +kernel) ⟨Nat.le_of_ble_eq_true rfl, Nat.le_of_ble_eq_true rfl⟩ hAm hP hS rfl hl.1 rfl (Nat.le_of_ble_eq_true rfl) dX3_add_22 ⟨Nat.zero_le _, Nat.zero_le _⟩ (zkn (fun H locs hP hS => ?_))
            refine W.eq (g2 := F0 m 25 ls [.int (nI 0)]) rfl ?_
            refine zf_eq (tgt := 51) hx hb dX3_add_25 (by decide) (by omega) (fun c8 => ?_) (fun c8 => ?_)
            ·
              refine lv_ldc2 hx hb hown (hts (.constantLong RX3 83 (-9000000000000000001)) (by decide +kernel)) dX3_add_51 ?_
              exact zretL hx hb hr hlk hS hP dX3_add_54 ⟨C, dg, Y, rfl, rfl, hCP, fun _ _ => rfl⟩
            ·
              exfalso; omega
      ·
        refine zcallS (As := [.long fax.toInt64, .long (-1000 : Int64), .long (1000 : Int64)]) (rest := []) (k := 3) hx hb hml hown hts (kX3_in l D cL cI cR A F 7 (zME cL cI F C dg Y) fax.toInt64 (-1000 : Int64) (1000 : Int64) 0 (zn0 rfl rfl h_fax)) gX3_add_X3_in rfl (by decide +kernel) ⟨Nat.le_of_ble_eq_true rfl, Nat.le_of_ble_eq_true rfl⟩ hAm hP hS rfl hl.1 rfl (Nat.le_of_ble_eq_true rfl) dX3_add_15 ⟨Nat.zero_le _, Nat.zero_le _⟩ (zkn (fun H locs hP hS => ?_))
        refine W.eq (g2 := F0 m 18 ls [.int (nI 0)]) rfl ?_
        refine zf_eq (tgt := 51) hx hb dX3_add_18 (by decide) (by omega) (fun c9 => ?_) (fun c9 => ?_)
        ·
          refine lv_ldc2 hx hb hown (hts (.constantLong RX3 83 (-9000000000000000001)) (by decide +kernel)) dX3_add_51 ?_
          exact zretL hx hb hr hlk hS hP dX3_add_54 ⟨C, dg, Y, rfl, rfl, hCP, fun _ _ => rfl⟩
        ·
          exfalso; omega
  ·
    refine zcallS (As := [.int ax]) (rest := []) (k := 1) hx hb hml hown hts (kX3_isSeries l D cL cI cR A F 7 (zME cL cI F C dg Y) ax 0 (by unfold zbN; rw [if_neg h_ax])) gX3_add_X3_isSeries rfl (by decide +kernel) ⟨Nat.le_of_ble_eq_true rfl, Nat.le_of_ble_eq_true rfl⟩ hAm hP hS rfl hl.1 rfl (Nat.le_of_ble_eq_true rfl) dX3_add_1 ⟨Nat.zero_le _, Nat.zero_le _⟩ (zkn (fun H locs hP hS => ?_))
    refine W.eq (g2 := F0 m 4 ls [.int (nI 0)]) rfl ?_
    refine zf_eq (tgt := 51) hx hb dX3_add_4 (by decide) (by omega) (fun c10 => ?_) (fun c10 => ?_)
    ·
      refine lv_ldc2 hx hb hown (hts (.constantLong RX3 83 (-9000000000000000001)) (by decide +kernel)) dX3_add_51 ?_
      exact zretL hx hb hr hlk hS hP dX3_add_54 ⟨C, dg, Y, rfl, rfl, hCP, fun _ _ => rfl⟩
    ·
      exfalso; omega

set_option maxHeartbeats 4000000 in
set_option maxRecDepth 100000 in
theorem kX3_multiply_bad (l : Launch) (D : va_G) (cL cI cR : ClassId) (A : Nat → Prop) (F : Nat → Nat) (hF : zq_F A F 7) (C : Nat → Nat → Int64) (dg : Nat → Nat) (Y : zZM) (P : Nat → Nat → Int64) (n0 : Nat → Nat) (hCP : ∀ i, i < 8 → C i = P i ∧ dg i = n0 i) (ax bx tx : Int32) (hbad : ¬ (zin 0 7 ax ∧ zin 0 7 bx ∧ zin 0 7 tx)) : zCt l yX3_multiply wsX3_multiply 2 45 D cL cI cR A F 7 (zME cL cI F C dg Y) [.ref (F 0), .int ax, .int bx, .int tx] (zPM cL cI F (-9000000000000000001) P n0 Y.1) := by
  refine zStart (cc := cX3_multiply) (maxL := 6) (ret := (some .long)) (by decide +kernel) rfl (Nat.le_of_ble_eq_true rfl) ?_
  intro p e s m below meth c hx hb hr hml hlk hown hts hAm H hP hS ls hl
  have hown : s.vm.findClass RX3 = some m.cls := hown
  have hl : lv_has ls 6 [(0, .ref (F 0)), (1, .int ax), (2, .int bx), (3, .int tx)] := hl
  refine lv_iload_n hx hb dX3_multiply_0 rfl (lv_at hl 1 rfl) ?_
  by_cases h_ax : zin 0 7 ax
  ·
    refine zcallS (As := [.int ax]) (rest := []) (k := 1) hx hb hml hown hts (kX3_isSeries l D cL cI cR A F 7 (zME cL cI F C dg Y) ax 1 (by unfold zbN; rw [if_pos h_ax])) gX3_multiply_X3_isSeries rfl (by decide +kernel) ⟨Nat.le_of_ble_eq_true rfl, Nat.le_of_ble_eq_true rfl⟩ hAm hP hS rfl hl.1 rfl (Nat.le_of_ble_eq_true rfl) dX3_multiply_1 ⟨Nat.zero_le _, Nat.zero_le _⟩ (zkn (fun H locs hP hS => ?_))
    refine W.eq (g2 := F0 m 4 ls [.int (nI 1)]) rfl ?_
    refine zf_eq (tgt := 21) hx hb dX3_multiply_4 (by decide) (by omega) (fun c1 => ?_) (fun c1 => ?_)
    ·
      exfalso; omega
    ·
      refine lv_iload_n hx hb dX3_multiply_7 rfl (lv_at hl 2 rfl) ?_
      by_cases h_bx : zin 0 7 bx
      ·
        refine zcallS (As := [.int bx]) (rest := []) (k := 1) hx hb hml hown hts (kX3_isSeries l D cL cI cR A F 7 (zME cL cI F C dg Y) bx 1 (by unfold zbN; rw [if_pos h_bx])) gX3_multiply_X3_isSeries rfl (by decide +kernel) ⟨Nat.le_of_ble_eq_true rfl, Nat.le_of_ble_eq_true rfl⟩ hAm hP hS rfl hl.1 rfl (Nat.le_of_ble_eq_true rfl) dX3_multiply_8 ⟨Nat.zero_le _, Nat.zero_le _⟩ (zkn (fun H locs hP hS => ?_))
        refine W.eq (g2 := F0 m 11 ls [.int (nI 1)]) rfl ?_
        refine zf_eq (tgt := 21) hx hb dX3_multiply_11 (by decide) (by omega) (fun c2 => ?_) (fun c2 => ?_)
        ·
          exfalso; omega
        ·
          refine lv_iload_n hx hb dX3_multiply_14 rfl (lv_at hl 3 rfl) ?_
          by_cases h_tx : zin 0 7 tx
          ·
            refine zcallS (As := [.int tx]) (rest := []) (k := 1) hx hb hml hown hts (kX3_isSeries l D cL cI cR A F 7 (zME cL cI F C dg Y) tx 1 (by unfold zbN; rw [if_pos h_tx])) gX3_multiply_X3_isSeries rfl (by decide +kernel) ⟨Nat.le_of_ble_eq_true rfl, Nat.le_of_ble_eq_true rfl⟩ hAm hP hS rfl hl.1 rfl (Nat.le_of_ble_eq_true rfl) dX3_multiply_15 ⟨Nat.zero_le _, Nat.zero_le _⟩ (zkn (fun H locs hP hS => ?_))
            refine W.eq (g2 := F0 m 18 ls [.int (nI 1)]) rfl ?_
            refine zf_ne (tgt := 25) hx hb dX3_multiply_18 (by decide) (by omega) (fun c3 => ?_) (fun c3 => ?_)
            ·
              exact absurd ⟨h_ax, h_bx, h_tx⟩ hbad
            ·
              exfalso; omega
          ·
            refine zcallS (As := [.int tx]) (rest := []) (k := 1) hx hb hml hown hts (kX3_isSeries l D cL cI cR A F 7 (zME cL cI F C dg Y) tx 0 (by unfold zbN; rw [if_neg h_tx])) gX3_multiply_X3_isSeries rfl (by decide +kernel) ⟨Nat.le_of_ble_eq_true rfl, Nat.le_of_ble_eq_true rfl⟩ hAm hP hS rfl hl.1 rfl (Nat.le_of_ble_eq_true rfl) dX3_multiply_15 ⟨Nat.zero_le _, Nat.zero_le _⟩ (zkn (fun H locs hP hS => ?_))
            refine W.eq (g2 := F0 m 18 ls [.int (nI 0)]) rfl ?_
            refine zf_ne (tgt := 25) hx hb dX3_multiply_18 (by decide) (by omega) (fun c4 => ?_) (fun c4 => ?_)
            ·
              exfalso; omega
            ·
              refine lv_ldc2 hx hb hown (hts (.constantLong RX3 83 (-9000000000000000001)) (by decide +kernel)) dX3_multiply_21 ?_
              exact zretL hx hb hr hlk hS hP dX3_multiply_24 ⟨C, dg, Y, rfl, rfl, hCP, fun _ _ => rfl⟩
      ·
        refine zcallS (As := [.int bx]) (rest := []) (k := 1) hx hb hml hown hts (kX3_isSeries l D cL cI cR A F 7 (zME cL cI F C dg Y) bx 0 (by unfold zbN; rw [if_neg h_bx])) gX3_multiply_X3_isSeries rfl (by decide +kernel) ⟨Nat.le_of_ble_eq_true rfl, Nat.le_of_ble_eq_true rfl⟩ hAm hP hS rfl hl.1 rfl (Nat.le_of_ble_eq_true rfl) dX3_multiply_8 ⟨Nat.zero_le _, Nat.zero_le _⟩ (zkn (fun H locs hP hS => ?_))
        refine W.eq (g2 := F0 m 11 ls [.int (nI 0)]) rfl ?_
        refine zf_eq (tgt := 21) hx hb dX3_multiply_11 (by decide) (by omega) (fun c5 => ?_) (fun c5 => ?_)
        ·
          refine lv_ldc2 hx hb hown (hts (.constantLong RX3 83 (-9000000000000000001)) (by decide +kernel)) dX3_multiply_21 ?_
          exact zretL hx hb hr hlk hS hP dX3_multiply_24 ⟨C, dg, Y, rfl, rfl, hCP, fun _ _ => rfl⟩
        ·
          exfalso; omega
  ·
    refine zcallS (As := [.int ax]) (rest := []) (k := 1) hx hb hml hown hts (kX3_isSeries l D cL cI cR A F 7 (zME cL cI F C dg Y) ax 0 (by unfold zbN; rw [if_neg h_ax])) gX3_multiply_X3_isSeries rfl (by decide +kernel) ⟨Nat.le_of_ble_eq_true rfl, Nat.le_of_ble_eq_true rfl⟩ hAm hP hS rfl hl.1 rfl (Nat.le_of_ble_eq_true rfl) dX3_multiply_1 ⟨Nat.zero_le _, Nat.zero_le _⟩ (zkn (fun H locs hP hS => ?_))
    refine W.eq (g2 := F0 m 4 ls [.int (nI 0)]) rfl ?_
    refine zf_eq (tgt := 21) hx hb dX3_multiply_4 (by decide) (by omega) (fun c6 => ?_) (fun c6 => ?_)
    ·
      refine lv_ldc2 hx hb hown (hts (.constantLong RX3 83 (-9000000000000000001)) (by decide +kernel)) dX3_multiply_21 ?_
      exact zretL hx hb hr hlk hS hP dX3_multiply_24 ⟨C, dg, Y, rfl, rfl, hCP, fun _ _ => rfl⟩
    ·
      exfalso; omega

set_option maxHeartbeats 4000000 in
set_option maxRecDepth 100000 in
theorem kX3_compose_bad (l : Launch) (D : va_G) (cL cI cR : ClassId) (A : Nat → Prop) (F : Nat → Nat) (hF : zq_F A F 7) (C : Nat → Nat → Int64) (dg : Nat → Nat) (Y : zZM) (P : Nat → Nat → Int64) (n0 : Nat → Nat) (hCP : ∀ i, i < 8 → C i = P i ∧ dg i = n0 i) (ax bx tx : Int32) (hbad : ¬ (zin 0 7 ax ∧ zin 0 7 bx ∧ zin 0 7 tx)) : zCt l yX3_compose wsX3_compose 2 45 D cL cI cR A F 7 (zME cL cI F C dg Y) [.ref (F 0), .int ax, .int bx, .int tx] (zPM cL cI F (-9000000000000000001) P n0 Y.1) := by
  refine zStart (cc := cX3_compose) (maxL := 7) (ret := (some .long)) (by decide +kernel) rfl (Nat.le_of_ble_eq_true rfl) ?_
  intro p e s m below meth c hx hb hr hml hlk hown hts hAm H hP hS ls hl
  have hown : s.vm.findClass RX3 = some m.cls := hown
  have hl : lv_has ls 7 [(0, .ref (F 0)), (1, .int ax), (2, .int bx), (3, .int tx)] := hl
  refine lv_iload_n hx hb dX3_compose_0 rfl (lv_at hl 1 rfl) ?_
  by_cases h_ax : zin 0 7 ax
  ·
    refine zcallS (As := [.int ax]) (rest := []) (k := 1) hx hb hml hown hts (kX3_isSeries l D cL cI cR A F 7 (zME cL cI F C dg Y) ax 1 (by unfold zbN; rw [if_pos h_ax])) gX3_compose_X3_isSeries rfl (by decide +kernel) ⟨Nat.le_of_ble_eq_true rfl, Nat.le_of_ble_eq_true rfl⟩ hAm hP hS rfl hl.1 rfl (Nat.le_of_ble_eq_true rfl) dX3_compose_1 ⟨Nat.zero_le _, Nat.zero_le _⟩ (zkn (fun H locs hP hS => ?_))
    refine W.eq (g2 := F0 m 4 ls [.int (nI 1)]) rfl ?_
    refine zf_eq (tgt := 21) hx hb dX3_compose_4 (by decide) (by omega) (fun c1 => ?_) (fun c1 => ?_)
    ·
      exfalso; omega
    ·
      refine lv_iload_n hx hb dX3_compose_7 rfl (lv_at hl 2 rfl) ?_
      by_cases h_bx : zin 0 7 bx
      ·
        refine zcallS (As := [.int bx]) (rest := []) (k := 1) hx hb hml hown hts (kX3_isSeries l D cL cI cR A F 7 (zME cL cI F C dg Y) bx 1 (by unfold zbN; rw [if_pos h_bx])) gX3_compose_X3_isSeries rfl (by decide +kernel) ⟨Nat.le_of_ble_eq_true rfl, Nat.le_of_ble_eq_true rfl⟩ hAm hP hS rfl hl.1 rfl (Nat.le_of_ble_eq_true rfl) dX3_compose_8 ⟨Nat.zero_le _, Nat.zero_le _⟩ (zkn (fun H locs hP hS => ?_))
        refine W.eq (g2 := F0 m 11 ls [.int (nI 1)]) rfl ?_
        refine zf_eq (tgt := 21) hx hb dX3_compose_11 (by decide) (by omega) (fun c2 => ?_) (fun c2 => ?_)
        ·
          exfalso; omega
        ·
          refine lv_iload_n hx hb dX3_compose_14 rfl (lv_at hl 3 rfl) ?_
          by_cases h_tx : zin 0 7 tx
          ·
            refine zcallS (As := [.int tx]) (rest := []) (k := 1) hx hb hml hown hts (kX3_isSeries l D cL cI cR A F 7 (zME cL cI F C dg Y) tx 1 (by unfold zbN; rw [if_pos h_tx])) gX3_compose_X3_isSeries rfl (by decide +kernel) ⟨Nat.le_of_ble_eq_true rfl, Nat.le_of_ble_eq_true rfl⟩ hAm hP hS rfl hl.1 rfl (Nat.le_of_ble_eq_true rfl) dX3_compose_15 ⟨Nat.zero_le _, Nat.zero_le _⟩ (zkn (fun H locs hP hS => ?_))
            refine W.eq (g2 := F0 m 18 ls [.int (nI 1)]) rfl ?_
            refine zf_ne (tgt := 25) hx hb dX3_compose_18 (by decide) (by omega) (fun c3 => ?_) (fun c3 => ?_)
            ·
              exact absurd ⟨h_ax, h_bx, h_tx⟩ hbad
            ·
              exfalso; omega
          ·
            refine zcallS (As := [.int tx]) (rest := []) (k := 1) hx hb hml hown hts (kX3_isSeries l D cL cI cR A F 7 (zME cL cI F C dg Y) tx 0 (by unfold zbN; rw [if_neg h_tx])) gX3_compose_X3_isSeries rfl (by decide +kernel) ⟨Nat.le_of_ble_eq_true rfl, Nat.le_of_ble_eq_true rfl⟩ hAm hP hS rfl hl.1 rfl (Nat.le_of_ble_eq_true rfl) dX3_compose_15 ⟨Nat.zero_le _, Nat.zero_le _⟩ (zkn (fun H locs hP hS => ?_))
            refine W.eq (g2 := F0 m 18 ls [.int (nI 0)]) rfl ?_
            refine zf_ne (tgt := 25) hx hb dX3_compose_18 (by decide) (by omega) (fun c4 => ?_) (fun c4 => ?_)
            ·
              exfalso; omega
            ·
              refine lv_ldc2 hx hb hown (hts (.constantLong RX3 83 (-9000000000000000001)) (by decide +kernel)) dX3_compose_21 ?_
              exact zretL hx hb hr hlk hS hP dX3_compose_24 ⟨C, dg, Y, rfl, rfl, hCP, fun _ _ => rfl⟩
      ·
        refine zcallS (As := [.int bx]) (rest := []) (k := 1) hx hb hml hown hts (kX3_isSeries l D cL cI cR A F 7 (zME cL cI F C dg Y) bx 0 (by unfold zbN; rw [if_neg h_bx])) gX3_compose_X3_isSeries rfl (by decide +kernel) ⟨Nat.le_of_ble_eq_true rfl, Nat.le_of_ble_eq_true rfl⟩ hAm hP hS rfl hl.1 rfl (Nat.le_of_ble_eq_true rfl) dX3_compose_8 ⟨Nat.zero_le _, Nat.zero_le _⟩ (zkn (fun H locs hP hS => ?_))
        refine W.eq (g2 := F0 m 11 ls [.int (nI 0)]) rfl ?_
        refine zf_eq (tgt := 21) hx hb dX3_compose_11 (by decide) (by omega) (fun c5 => ?_) (fun c5 => ?_)
        ·
          refine lv_ldc2 hx hb hown (hts (.constantLong RX3 83 (-9000000000000000001)) (by decide +kernel)) dX3_compose_21 ?_
          exact zretL hx hb hr hlk hS hP dX3_compose_24 ⟨C, dg, Y, rfl, rfl, hCP, fun _ _ => rfl⟩
        ·
          exfalso; omega
  ·
    refine zcallS (As := [.int ax]) (rest := []) (k := 1) hx hb hml hown hts (kX3_isSeries l D cL cI cR A F 7 (zME cL cI F C dg Y) ax 0 (by unfold zbN; rw [if_neg h_ax])) gX3_compose_X3_isSeries rfl (by decide +kernel) ⟨Nat.le_of_ble_eq_true rfl, Nat.le_of_ble_eq_true rfl⟩ hAm hP hS rfl hl.1 rfl (Nat.le_of_ble_eq_true rfl) dX3_compose_1 ⟨Nat.zero_le _, Nat.zero_le _⟩ (zkn (fun H locs hP hS => ?_))
    refine W.eq (g2 := F0 m 4 ls [.int (nI 0)]) rfl ?_
    refine zf_eq (tgt := 21) hx hb dX3_compose_4 (by decide) (by omega) (fun c6 => ?_) (fun c6 => ?_)
    ·
      refine lv_ldc2 hx hb hown (hts (.constantLong RX3 83 (-9000000000000000001)) (by decide +kernel)) dX3_compose_21 ?_
      exact zretL hx hb hr hlk hS hP dX3_compose_24 ⟨C, dg, Y, rfl, rfl, hCP, fun _ _ => rfl⟩
    ·
      exfalso; omega

set_option maxHeartbeats 4000000 in
set_option maxRecDepth 100000 in
theorem kX3_differentiate_bad (l : Launch) (D : va_G) (cL cI cR : ClassId) (A : Nat → Prop) (F : Nat → Nat) (hF : zq_F A F 7) (C : Nat → Nat → Int64) (dg : Nat → Nat) (Y : zZM) (P : Nat → Nat → Int64) (n0 : Nat → Nat) (hCP : ∀ i, i < 8 → C i = P i ∧ dg i = n0 i) (ax tx : Int32) (hbad : ¬ (zin 0 7 ax ∧ zin 0 7 tx)) : zCt l yX3_differentiate wsX3_differentiate 2 45 D cL cI cR A F 7 (zME cL cI F C dg Y) [.ref (F 0), .int ax, .int tx] (zPM cL cI F (-9000000000000000001) P n0 Y.1) := by
  refine zStart (cc := cX3_differentiate) (maxL := 3) (ret := (some .long)) (by decide +kernel) rfl (Nat.le_of_ble_eq_true rfl) ?_
  intro p e s m below meth c hx hb hr hml hlk hown hts hAm H hP hS ls hl
  have hown : s.vm.findClass RX3 = some m.cls := hown
  have hl : lv_has ls 3 [(0, .ref (F 0)), (1, .int ax), (2, .int tx)] := hl
  refine lv_iload_n hx hb dX3_differentiate_0 rfl (lv_at hl 1 rfl) ?_
  by_cases h_ax : zin 0 7 ax
  ·
    refine zcallS (As := [.int ax]) (rest := []) (k := 1) hx hb hml hown hts (kX3_isSeries l D cL cI cR A F 7 (zME cL cI F C dg Y) ax 1 (by unfold zbN; rw [if_pos h_ax])) gX3_differentiate_X3_isSeries rfl (by decide +kernel) ⟨Nat.le_of_ble_eq_true rfl, Nat.le_of_ble_eq_true rfl⟩ hAm hP hS rfl hl.1 rfl (Nat.le_of_ble_eq_true rfl) dX3_differentiate_1 ⟨Nat.zero_le _, Nat.zero_le _⟩ (zkn (fun H locs hP hS => ?_))
    refine W.eq (g2 := F0 m 4 ls [.int (nI 1)]) rfl ?_
    refine zf_eq (tgt := 14) hx hb dX3_differentiate_4 (by decide) (by omega) (fun c1 => ?_) (fun c1 => ?_)
    ·
      exfalso; omega
    ·
      refine lv_iload_n hx hb dX3_differentiate_7 rfl (lv_at hl 2 rfl) ?_
      by_cases h_tx : zin 0 7 tx
      ·
        refine zcallS (As := [.int tx]) (rest := []) (k := 1) hx hb hml hown hts (kX3_isSeries l D cL cI cR A F 7 (zME cL cI F C dg Y) tx 1 (by unfold zbN; rw [if_pos h_tx])) gX3_differentiate_X3_isSeries rfl (by decide +kernel) ⟨Nat.le_of_ble_eq_true rfl, Nat.le_of_ble_eq_true rfl⟩ hAm hP hS rfl hl.1 rfl (Nat.le_of_ble_eq_true rfl) dX3_differentiate_8 ⟨Nat.zero_le _, Nat.zero_le _⟩ (zkn (fun H locs hP hS => ?_))
        refine W.eq (g2 := F0 m 11 ls [.int (nI 1)]) rfl ?_
        refine zf_ne (tgt := 18) hx hb dX3_differentiate_11 (by decide) (by omega) (fun c2 => ?_) (fun c2 => ?_)
        ·
          exact absurd ⟨h_ax, h_tx⟩ hbad
        ·
          exfalso; omega
      ·
        refine zcallS (As := [.int tx]) (rest := []) (k := 1) hx hb hml hown hts (kX3_isSeries l D cL cI cR A F 7 (zME cL cI F C dg Y) tx 0 (by unfold zbN; rw [if_neg h_tx])) gX3_differentiate_X3_isSeries rfl (by decide +kernel) ⟨Nat.le_of_ble_eq_true rfl, Nat.le_of_ble_eq_true rfl⟩ hAm hP hS rfl hl.1 rfl (Nat.le_of_ble_eq_true rfl) dX3_differentiate_8 ⟨Nat.zero_le _, Nat.zero_le _⟩ (zkn (fun H locs hP hS => ?_))
        refine W.eq (g2 := F0 m 11 ls [.int (nI 0)]) rfl ?_
        refine zf_ne (tgt := 18) hx hb dX3_differentiate_11 (by decide) (by omega) (fun c3 => ?_) (fun c3 => ?_)
        ·
          exfalso; omega
        ·
          refine lv_ldc2 hx hb hown (hts (.constantLong RX3 83 (-9000000000000000001)) (by decide +kernel)) dX3_differentiate_14 ?_
          exact zretL hx hb hr hlk hS hP dX3_differentiate_17 ⟨C, dg, Y, rfl, rfl, hCP, fun _ _ => rfl⟩
  ·
    refine zcallS (As := [.int ax]) (rest := []) (k := 1) hx hb hml hown hts (kX3_isSeries l D cL cI cR A F 7 (zME cL cI F C dg Y) ax 0 (by unfold zbN; rw [if_neg h_ax])) gX3_differentiate_X3_isSeries rfl (by decide +kernel) ⟨Nat.le_of_ble_eq_true rfl, Nat.le_of_ble_eq_true rfl⟩ hAm hP hS rfl hl.1 rfl (Nat.le_of_ble_eq_true rfl) dX3_differentiate_1 ⟨Nat.zero_le _, Nat.zero_le _⟩ (zkn (fun H locs hP hS => ?_))
    refine W.eq (g2 := F0 m 4 ls [.int (nI 0)]) rfl ?_
    refine zf_eq (tgt := 14) hx hb dX3_differentiate_4 (by decide) (by omega) (fun c4 => ?_) (fun c4 => ?_)
    ·
      refine lv_ldc2 hx hb hown (hts (.constantLong RX3 83 (-9000000000000000001)) (by decide +kernel)) dX3_differentiate_14 ?_
      exact zretL hx hb hr hlk hS hP dX3_differentiate_17 ⟨C, dg, Y, rfl, rfl, hCP, fun _ _ => rfl⟩
    ·
      exfalso; omega

set_option maxHeartbeats 4000000 in
set_option maxRecDepth 100000 in
theorem kX3_antidifferentiate_bad (l : Launch) (D : va_G) (cL cI cR : ClassId) (A : Nat → Prop) (F : Nat → Nat) (hF : zq_F A F 7) (C : Nat → Nat → Int64) (dg : Nat → Nat) (Y : zZM) (P : Nat → Nat → Int64) (n0 : Nat → Nat) (hCP : ∀ i, i < 8 → C i = P i ∧ dg i = n0 i) (ax tx : Int32) (hbad : ¬ (zin 0 7 ax ∧ zin 0 7 tx)) : zCt l yX3_antidifferentiate wsX3_antidifferentiate 2 45 D cL cI cR A F 7 (zME cL cI F C dg Y) [.ref (F 0), .int ax, .int tx] (zPM cL cI F (-9000000000000000001) P n0 Y.1) := by
  refine zStart (cc := cX3_antidifferentiate) (maxL := 9) (ret := (some .long)) (by decide +kernel) rfl (Nat.le_of_ble_eq_true rfl) ?_
  intro p e s m below meth c hx hb hr hml hlk hown hts hAm H hP hS ls hl
  have hown : s.vm.findClass RX3 = some m.cls := hown
  have hl : lv_has ls 9 [(0, .ref (F 0)), (1, .int ax), (2, .int tx)] := hl
  refine lv_iload_n hx hb dX3_antidifferentiate_0 rfl (lv_at hl 1 rfl) ?_
  by_cases h_ax : zin 0 7 ax
  ·
    refine zcallS (As := [.int ax]) (rest := []) (k := 1) hx hb hml hown hts (kX3_isSeries l D cL cI cR A F 7 (zME cL cI F C dg Y) ax 1 (by unfold zbN; rw [if_pos h_ax])) gX3_antidifferentiate_X3_isSeries rfl (by decide +kernel) ⟨Nat.le_of_ble_eq_true rfl, Nat.le_of_ble_eq_true rfl⟩ hAm hP hS rfl hl.1 rfl (Nat.le_of_ble_eq_true rfl) dX3_antidifferentiate_1 ⟨Nat.zero_le _, Nat.zero_le _⟩ (zkn (fun H locs hP hS => ?_))
    refine W.eq (g2 := F0 m 4 ls [.int (nI 1)]) rfl ?_
    refine zf_eq (tgt := 14) hx hb dX3_antidifferentiate_4 (by decide) (by omega) (fun c1 => ?_) (fun c1 => ?_)
    ·
      exfalso; omega
    ·
      refine lv_iload_n hx hb dX3_antidifferentiate_7 rfl (lv_at hl 2 rfl) ?_
      by_cases h_tx : zin 0 7 tx
      ·
        refine zcallS (As := [.int tx]) (rest := []) (k := 1) hx hb hml hown hts (kX3_isSeries l D cL cI cR A F 7 (zME cL cI F C dg Y) tx 1 (by unfold zbN; rw [if_pos h_tx])) gX3_antidifferentiate_X3_isSeries rfl (by decide +kernel) ⟨Nat.le_of_ble_eq_true rfl, Nat.le_of_ble_eq_true rfl⟩ hAm hP hS rfl hl.1 rfl (Nat.le_of_ble_eq_true rfl) dX3_antidifferentiate_8 ⟨Nat.zero_le _, Nat.zero_le _⟩ (zkn (fun H locs hP hS => ?_))
        refine W.eq (g2 := F0 m 11 ls [.int (nI 1)]) rfl ?_
        refine zf_ne (tgt := 18) hx hb dX3_antidifferentiate_11 (by decide) (by omega) (fun c2 => ?_) (fun c2 => ?_)
        ·
          exact absurd ⟨h_ax, h_tx⟩ hbad
        ·
          exfalso; omega
      ·
        refine zcallS (As := [.int tx]) (rest := []) (k := 1) hx hb hml hown hts (kX3_isSeries l D cL cI cR A F 7 (zME cL cI F C dg Y) tx 0 (by unfold zbN; rw [if_neg h_tx])) gX3_antidifferentiate_X3_isSeries rfl (by decide +kernel) ⟨Nat.le_of_ble_eq_true rfl, Nat.le_of_ble_eq_true rfl⟩ hAm hP hS rfl hl.1 rfl (Nat.le_of_ble_eq_true rfl) dX3_antidifferentiate_8 ⟨Nat.zero_le _, Nat.zero_le _⟩ (zkn (fun H locs hP hS => ?_))
        refine W.eq (g2 := F0 m 11 ls [.int (nI 0)]) rfl ?_
        refine zf_ne (tgt := 18) hx hb dX3_antidifferentiate_11 (by decide) (by omega) (fun c3 => ?_) (fun c3 => ?_)
        ·
          exfalso; omega
        ·
          refine lv_ldc2 hx hb hown (hts (.constantLong RX3 83 (-9000000000000000001)) (by decide +kernel)) dX3_antidifferentiate_14 ?_
          exact zretL hx hb hr hlk hS hP dX3_antidifferentiate_17 ⟨C, dg, Y, rfl, rfl, hCP, fun _ _ => rfl⟩
  ·
    refine zcallS (As := [.int ax]) (rest := []) (k := 1) hx hb hml hown hts (kX3_isSeries l D cL cI cR A F 7 (zME cL cI F C dg Y) ax 0 (by unfold zbN; rw [if_neg h_ax])) gX3_antidifferentiate_X3_isSeries rfl (by decide +kernel) ⟨Nat.le_of_ble_eq_true rfl, Nat.le_of_ble_eq_true rfl⟩ hAm hP hS rfl hl.1 rfl (Nat.le_of_ble_eq_true rfl) dX3_antidifferentiate_1 ⟨Nat.zero_le _, Nat.zero_le _⟩ (zkn (fun H locs hP hS => ?_))
    refine W.eq (g2 := F0 m 4 ls [.int (nI 0)]) rfl ?_
    refine zf_eq (tgt := 14) hx hb dX3_antidifferentiate_4 (by decide) (by omega) (fun c4 => ?_) (fun c4 => ?_)
    ·
      refine lv_ldc2 hx hb hown (hts (.constantLong RX3 83 (-9000000000000000001)) (by decide +kernel)) dX3_antidifferentiate_14 ?_
      exact zretL hx hb hr hlk hS hP dX3_antidifferentiate_17 ⟨C, dg, Y, rfl, rfl, hCP, fun _ _ => rfl⟩
    ·
      exfalso; omega

set_option maxHeartbeats 4000000 in
set_option maxRecDepth 100000 in
theorem kX3_divide_bad (l : Launch) (D : va_G) (cL cI cR : ClassId) (A : Nat → Prop) (F : Nat → Nat) (hF : zq_F A F 7) (C : Nat → Nat → Int64) (dg : Nat → Nat) (Y : zZM) (P : Nat → Nat → Int64) (n0 : Nat → Nat) (hCP : ∀ i, i < 8 → C i = P i ∧ dg i = n0 i) (ax rx tx : Int32) (hbad : ¬ (zin 0 7 ax ∧ zin 0 7 tx ∧ zin (-1048576) 1048576 rx)) : zCt l yX3_divide wsX3_divide 2 45 D cL cI cR A F 7 (zME cL cI F C dg Y) [.ref (F 0), .int ax, .int rx, .int tx] (zPM cL cI F (-9000000000000000001) P n0 Y.1) := by
  refine zStart (cc := cX3_divide) (maxL := 9) (ret := (some .long)) (by decide +kernel) rfl (Nat.le_of_ble_eq_true rfl) ?_
  intro p e s m below meth c hx hb hr hml hlk hown hts hAm H hP hS ls hl
  have hown : s.vm.findClass RX3 = some m.cls := hown
  have hl : lv_has ls 9 [(0, .ref (F 0)), (1, .int ax), (2, .int rx), (3, .int tx)] := hl
  refine lv_iload_n hx hb dX3_divide_0 rfl (lv_at hl 1 rfl) ?_
  by_cases h_ax : zin 0 7 ax
  ·
    refine zcallS (As := [.int ax]) (rest := []) (k := 1) hx hb hml hown hts (kX3_isSeries l D cL cI cR A F 7 (zME cL cI F C dg Y) ax 1 (by unfold zbN; rw [if_pos h_ax])) gX3_divide_X3_isSeries rfl (by decide +kernel) ⟨Nat.le_of_ble_eq_true rfl, Nat.le_of_ble_eq_true rfl⟩ hAm hP hS rfl hl.1 rfl (Nat.le_of_ble_eq_true rfl) dX3_divide_1 ⟨Nat.zero_le _, Nat.zero_le _⟩ (zkn (fun H locs hP hS => ?_))
    refine W.eq (g2 := F0 m 4 ls [.int (nI 1)]) rfl ?_
    refine zf_eq (tgt := 21) hx hb dX3_divide_4 (by decide) (by omega) (fun c1 => ?_) (fun c1 => ?_)
    ·
      exfalso; omega
    ·
      refine lv_iload_n hx hb dX3_divide_7 rfl (lv_at hl 2 rfl) ?_
      by_cases h_rx : zin (-1048576) 1048576 rx
      ·
        refine zcallS (As := [.int rx]) (rest := []) (k := 1) hx hb hml hown hts (kX3_isPoint l D cL cI cR A F 7 (zME cL cI F C dg Y) rx 1 (by unfold zbN; rw [if_pos h_rx])) gX3_divide_X3_isPoint rfl (by decide +kernel) ⟨Nat.le_of_ble_eq_true rfl, Nat.le_of_ble_eq_true rfl⟩ hAm hP hS rfl hl.1 rfl (Nat.le_of_ble_eq_true rfl) dX3_divide_8 ⟨Nat.zero_le _, Nat.zero_le _⟩ (zkn (fun H locs hP hS => ?_))
        refine W.eq (g2 := F0 m 11 ls [.int (nI 1)]) rfl ?_
        refine zf_eq (tgt := 21) hx hb dX3_divide_11 (by decide) (by omega) (fun c2 => ?_) (fun c2 => ?_)
        ·
          exfalso; omega
        ·
          refine lv_iload_n hx hb dX3_divide_14 rfl (lv_at hl 3 rfl) ?_
          by_cases h_tx : zin 0 7 tx
          ·
            refine zcallS (As := [.int tx]) (rest := []) (k := 1) hx hb hml hown hts (kX3_isSeries l D cL cI cR A F 7 (zME cL cI F C dg Y) tx 1 (by unfold zbN; rw [if_pos h_tx])) gX3_divide_X3_isSeries rfl (by decide +kernel) ⟨Nat.le_of_ble_eq_true rfl, Nat.le_of_ble_eq_true rfl⟩ hAm hP hS rfl hl.1 rfl (Nat.le_of_ble_eq_true rfl) dX3_divide_15 ⟨Nat.zero_le _, Nat.zero_le _⟩ (zkn (fun H locs hP hS => ?_))
            refine W.eq (g2 := F0 m 18 ls [.int (nI 1)]) rfl ?_
            refine zf_ne (tgt := 25) hx hb dX3_divide_18 (by decide) (by omega) (fun c3 => ?_) (fun c3 => ?_)
            ·
              exact absurd ⟨h_ax, h_tx, h_rx⟩ hbad
            ·
              exfalso; omega
          ·
            refine zcallS (As := [.int tx]) (rest := []) (k := 1) hx hb hml hown hts (kX3_isSeries l D cL cI cR A F 7 (zME cL cI F C dg Y) tx 0 (by unfold zbN; rw [if_neg h_tx])) gX3_divide_X3_isSeries rfl (by decide +kernel) ⟨Nat.le_of_ble_eq_true rfl, Nat.le_of_ble_eq_true rfl⟩ hAm hP hS rfl hl.1 rfl (Nat.le_of_ble_eq_true rfl) dX3_divide_15 ⟨Nat.zero_le _, Nat.zero_le _⟩ (zkn (fun H locs hP hS => ?_))
            refine W.eq (g2 := F0 m 18 ls [.int (nI 0)]) rfl ?_
            refine zf_ne (tgt := 25) hx hb dX3_divide_18 (by decide) (by omega) (fun c4 => ?_) (fun c4 => ?_)
            ·
              exfalso; omega
            ·
              refine lv_ldc2 hx hb hown (hts (.constantLong RX3 83 (-9000000000000000001)) (by decide +kernel)) dX3_divide_21 ?_
              exact zretL hx hb hr hlk hS hP dX3_divide_24 ⟨C, dg, Y, rfl, rfl, hCP, fun _ _ => rfl⟩
      ·
        refine zcallS (As := [.int rx]) (rest := []) (k := 1) hx hb hml hown hts (kX3_isPoint l D cL cI cR A F 7 (zME cL cI F C dg Y) rx 0 (by unfold zbN; rw [if_neg h_rx])) gX3_divide_X3_isPoint rfl (by decide +kernel) ⟨Nat.le_of_ble_eq_true rfl, Nat.le_of_ble_eq_true rfl⟩ hAm hP hS rfl hl.1 rfl (Nat.le_of_ble_eq_true rfl) dX3_divide_8 ⟨Nat.zero_le _, Nat.zero_le _⟩ (zkn (fun H locs hP hS => ?_))
        refine W.eq (g2 := F0 m 11 ls [.int (nI 0)]) rfl ?_
        refine zf_eq (tgt := 21) hx hb dX3_divide_11 (by decide) (by omega) (fun c5 => ?_) (fun c5 => ?_)
        ·
          refine lv_ldc2 hx hb hown (hts (.constantLong RX3 83 (-9000000000000000001)) (by decide +kernel)) dX3_divide_21 ?_
          exact zretL hx hb hr hlk hS hP dX3_divide_24 ⟨C, dg, Y, rfl, rfl, hCP, fun _ _ => rfl⟩
        ·
          exfalso; omega
  ·
    refine zcallS (As := [.int ax]) (rest := []) (k := 1) hx hb hml hown hts (kX3_isSeries l D cL cI cR A F 7 (zME cL cI F C dg Y) ax 0 (by unfold zbN; rw [if_neg h_ax])) gX3_divide_X3_isSeries rfl (by decide +kernel) ⟨Nat.le_of_ble_eq_true rfl, Nat.le_of_ble_eq_true rfl⟩ hAm hP hS rfl hl.1 rfl (Nat.le_of_ble_eq_true rfl) dX3_divide_1 ⟨Nat.zero_le _, Nat.zero_le _⟩ (zkn (fun H locs hP hS => ?_))
    refine W.eq (g2 := F0 m 4 ls [.int (nI 0)]) rfl ?_
    refine zf_eq (tgt := 21) hx hb dX3_divide_4 (by decide) (by omega) (fun c6 => ?_) (fun c6 => ?_)
    ·
      refine lv_ldc2 hx hb hown (hts (.constantLong RX3 83 (-9000000000000000001)) (by decide +kernel)) dX3_divide_21 ?_
      exact zretL hx hb hr hlk hS hP dX3_divide_24 ⟨C, dg, Y, rfl, rfl, hCP, fun _ _ => rfl⟩
    ·
      exfalso; omega

set_option maxHeartbeats 4000000 in
set_option maxRecDepth 100000 in
theorem kX3_cut_bad (l : Launch) (D : va_G) (cL cI cR : ClassId) (A : Nat → Prop) (F : Nat → Nat) (hF : zq_F A F 7) (C : Nat → Nat → Int64) (dg : Nat → Nat) (Y : zZM) (P : Nat → Nat → Int64) (n0 : Nat → Nat) (hCP : ∀ i, i < 8 → C i = P i ∧ dg i = n0 i) (sx tolx : Int32) (hbad : ¬ (zin 0 7 sx ∧ zin 0 1000000000 tolx)) : zCt l yX3_cut wsX3_cut 2 45 D cL cI cR A F 7 (zME cL cI F C dg Y) [.ref (F 0), .int sx, .int tolx] (zPM cL cI F (-9000000000000000001) P n0 Y.1) := by
  refine zStart (cc := cX3_cut) (maxL := 6) (ret := (some .long)) (by decide +kernel) rfl (Nat.le_of_ble_eq_true rfl) ?_
  intro p e s m below meth c hx hb hr hml hlk hown hts hAm H hP hS ls hl
  have hown : s.vm.findClass RX3 = some m.cls := hown
  have hl : lv_has ls 6 [(0, .ref (F 0)), (1, .int sx), (2, .int tolx)] := hl
  refine lv_iload_n hx hb dX3_cut_0 rfl (lv_at hl 1 rfl) ?_
  by_cases h_sx : zin 0 7 sx
  ·
    refine zcallS (As := [.int sx]) (rest := []) (k := 1) hx hb hml hown hts (kX3_isSeries l D cL cI cR A F 7 (zME cL cI F C dg Y) sx 1 (by unfold zbN; rw [if_pos h_sx])) gX3_cut_X3_isSeries rfl (by decide +kernel) ⟨Nat.le_of_ble_eq_true rfl, Nat.le_of_ble_eq_true rfl⟩ hAm hP hS rfl hl.1 rfl (Nat.le_of_ble_eq_true rfl) dX3_cut_1 ⟨Nat.zero_le _, Nat.zero_le _⟩ (zkn (fun H locs hP hS => ?_))
    refine W.eq (g2 := F0 m 4 ls [.int (nI 1)]) rfl ?_
    refine zf_eq (tgt := 14) hx hb dX3_cut_4 (by decide) (by omega) (fun c1 => ?_) (fun c1 => ?_)
    ·
      exfalso; omega
    ·
      refine lv_iload_n hx hb dX3_cut_7 rfl (lv_at hl 2 rfl) ?_
      by_cases h_tolx : zin 0 1000000000 tolx
      ·
        refine zcallS (As := [.int tolx]) (rest := []) (k := 1) hx hb hml hown hts (kX3_isTolerance l D cL cI cR A F 7 (zME cL cI F C dg Y) tolx 1 (by unfold zbN; rw [if_pos h_tolx])) gX3_cut_X3_isTolerance rfl (by decide +kernel) ⟨Nat.le_of_ble_eq_true rfl, Nat.le_of_ble_eq_true rfl⟩ hAm hP hS rfl hl.1 rfl (Nat.le_of_ble_eq_true rfl) dX3_cut_8 ⟨Nat.zero_le _, Nat.zero_le _⟩ (zkn (fun H locs hP hS => ?_))
        refine W.eq (g2 := F0 m 11 ls [.int (nI 1)]) rfl ?_
        refine zf_ne (tgt := 18) hx hb dX3_cut_11 (by decide) (by omega) (fun c2 => ?_) (fun c2 => ?_)
        ·
          exact absurd ⟨h_sx, h_tolx⟩ hbad
        ·
          exfalso; omega
      ·
        refine zcallS (As := [.int tolx]) (rest := []) (k := 1) hx hb hml hown hts (kX3_isTolerance l D cL cI cR A F 7 (zME cL cI F C dg Y) tolx 0 (by unfold zbN; rw [if_neg h_tolx])) gX3_cut_X3_isTolerance rfl (by decide +kernel) ⟨Nat.le_of_ble_eq_true rfl, Nat.le_of_ble_eq_true rfl⟩ hAm hP hS rfl hl.1 rfl (Nat.le_of_ble_eq_true rfl) dX3_cut_8 ⟨Nat.zero_le _, Nat.zero_le _⟩ (zkn (fun H locs hP hS => ?_))
        refine W.eq (g2 := F0 m 11 ls [.int (nI 0)]) rfl ?_
        refine zf_ne (tgt := 18) hx hb dX3_cut_11 (by decide) (by omega) (fun c3 => ?_) (fun c3 => ?_)
        ·
          exfalso; omega
        ·
          refine lv_ldc2 hx hb hown (hts (.constantLong RX3 83 (-9000000000000000001)) (by decide +kernel)) dX3_cut_14 ?_
          exact zretL hx hb hr hlk hS hP dX3_cut_17 ⟨C, dg, Y, rfl, rfl, hCP, fun _ _ => rfl⟩
  ·
    refine zcallS (As := [.int sx]) (rest := []) (k := 1) hx hb hml hown hts (kX3_isSeries l D cL cI cR A F 7 (zME cL cI F C dg Y) sx 0 (by unfold zbN; rw [if_neg h_sx])) gX3_cut_X3_isSeries rfl (by decide +kernel) ⟨Nat.le_of_ble_eq_true rfl, Nat.le_of_ble_eq_true rfl⟩ hAm hP hS rfl hl.1 rfl (Nat.le_of_ble_eq_true rfl) dX3_cut_1 ⟨Nat.zero_le _, Nat.zero_le _⟩ (zkn (fun H locs hP hS => ?_))
    refine W.eq (g2 := F0 m 4 ls [.int (nI 0)]) rfl ?_
    refine zf_eq (tgt := 14) hx hb dX3_cut_4 (by decide) (by omega) (fun c4 => ?_) (fun c4 => ?_)
    ·
      refine lv_ldc2 hx hb hown (hts (.constantLong RX3 83 (-9000000000000000001)) (by decide +kernel)) dX3_cut_14 ?_
      exact zretL hx hb hr hlk hS hP dX3_cut_17 ⟨C, dg, Y, rfl, rfl, hCP, fun _ _ => rfl⟩
    ·
      exfalso; omega

set_option maxHeartbeats 4000000 in
set_option maxRecDepth 100000 in
theorem kX3_degreeWith_bad (l : Launch) (D : va_G) (cL cI cR : ClassId) (A : Nat → Prop) (F : Nat → Nat) (hF : zq_F A F 7) (C : Nat → Nat → Int64) (dg : Nat → Nat) (Y : zZM) (P : Nat → Nat → Int64) (n0 : Nat → Nat) (hCP : ∀ i, i < 8 → C i = P i ∧ dg i = n0 i) (sx tolx : Int32) (hbad : ¬ (zin 0 7 sx ∧ zin 0 1000000000 tolx)) : zCt l yX3_degreeWith wsX3_degreeWith 2 45 D cL cI cR A F 7 (zME cL cI F C dg Y) [.ref (F 0), .int sx, .int tolx] (zPM cL cI F (-9000000000000000001) P n0 Y.1) := by
  refine zStart (cc := cX3_degreeWith) (maxL := 3) (ret := (some .long)) (by decide +kernel) rfl (Nat.le_of_ble_eq_true rfl) ?_
  intro p e s m below meth c hx hb hr hml hlk hown hts hAm H hP hS ls hl
  have hown : s.vm.findClass RX3 = some m.cls := hown
  have hl : lv_has ls 3 [(0, .ref (F 0)), (1, .int sx), (2, .int tolx)] := hl
  refine lv_iload_n hx hb dX3_degreeWith_0 rfl (lv_at hl 1 rfl) ?_
  by_cases h_sx : zin 0 7 sx
  ·
    refine zcallS (As := [.int sx]) (rest := []) (k := 1) hx hb hml hown hts (kX3_isSeries l D cL cI cR A F 7 (zME cL cI F C dg Y) sx 1 (by unfold zbN; rw [if_pos h_sx])) gX3_degreeWith_X3_isSeries rfl (by decide +kernel) ⟨Nat.le_of_ble_eq_true rfl, Nat.le_of_ble_eq_true rfl⟩ hAm hP hS rfl hl.1 rfl (Nat.le_of_ble_eq_true rfl) dX3_degreeWith_1 ⟨Nat.zero_le _, Nat.zero_le _⟩ (zkn (fun H locs hP hS => ?_))
    refine W.eq (g2 := F0 m 4 ls [.int (nI 1)]) rfl ?_
    refine zf_eq (tgt := 25) hx hb dX3_degreeWith_4 (by decide) (by omega) (fun c1 => ?_) (fun c1 => ?_)
    ·
      exfalso; omega
    ·
      refine lv_iload_n hx hb dX3_degreeWith_7 rfl (lv_at hl 2 rfl) ?_
      by_cases h_tolx : zin 0 1000000000 tolx
      ·
        refine zcallS (As := [.int tolx]) (rest := []) (k := 1) hx hb hml hown hts (kX3_isTolerance l D cL cI cR A F 7 (zME cL cI F C dg Y) tolx 1 (by unfold zbN; rw [if_pos h_tolx])) gX3_degreeWith_X3_isTolerance rfl (by decide +kernel) ⟨Nat.le_of_ble_eq_true rfl, Nat.le_of_ble_eq_true rfl⟩ hAm hP hS rfl hl.1 rfl (Nat.le_of_ble_eq_true rfl) dX3_degreeWith_8 ⟨Nat.zero_le _, Nat.zero_le _⟩ (zkn (fun H locs hP hS => ?_))
        refine W.eq (g2 := F0 m 11 ls [.int (nI 1)]) rfl ?_
        refine zf_eq (tgt := 25) hx hb dX3_degreeWith_11 (by decide) (by omega) (fun c2 => ?_) (fun c2 => ?_)
        ·
          exfalso; omega
        ·
          exact absurd ⟨h_sx, h_tolx⟩ hbad
      ·
        refine zcallS (As := [.int tolx]) (rest := []) (k := 1) hx hb hml hown hts (kX3_isTolerance l D cL cI cR A F 7 (zME cL cI F C dg Y) tolx 0 (by unfold zbN; rw [if_neg h_tolx])) gX3_degreeWith_X3_isTolerance rfl (by decide +kernel) ⟨Nat.le_of_ble_eq_true rfl, Nat.le_of_ble_eq_true rfl⟩ hAm hP hS rfl hl.1 rfl (Nat.le_of_ble_eq_true rfl) dX3_degreeWith_8 ⟨Nat.zero_le _, Nat.zero_le _⟩ (zkn (fun H locs hP hS => ?_))
        refine W.eq (g2 := F0 m 11 ls [.int (nI 0)]) rfl ?_
        refine zf_eq (tgt := 25) hx hb dX3_degreeWith_11 (by decide) (by omega) (fun c3 => ?_) (fun c3 => ?_)
        ·
          refine lv_ldc2 hx hb hown (hts (.constantLong RX3 83 (-9000000000000000001)) (by decide +kernel)) dX3_degreeWith_25 ?_
          exact zretL hx hb hr hlk hS hP dX3_degreeWith_28 ⟨C, dg, Y, rfl, rfl, hCP, fun _ _ => rfl⟩
        ·
          exfalso; omega
  ·
    refine zcallS (As := [.int sx]) (rest := []) (k := 1) hx hb hml hown hts (kX3_isSeries l D cL cI cR A F 7 (zME cL cI F C dg Y) sx 0 (by unfold zbN; rw [if_neg h_sx])) gX3_degreeWith_X3_isSeries rfl (by decide +kernel) ⟨Nat.le_of_ble_eq_true rfl, Nat.le_of_ble_eq_true rfl⟩ hAm hP hS rfl hl.1 rfl (Nat.le_of_ble_eq_true rfl) dX3_degreeWith_1 ⟨Nat.zero_le _, Nat.zero_le _⟩ (zkn (fun H locs hP hS => ?_))
    refine W.eq (g2 := F0 m 4 ls [.int (nI 0)]) rfl ?_
    refine zf_eq (tgt := 25) hx hb dX3_degreeWith_4 (by decide) (by omega) (fun c4 => ?_) (fun c4 => ?_)
    ·
      refine lv_ldc2 hx hb hown (hts (.constantLong RX3 83 (-9000000000000000001)) (by decide +kernel)) dX3_degreeWith_25 ?_
      exact zretL hx hb hr hlk hS hP dX3_degreeWith_28 ⟨C, dg, Y, rfl, rfl, hCP, fun _ _ => rfl⟩
    ·
      exfalso; omega

set_option maxHeartbeats 4000000 in
set_option maxRecDepth 100000 in
theorem kX3_basis_bad (l : Launch) (D : va_G) (cL cI cR : ClassId) (A : Nat → Prop) (F : Nat → Nat) (hF : zq_F A F 7) (C : Nat → Nat → Int64) (dg : Nat → Nat) (Y : zZM) (P : Nat → Nat → Int64) (n0 : Nat → Nat) (hCP : ∀ i, i < 8 → C i = P i ∧ dg i = n0 i) (kx tx : Int32) (hbad : ¬ (zin 0 7 tx ∧ zin 0 24 kx)) : zCt l yX3_basis wsX3_basis 2 45 D cL cI cR A F 7 (zME cL cI F C dg Y) [.ref (F 0), .int kx, .int tx] (zPM cL cI F (-9000000000000000001) P n0 Y.1) := by
  refine zStart (cc := cX3_basis) (maxL := 3) (ret := (some .long)) (by decide +kernel) rfl (Nat.le_of_ble_eq_true rfl) ?_
  intro p e s m below meth c hx hb hr hml hlk hown hts hAm H hP hS ls hl
  have hown : s.vm.findClass RX3 = some m.cls := hown
  have hl : lv_has ls 3 [(0, .ref (F 0)), (1, .int kx), (2, .int tx)] := hl
  refine lv_iload_n hx hb dX3_basis_0 rfl (lv_at hl 1 rfl) ?_
  refine lv_i2l (v := kx.toInt64) hx hb dX3_basis_1 rfl ?_
  refine lv_lconst (v := (0 : Int64)) hx hb dX3_basis_2 (by decide +kernel) ?_
  refine lv_ldc2 hx hb hown (hts (.constantLong RX3 79 (24)) (by decide +kernel)) dX3_basis_3 ?_
  by_cases h_kx : zin 0 24 kx
  ·
    refine zcallS (As := [.long kx.toInt64, .long (0 : Int64), .long (24 : Int64)]) (rest := []) (k := 3) hx hb hml hown hts (kX3_in l D cL cI cR A F 7 (zME cL cI F C dg Y) kx.toInt64 (0 : Int64) (24 : Int64) 1 (zn1 rfl rfl h_kx)) gX3_basis_X3_in rfl (by decide +kernel) ⟨Nat.le_of_ble_eq_true rfl, Nat.le_of_ble_eq_true rfl⟩ hAm hP hS rfl hl.1 rfl (Nat.le_of_ble_eq_true rfl) dX3_basis_6 ⟨Nat.zero_le _, Nat.zero_le _⟩ (zkn (fun H locs hP hS => ?_))
    refine W.eq (g2 := F0 m 9 ls [.int (nI 1)]) rfl ?_
    refine zf_eq (tgt := 19) hx hb dX3_basis_9 (by decide) (by omega) (fun c1 => ?_) (fun c1 => ?_)
    ·
      exfalso; omega
    ·
      refine lv_iload_n hx hb dX3_basis_12 rfl (lv_at hl 2 rfl) ?_
      by_cases h_tx : zin 0 7 tx
      ·
        refine zcallS (As := [.int tx]) (rest := []) (k := 1) hx hb hml hown hts (kX3_isSeries l D cL cI cR A F 7 (zME cL cI F C dg Y) tx 1 (by unfold zbN; rw [if_pos h_tx])) gX3_basis_X3_isSeries rfl (by decide +kernel) ⟨Nat.le_of_ble_eq_true rfl, Nat.le_of_ble_eq_true rfl⟩ hAm hP hS rfl hl.1 rfl (Nat.le_of_ble_eq_true rfl) dX3_basis_13 ⟨Nat.zero_le _, Nat.zero_le _⟩ (zkn (fun H locs hP hS => ?_))
        refine W.eq (g2 := F0 m 16 ls [.int (nI 1)]) rfl ?_
        refine zf_ne (tgt := 23) hx hb dX3_basis_16 (by decide) (by omega) (fun c2 => ?_) (fun c2 => ?_)
        ·
          exact absurd ⟨h_tx, h_kx⟩ hbad
        ·
          exfalso; omega
      ·
        refine zcallS (As := [.int tx]) (rest := []) (k := 1) hx hb hml hown hts (kX3_isSeries l D cL cI cR A F 7 (zME cL cI F C dg Y) tx 0 (by unfold zbN; rw [if_neg h_tx])) gX3_basis_X3_isSeries rfl (by decide +kernel) ⟨Nat.le_of_ble_eq_true rfl, Nat.le_of_ble_eq_true rfl⟩ hAm hP hS rfl hl.1 rfl (Nat.le_of_ble_eq_true rfl) dX3_basis_13 ⟨Nat.zero_le _, Nat.zero_le _⟩ (zkn (fun H locs hP hS => ?_))
        refine W.eq (g2 := F0 m 16 ls [.int (nI 0)]) rfl ?_
        refine zf_ne (tgt := 23) hx hb dX3_basis_16 (by decide) (by omega) (fun c3 => ?_) (fun c3 => ?_)
        ·
          exfalso; omega
        ·
          refine lv_ldc2 hx hb hown (hts (.constantLong RX3 83 (-9000000000000000001)) (by decide +kernel)) dX3_basis_19 ?_
          exact zretL hx hb hr hlk hS hP dX3_basis_22 ⟨C, dg, Y, rfl, rfl, hCP, fun _ _ => rfl⟩
  ·
    refine zcallS (As := [.long kx.toInt64, .long (0 : Int64), .long (24 : Int64)]) (rest := []) (k := 3) hx hb hml hown hts (kX3_in l D cL cI cR A F 7 (zME cL cI F C dg Y) kx.toInt64 (0 : Int64) (24 : Int64) 0 (zn0 rfl rfl h_kx)) gX3_basis_X3_in rfl (by decide +kernel) ⟨Nat.le_of_ble_eq_true rfl, Nat.le_of_ble_eq_true rfl⟩ hAm hP hS rfl hl.1 rfl (Nat.le_of_ble_eq_true rfl) dX3_basis_6 ⟨Nat.zero_le _, Nat.zero_le _⟩ (zkn (fun H locs hP hS => ?_))
    refine W.eq (g2 := F0 m 9 ls [.int (nI 0)]) rfl ?_
    refine zf_eq (tgt := 19) hx hb dX3_basis_9 (by decide) (by omega) (fun c4 => ?_) (fun c4 => ?_)
    ·
      refine lv_ldc2 hx hb hown (hts (.constantLong RX3 83 (-9000000000000000001)) (by decide +kernel)) dX3_basis_19 ?_
      exact zretL hx hb hr hlk hS hP dX3_basis_22 ⟨C, dg, Y, rfl, rfl, hCP, fun _ _ => rfl⟩
    ·
      exfalso; omega

set_option maxHeartbeats 4000000 in
set_option maxRecDepth 100000 in
theorem kX3_integral_bad (l : Launch) (D : va_G) (cL cI cR : ClassId) (A : Nat → Prop) (F : Nat → Nat) (hF : zq_F A F 7) (C : Nat → Nat → Int64) (dg : Nat → Nat) (Y : zZM) (P : Nat → Nat → Int64) (n0 : Nat → Nat) (hCP : ∀ i, i < 8 → C i = P i ∧ dg i = n0 i) (sx : Int32) (hbad : ¬ (zin 0 7 sx)) : zCt l yX3_integral wsX3_integral 2 45 D cL cI cR A F 7 (zME cL cI F C dg Y) [.ref (F 0), .int sx] (zPM cL cI F (-9000000000000000001) P n0 Y.1) := by
  refine zStart (cc := cX3_integral) (maxL := 5) (ret := (some .long)) (by decide +kernel) rfl (Nat.le_of_ble_eq_true rfl) ?_
  intro p e s m below meth c hx hb hr hml hlk hown hts hAm H hP hS ls hl
  have hown : s.vm.findClass RX3 = some m.cls := hown
  have hl : lv_has ls 5 [(0, .ref (F 0)), (1, .int sx)] := hl
  refine lv_iload_n hx hb dX3_integral_0 rfl (lv_at hl 1 rfl) ?_
  by_cases h_sx : zin 0 7 sx
  ·
    refine zcallS (As := [.int sx]) (rest := []) (k := 1) hx hb hml hown hts (kX3_isSeries l D cL cI cR A F 7 (zME cL cI F C dg Y) sx 1 (by unfold zbN; rw [if_pos h_sx])) gX3_integral_X3_isSeries rfl (by decide +kernel) ⟨Nat.le_of_ble_eq_true rfl, Nat.le_of_ble_eq_true rfl⟩ hAm hP hS rfl hl.1 rfl (Nat.le_of_ble_eq_true rfl) dX3_integral_1 ⟨Nat.zero_le _, Nat.zero_le _⟩ (zkn (fun H locs hP hS => ?_))
    refine W.eq (g2 := F0 m 4 ls [.int (nI 1)]) rfl ?_
    refine zf_ne (tgt := 11) hx hb dX3_integral_4 (by decide) (by omega) (fun c1 => ?_) (fun c1 => ?_)
    ·
      exact absurd h_sx hbad
    ·
      exfalso; omega
  ·
    refine zcallS (As := [.int sx]) (rest := []) (k := 1) hx hb hml hown hts (kX3_isSeries l D cL cI cR A F 7 (zME cL cI F C dg Y) sx 0 (by unfold zbN; rw [if_neg h_sx])) gX3_integral_X3_isSeries rfl (by decide +kernel) ⟨Nat.le_of_ble_eq_true rfl, Nat.le_of_ble_eq_true rfl⟩ hAm hP hS rfl hl.1 rfl (Nat.le_of_ble_eq_true rfl) dX3_integral_1 ⟨Nat.zero_le _, Nat.zero_le _⟩ (zkn (fun H locs hP hS => ?_))
    refine W.eq (g2 := F0 m 4 ls [.int (nI 0)]) rfl ?_
    refine zf_ne (tgt := 11) hx hb dX3_integral_4 (by decide) (by omega) (fun c2 => ?_) (fun c2 => ?_)
    ·
      exfalso; omega
    ·
      refine lv_ldc2 hx hb hown (hts (.constantLong RX3 83 (-9000000000000000001)) (by decide +kernel)) dX3_integral_7 ?_
      exact zretL hx hb hr hlk hS hP dX3_integral_10 ⟨C, dg, Y, rfl, rfl, hCP, fun _ _ => rfl⟩

set_option maxHeartbeats 4000000 in
set_option maxRecDepth 100000 in
theorem kX3_bound_bad (l : Launch) (D : va_G) (cL cI cR : ClassId) (A : Nat → Prop) (F : Nat → Nat) (hF : zq_F A F 7) (C : Nat → Nat → Int64) (dg : Nat → Nat) (Y : zZM) (P : Nat → Nat → Int64) (n0 : Nat → Nat) (hCP : ∀ i, i < 8 → C i = P i ∧ dg i = n0 i) (sx : Int32) (hbad : ¬ (zin 0 7 sx)) : zCt l yX3_bound wsX3_bound 2 45 D cL cI cR A F 7 (zME cL cI F C dg Y) [.ref (F 0), .int sx] (zPM cL cI F (-9000000000000000001) P n0 Y.1) := by
  refine zStart (cc := cX3_bound) (maxL := 5) (ret := (some .long)) (by decide +kernel) rfl (Nat.le_of_ble_eq_true rfl) ?_
  intro p e s m below meth c hx hb hr hml hlk hown hts hAm H hP hS ls hl
  have hown : s.vm.findClass RX3 = some m.cls := hown
  have hl : lv_has ls 5 [(0, .ref (F 0)), (1, .int sx)] := hl
  refine lv_iload_n hx hb dX3_bound_0 rfl (lv_at hl 1 rfl) ?_
  by_cases h_sx : zin 0 7 sx
  ·
    refine zcallS (As := [.int sx]) (rest := []) (k := 1) hx hb hml hown hts (kX3_isSeries l D cL cI cR A F 7 (zME cL cI F C dg Y) sx 1 (by unfold zbN; rw [if_pos h_sx])) gX3_bound_X3_isSeries rfl (by decide +kernel) ⟨Nat.le_of_ble_eq_true rfl, Nat.le_of_ble_eq_true rfl⟩ hAm hP hS rfl hl.1 rfl (Nat.le_of_ble_eq_true rfl) dX3_bound_1 ⟨Nat.zero_le _, Nat.zero_le _⟩ (zkn (fun H locs hP hS => ?_))
    refine W.eq (g2 := F0 m 4 ls [.int (nI 1)]) rfl ?_
    refine zf_ne (tgt := 11) hx hb dX3_bound_4 (by decide) (by omega) (fun c1 => ?_) (fun c1 => ?_)
    ·
      exact absurd h_sx hbad
    ·
      exfalso; omega
  ·
    refine zcallS (As := [.int sx]) (rest := []) (k := 1) hx hb hml hown hts (kX3_isSeries l D cL cI cR A F 7 (zME cL cI F C dg Y) sx 0 (by unfold zbN; rw [if_neg h_sx])) gX3_bound_X3_isSeries rfl (by decide +kernel) ⟨Nat.le_of_ble_eq_true rfl, Nat.le_of_ble_eq_true rfl⟩ hAm hP hS rfl hl.1 rfl (Nat.le_of_ble_eq_true rfl) dX3_bound_1 ⟨Nat.zero_le _, Nat.zero_le _⟩ (zkn (fun H locs hP hS => ?_))
    refine W.eq (g2 := F0 m 4 ls [.int (nI 0)]) rfl ?_
    refine zf_ne (tgt := 11) hx hb dX3_bound_4 (by decide) (by omega) (fun c2 => ?_) (fun c2 => ?_)
    ·
      exfalso; omega
    ·
      refine lv_ldc2 hx hb hown (hts (.constantLong RX3 83 (-9000000000000000001)) (by decide +kernel)) dX3_bound_7 ?_
      exact zretL hx hb hr hlk hS hP dX3_bound_10 ⟨C, dg, Y, rfl, rfl, hCP, fun _ _ => rfl⟩

set_option maxHeartbeats 4000000 in
set_option maxRecDepth 100000 in
theorem kX3_intervals_bad (l : Launch) (D : va_G) (cL cI cR : ClassId) (A : Nat → Prop) (F : Nat → Nat) (hF : zq_F A F 7) (C : Nat → Nat → Int64) (dg : Nat → Nat) (Y : zZM) (P : Nat → Nat → Int64) (n0 : Nat → Nat) (hCP : ∀ i, i < 8 → C i = P i ∧ dg i = n0 i) (sx : Int32) (hbad : ¬ (zin 0 7 sx)) : zCt l yX3_intervals wsX3_intervals 2 45 D cL cI cR A F 7 (zME cL cI F C dg Y) [.ref (F 0), .int sx] (zPM cL cI F (-9000000000000000001) P n0 Y.1) := by
  refine zStart (cc := cX3_intervals) (maxL := 2) (ret := (some .long)) (by decide +kernel) rfl (Nat.le_of_ble_eq_true rfl) ?_
  intro p e s m below meth c hx hb hr hml hlk hown hts hAm H hP hS ls hl
  have hown : s.vm.findClass RX3 = some m.cls := hown
  have hl : lv_has ls 2 [(0, .ref (F 0)), (1, .int sx)] := hl
  refine lv_iload_n hx hb dX3_intervals_0 rfl (lv_at hl 1 rfl) ?_
  by_cases h_sx : zin 0 7 sx
  ·
    refine zcallS (As := [.int sx]) (rest := []) (k := 1) hx hb hml hown hts (kX3_isSeries l D cL cI cR A F 7 (zME cL cI F C dg Y) sx 1 (by unfold zbN; rw [if_pos h_sx])) gX3_intervals_X3_isSeries rfl (by decide +kernel) ⟨Nat.le_of_ble_eq_true rfl, Nat.le_of_ble_eq_true rfl⟩ hAm hP hS rfl hl.1 rfl (Nat.le_of_ble_eq_true rfl) dX3_intervals_1 ⟨Nat.zero_le _, Nat.zero_le _⟩ (zkn (fun H locs hP hS => ?_))
    refine W.eq (g2 := F0 m 4 ls [.int (nI 1)]) rfl ?_
    refine zf_ne (tgt := 11) hx hb dX3_intervals_4 (by decide) (by omega) (fun c1 => ?_) (fun c1 => ?_)
    ·
      exact absurd h_sx hbad
    ·
      exfalso; omega
  ·
    refine zcallS (As := [.int sx]) (rest := []) (k := 1) hx hb hml hown hts (kX3_isSeries l D cL cI cR A F 7 (zME cL cI F C dg Y) sx 0 (by unfold zbN; rw [if_neg h_sx])) gX3_intervals_X3_isSeries rfl (by decide +kernel) ⟨Nat.le_of_ble_eq_true rfl, Nat.le_of_ble_eq_true rfl⟩ hAm hP hS rfl hl.1 rfl (Nat.le_of_ble_eq_true rfl) dX3_intervals_1 ⟨Nat.zero_le _, Nat.zero_le _⟩ (zkn (fun H locs hP hS => ?_))
    refine W.eq (g2 := F0 m 4 ls [.int (nI 0)]) rfl ?_
    refine zf_ne (tgt := 11) hx hb dX3_intervals_4 (by decide) (by omega) (fun c2 => ?_) (fun c2 => ?_)
    ·
      exfalso; omega
    ·
      refine lv_ldc2 hx hb hown (hts (.constantLong RX3 83 (-9000000000000000001)) (by decide +kernel)) dX3_intervals_7 ?_
      exact zretL hx hb hr hlk hS hP dX3_intervals_10 ⟨C, dg, Y, rfl, rfl, hCP, fun _ _ => rfl⟩

set_option maxHeartbeats 4000000 in
set_option maxRecDepth 100000 in
theorem kX3_greatest_bad (l : Launch) (D : va_G) (cL cI cR : ClassId) (A : Nat → Prop) (F : Nat → Nat) (hF : zq_F A F 7) (C : Nat → Nat → Int64) (dg : Nat → Nat) (Y : zZM) (P : Nat → Nat → Int64) (n0 : Nat → Nat) (hCP : ∀ i, i < 8 → C i = P i ∧ dg i = n0 i) (sx : Int32) (hbad : ¬ (zin 0 7 sx)) : zCt l yX3_greatest wsX3_greatest 2 45 D cL cI cR A F 7 (zME cL cI F C dg Y) [.ref (F 0), .int sx] (zPM cL cI F (-9000000000000000001) P n0 Y.1) := by
  refine zStart (cc := cX3_greatest) (maxL := 9) (ret := (some .long)) (by decide +kernel) rfl (Nat.le_of_ble_eq_true rfl) ?_
  intro p e s m below meth c hx hb hr hml hlk hown hts hAm H hP hS ls hl
  have hown : s.vm.findClass RX3 = some m.cls := hown
  have hl : lv_has ls 9 [(0, .ref (F 0)), (1, .int sx)] := hl
  refine lv_iload_n hx hb dX3_greatest_0 rfl (lv_at hl 1 rfl) ?_
  by_cases h_sx : zin 0 7 sx
  ·
    refine zcallS (As := [.int sx]) (rest := []) (k := 1) hx hb hml hown hts (kX3_isSeries l D cL cI cR A F 7 (zME cL cI F C dg Y) sx 1 (by unfold zbN; rw [if_pos h_sx])) gX3_greatest_X3_isSeries rfl (by decide +kernel) ⟨Nat.le_of_ble_eq_true rfl, Nat.le_of_ble_eq_true rfl⟩ hAm hP hS rfl hl.1 rfl (Nat.le_of_ble_eq_true rfl) dX3_greatest_1 ⟨Nat.zero_le _, Nat.zero_le _⟩ (zkn (fun H locs hP hS => ?_))
    refine W.eq (g2 := F0 m 4 ls [.int (nI 1)]) rfl ?_
    refine zf_ne (tgt := 11) hx hb dX3_greatest_4 (by decide) (by omega) (fun c1 => ?_) (fun c1 => ?_)
    ·
      exact absurd h_sx hbad
    ·
      exfalso; omega
  ·
    refine zcallS (As := [.int sx]) (rest := []) (k := 1) hx hb hml hown hts (kX3_isSeries l D cL cI cR A F 7 (zME cL cI F C dg Y) sx 0 (by unfold zbN; rw [if_neg h_sx])) gX3_greatest_X3_isSeries rfl (by decide +kernel) ⟨Nat.le_of_ble_eq_true rfl, Nat.le_of_ble_eq_true rfl⟩ hAm hP hS rfl hl.1 rfl (Nat.le_of_ble_eq_true rfl) dX3_greatest_1 ⟨Nat.zero_le _, Nat.zero_le _⟩ (zkn (fun H locs hP hS => ?_))
    refine W.eq (g2 := F0 m 4 ls [.int (nI 0)]) rfl ?_
    refine zf_ne (tgt := 11) hx hb dX3_greatest_4 (by decide) (by omega) (fun c2 => ?_) (fun c2 => ?_)
    ·
      exfalso; omega
    ·
      refine lv_ldc2 hx hb hown (hts (.constantLong RX3 83 (-9000000000000000001)) (by decide +kernel)) dX3_greatest_7 ?_
      exact zretL hx hb hr hlk hS hP dX3_greatest_10 ⟨C, dg, Y, rfl, rfl, hCP, fun _ _ => rfl⟩

set_option maxHeartbeats 4000000 in
set_option maxRecDepth 100000 in
theorem kX3_inner_bad (l : Launch) (D : va_G) (cL cI cR : ClassId) (A : Nat → Prop) (F : Nat → Nat) (hF : zq_F A F 7) (C : Nat → Nat → Int64) (dg : Nat → Nat) (Y : zZM) (P : Nat → Nat → Int64) (n0 : Nat → Nat) (hCP : ∀ i, i < 8 → C i = P i ∧ dg i = n0 i) (ax bx : Int32) (hbad : ¬ (zin 0 7 ax ∧ zin 0 7 bx)) : zCt l yX3_inner wsX3_inner 2 45 D cL cI cR A F 7 (zME cL cI F C dg Y) [.ref (F 0), .int ax, .int bx] (zPM cL cI F (-9000000000000000001) P n0 Y.1) := by
  refine zStart (cc := cX3_inner) (maxL := 6) (ret := (some .long)) (by decide +kernel) rfl (Nat.le_of_ble_eq_true rfl) ?_
  intro p e s m below meth c hx hb hr hml hlk hown hts hAm H hP hS ls hl
  have hown : s.vm.findClass RX3 = some m.cls := hown
  have hl : lv_has ls 6 [(0, .ref (F 0)), (1, .int ax), (2, .int bx)] := hl
  refine lv_iload_n hx hb dX3_inner_0 rfl (lv_at hl 1 rfl) ?_
  by_cases h_ax : zin 0 7 ax
  ·
    refine zcallS (As := [.int ax]) (rest := []) (k := 1) hx hb hml hown hts (kX3_isSeries l D cL cI cR A F 7 (zME cL cI F C dg Y) ax 1 (by unfold zbN; rw [if_pos h_ax])) gX3_inner_X3_isSeries rfl (by decide +kernel) ⟨Nat.le_of_ble_eq_true rfl, Nat.le_of_ble_eq_true rfl⟩ hAm hP hS rfl hl.1 rfl (Nat.le_of_ble_eq_true rfl) dX3_inner_1 ⟨Nat.zero_le _, Nat.zero_le _⟩ (zkn (fun H locs hP hS => ?_))
    refine W.eq (g2 := F0 m 4 ls [.int (nI 1)]) rfl ?_
    refine zf_eq (tgt := 14) hx hb dX3_inner_4 (by decide) (by omega) (fun c1 => ?_) (fun c1 => ?_)
    ·
      exfalso; omega
    ·
      refine lv_iload_n hx hb dX3_inner_7 rfl (lv_at hl 2 rfl) ?_
      by_cases h_bx : zin 0 7 bx
      ·
        refine zcallS (As := [.int bx]) (rest := []) (k := 1) hx hb hml hown hts (kX3_isSeries l D cL cI cR A F 7 (zME cL cI F C dg Y) bx 1 (by unfold zbN; rw [if_pos h_bx])) gX3_inner_X3_isSeries rfl (by decide +kernel) ⟨Nat.le_of_ble_eq_true rfl, Nat.le_of_ble_eq_true rfl⟩ hAm hP hS rfl hl.1 rfl (Nat.le_of_ble_eq_true rfl) dX3_inner_8 ⟨Nat.zero_le _, Nat.zero_le _⟩ (zkn (fun H locs hP hS => ?_))
        refine W.eq (g2 := F0 m 11 ls [.int (nI 1)]) rfl ?_
        refine zf_ne (tgt := 18) hx hb dX3_inner_11 (by decide) (by omega) (fun c2 => ?_) (fun c2 => ?_)
        ·
          exact absurd ⟨h_ax, h_bx⟩ hbad
        ·
          exfalso; omega
      ·
        refine zcallS (As := [.int bx]) (rest := []) (k := 1) hx hb hml hown hts (kX3_isSeries l D cL cI cR A F 7 (zME cL cI F C dg Y) bx 0 (by unfold zbN; rw [if_neg h_bx])) gX3_inner_X3_isSeries rfl (by decide +kernel) ⟨Nat.le_of_ble_eq_true rfl, Nat.le_of_ble_eq_true rfl⟩ hAm hP hS rfl hl.1 rfl (Nat.le_of_ble_eq_true rfl) dX3_inner_8 ⟨Nat.zero_le _, Nat.zero_le _⟩ (zkn (fun H locs hP hS => ?_))
        refine W.eq (g2 := F0 m 11 ls [.int (nI 0)]) rfl ?_
        refine zf_ne (tgt := 18) hx hb dX3_inner_11 (by decide) (by omega) (fun c3 => ?_) (fun c3 => ?_)
        ·
          exfalso; omega
        ·
          refine lv_ldc2 hx hb hown (hts (.constantLong RX3 83 (-9000000000000000001)) (by decide +kernel)) dX3_inner_14 ?_
          exact zretL hx hb hr hlk hS hP dX3_inner_17 ⟨C, dg, Y, rfl, rfl, hCP, fun _ _ => rfl⟩
  ·
    refine zcallS (As := [.int ax]) (rest := []) (k := 1) hx hb hml hown hts (kX3_isSeries l D cL cI cR A F 7 (zME cL cI F C dg Y) ax 0 (by unfold zbN; rw [if_neg h_ax])) gX3_inner_X3_isSeries rfl (by decide +kernel) ⟨Nat.le_of_ble_eq_true rfl, Nat.le_of_ble_eq_true rfl⟩ hAm hP hS rfl hl.1 rfl (Nat.le_of_ble_eq_true rfl) dX3_inner_1 ⟨Nat.zero_le _, Nat.zero_le _⟩ (zkn (fun H locs hP hS => ?_))
    refine W.eq (g2 := F0 m 4 ls [.int (nI 0)]) rfl ?_
    refine zf_eq (tgt := 14) hx hb dX3_inner_4 (by decide) (by omega) (fun c4 => ?_) (fun c4 => ?_)
    ·
      refine lv_ldc2 hx hb hown (hts (.constantLong RX3 83 (-9000000000000000001)) (by decide +kernel)) dX3_inner_14 ?_
      exact zretL hx hb hr hlk hS hP dX3_inner_17 ⟨C, dg, Y, rfl, rfl, hCP, fun _ _ => rfl⟩
    ·
      exfalso; omega

set_option maxHeartbeats 4000000 in
set_option maxRecDepth 100000 in
theorem kX3_byValue_bad (l : Launch) (D : va_G) (cL cI cR : ClassId) (A : Nat → Prop) (F : Nat → Nat) (hF : zq_F A F 7) (C : Nat → Nat → Int64) (dg : Nat → Nat) (Y : zZM) (P : Nat → Nat → Int64) (n0 : Nat → Nat) (hCP : ∀ i, i < 8 → C i = P i ∧ dg i = n0 i) (sx plx : Int32) (hbad : ¬ (zin 0 7 sx ∧ zin 0 24 plx)) : zCt l yX3_byValue wsX3_byValue 2 45 D cL cI cR A F 7 (zME cL cI F C dg Y) [.ref (F 0), .int sx, .int plx] (zPM cL cI F (-9000000000000000001) P n0 Y.1) := by
  refine zStart (cc := cX3_byValue) (maxL := 8) (ret := (some .long)) (by decide +kernel) rfl (Nat.le_of_ble_eq_true rfl) ?_
  intro p e s m below meth c hx hb hr hml hlk hown hts hAm H hP hS ls hl
  have hown : s.vm.findClass RX3 = some m.cls := hown
  have hl : lv_has ls 8 [(0, .ref (F 0)), (1, .int sx), (2, .int plx)] := hl
  refine lv_iload_n hx hb dX3_byValue_0 rfl (lv_at hl 1 rfl) ?_
  by_cases h_sx : zin 0 7 sx
  ·
    refine zcallS (As := [.int sx]) (rest := []) (k := 1) hx hb hml hown hts (kX3_isSeries l D cL cI cR A F 7 (zME cL cI F C dg Y) sx 1 (by unfold zbN; rw [if_pos h_sx])) gX3_byValue_X3_isSeries rfl (by decide +kernel) ⟨Nat.le_of_ble_eq_true rfl, Nat.le_of_ble_eq_true rfl⟩ hAm hP hS rfl hl.1 rfl (Nat.le_of_ble_eq_true rfl) dX3_byValue_1 ⟨Nat.zero_le _, Nat.zero_le _⟩ (zkn (fun H locs hP hS => ?_))
    refine W.eq (g2 := F0 m 4 ls [.int (nI 1)]) rfl ?_
    refine zf_eq (tgt := 19) hx hb dX3_byValue_4 (by decide) (by omega) (fun c1 => ?_) (fun c1 => ?_)
    ·
      exfalso; omega
    ·
      refine lv_iload_n hx hb dX3_byValue_7 rfl (lv_at hl 2 rfl) ?_
      refine lv_i2l (v := plx.toInt64) hx hb dX3_byValue_8 rfl ?_
      refine lv_lconst (v := (0 : Int64)) hx hb dX3_byValue_9 (by decide +kernel) ?_
      refine lv_ldc2 hx hb hown (hts (.constantLong RX3 79 (24)) (by decide +kernel)) dX3_byValue_10 ?_
      by_cases h_plx : zin 0 24 plx
      ·
        refine zcallS (As := [.long plx.toInt64, .long (0 : Int64), .long (24 : Int64)]) (rest := []) (k := 3) hx hb hml hown hts (kX3_in l D cL cI cR A F 7 (zME cL cI F C dg Y) plx.toInt64 (0 : Int64) (24 : Int64) 1 (zn1 rfl rfl h_plx)) gX3_byValue_X3_in rfl (by decide +kernel) ⟨Nat.le_of_ble_eq_true rfl, Nat.le_of_ble_eq_true rfl⟩ hAm hP hS rfl hl.1 rfl (Nat.le_of_ble_eq_true rfl) dX3_byValue_13 ⟨Nat.zero_le _, Nat.zero_le _⟩ (zkn (fun H locs hP hS => ?_))
        refine W.eq (g2 := F0 m 16 ls [.int (nI 1)]) rfl ?_
        refine zf_ne (tgt := 23) hx hb dX3_byValue_16 (by decide) (by omega) (fun c2 => ?_) (fun c2 => ?_)
        ·
          exact absurd ⟨h_sx, h_plx⟩ hbad
        ·
          exfalso; omega
      ·
        refine zcallS (As := [.long plx.toInt64, .long (0 : Int64), .long (24 : Int64)]) (rest := []) (k := 3) hx hb hml hown hts (kX3_in l D cL cI cR A F 7 (zME cL cI F C dg Y) plx.toInt64 (0 : Int64) (24 : Int64) 0 (zn0 rfl rfl h_plx)) gX3_byValue_X3_in rfl (by decide +kernel) ⟨Nat.le_of_ble_eq_true rfl, Nat.le_of_ble_eq_true rfl⟩ hAm hP hS rfl hl.1 rfl (Nat.le_of_ble_eq_true rfl) dX3_byValue_13 ⟨Nat.zero_le _, Nat.zero_le _⟩ (zkn (fun H locs hP hS => ?_))
        refine W.eq (g2 := F0 m 16 ls [.int (nI 0)]) rfl ?_
        refine zf_ne (tgt := 23) hx hb dX3_byValue_16 (by decide) (by omega) (fun c3 => ?_) (fun c3 => ?_)
        ·
          exfalso; omega
        ·
          refine lv_ldc2 hx hb hown (hts (.constantLong RX3 83 (-9000000000000000001)) (by decide +kernel)) dX3_byValue_19 ?_
          exact zretL hx hb hr hlk hS hP dX3_byValue_22 ⟨C, dg, Y, rfl, rfl, hCP, fun _ _ => rfl⟩
  ·
    refine zcallS (As := [.int sx]) (rest := []) (k := 1) hx hb hml hown hts (kX3_isSeries l D cL cI cR A F 7 (zME cL cI F C dg Y) sx 0 (by unfold zbN; rw [if_neg h_sx])) gX3_byValue_X3_isSeries rfl (by decide +kernel) ⟨Nat.le_of_ble_eq_true rfl, Nat.le_of_ble_eq_true rfl⟩ hAm hP hS rfl hl.1 rfl (Nat.le_of_ble_eq_true rfl) dX3_byValue_1 ⟨Nat.zero_le _, Nat.zero_le _⟩ (zkn (fun H locs hP hS => ?_))
    refine W.eq (g2 := F0 m 4 ls [.int (nI 0)]) rfl ?_
    refine zf_eq (tgt := 19) hx hb dX3_byValue_4 (by decide) (by omega) (fun c4 => ?_) (fun c4 => ?_)
    ·
      refine lv_ldc2 hx hb hown (hts (.constantLong RX3 83 (-9000000000000000001)) (by decide +kernel)) dX3_byValue_19 ?_
      exact zretL hx hb hr hlk hS hP dX3_byValue_22 ⟨C, dg, Y, rfl, rfl, hCP, fun _ _ => rfl⟩
    ·
      exfalso; omega

set_option maxHeartbeats 4000000 in
set_option maxRecDepth 100000 in
theorem kX3_setValue_bad (l : Launch) (D : va_G) (cL cI cR : ClassId) (A : Nat → Prop) (F : Nat → Nat) (hF : zq_F A F 7) (C : Nat → Nat → Int64) (dg : Nat → Nat) (Y : zZM) (P : Nat → Nat → Int64) (n0 : Nat → Nat) (hCP : ∀ i, i < 8 → C i = P i ∧ dg i = n0 i) (jx vx : Int32) (hbad : ¬ (zin 0 16 jx ∧ zin (-134217728) 134217728 vx)) : zCt l yX3_setValue wsX3_setValue 1 25 D cL cI cR A F 7 (zME cL cI F C dg Y) [.ref (F 0), .int jx, .int vx] (zPM cL cI F (-9000000000000000001) P n0 Y.1) := by
  refine zStart (cc := cX3_setValue) (maxL := 4) (ret := (some .long)) (by decide +kernel) rfl (Nat.le_of_ble_eq_true rfl) ?_
  intro p e s m below meth c hx hb hr hml hlk hown hts hAm H hP hS ls hl
  have hown : s.vm.findClass RX3 = some m.cls := hown
  have hl : lv_has ls 4 [(0, .ref (F 0)), (1, .int jx), (2, .int vx)] := hl
  refine lv_iload_n hx hb dX3_setValue_0 rfl (lv_at hl 1 rfl) ?_
  refine lv_i2l (v := jx.toInt64) hx hb dX3_setValue_1 rfl ?_
  refine lv_lconst (v := (0 : Int64)) hx hb dX3_setValue_2 (by decide +kernel) ?_
  refine lv_ldc2 hx hb hown (hts (.constantLong RX3 134 (16)) (by decide +kernel)) dX3_setValue_3 ?_
  by_cases h_jx : zin 0 16 jx
  ·
    refine zcallS (As := [.long jx.toInt64, .long (0 : Int64), .long (16 : Int64)]) (rest := []) (k := 3) hx hb hml hown hts (kX3_in l D cL cI cR A F 7 (zME cL cI F C dg Y) jx.toInt64 (0 : Int64) (16 : Int64) 1 (zn1 rfl rfl h_jx)) gX3_setValue_X3_in rfl (by decide +kernel) ⟨Nat.le_of_ble_eq_true rfl, Nat.le_of_ble_eq_true rfl⟩ hAm hP hS rfl hl.1 rfl (Nat.le_of_ble_eq_true rfl) dX3_setValue_6 ⟨Nat.zero_le _, Nat.zero_le _⟩ (zkn (fun H locs hP hS => ?_))
    refine W.eq (g2 := F0 m 9 ls [.int (nI 1)]) rfl ?_
    refine zf_eq (tgt := 26) hx hb dX3_setValue_9 (by decide) (by omega) (fun c1 => ?_) (fun c1 => ?_)
    ·
      exfalso; omega
    ·
      refine lv_iload_n hx hb dX3_setValue_12 rfl (lv_at hl 2 rfl) ?_
      refine lv_i2l (v := vx.toInt64) hx hb dX3_setValue_13 rfl ?_
      refine lv_ldc2 hx hb hown (hts (.constantLong RX3 136 (-134217728)) (by decide +kernel)) dX3_setValue_14 ?_
      refine lv_ldc2 hx hb hown (hts (.constantLong RX3 138 (134217728)) (by decide +kernel)) dX3_setValue_17 ?_
      by_cases h_vx : zin (-134217728) 134217728 vx
      ·
        refine zcallS (As := [.long vx.toInt64, .long (-134217728 : Int64), .long (134217728 : Int64)]) (rest := []) (k := 3) hx hb hml hown hts (kX3_in l D cL cI cR A F 7 (zME cL cI F C dg Y) vx.toInt64 (-134217728 : Int64) (134217728 : Int64) 1 (zn1 rfl rfl h_vx)) gX3_setValue_X3_in rfl (by decide +kernel) ⟨Nat.le_of_ble_eq_true rfl, Nat.le_of_ble_eq_true rfl⟩ hAm hP hS rfl hl.1 rfl (Nat.le_of_ble_eq_true rfl) dX3_setValue_20 ⟨Nat.zero_le _, Nat.zero_le _⟩ (zkn (fun H locs hP hS => ?_))
        refine W.eq (g2 := F0 m 23 ls [.int (nI 1)]) rfl ?_
        refine zf_ne (tgt := 30) hx hb dX3_setValue_23 (by decide) (by omega) (fun c2 => ?_) (fun c2 => ?_)
        ·
          exact absurd ⟨h_jx, h_vx⟩ hbad
        ·
          exfalso; omega
      ·
        refine zcallS (As := [.long vx.toInt64, .long (-134217728 : Int64), .long (134217728 : Int64)]) (rest := []) (k := 3) hx hb hml hown hts (kX3_in l D cL cI cR A F 7 (zME cL cI F C dg Y) vx.toInt64 (-134217728 : Int64) (134217728 : Int64) 0 (zn0 rfl rfl h_vx)) gX3_setValue_X3_in rfl (by decide +kernel) ⟨Nat.le_of_ble_eq_true rfl, Nat.le_of_ble_eq_true rfl⟩ hAm hP hS rfl hl.1 rfl (Nat.le_of_ble_eq_true rfl) dX3_setValue_20 ⟨Nat.zero_le _, Nat.zero_le _⟩ (zkn (fun H locs hP hS => ?_))
        refine W.eq (g2 := F0 m 23 ls [.int (nI 0)]) rfl ?_
        refine zf_ne (tgt := 30) hx hb dX3_setValue_23 (by decide) (by omega) (fun c3 => ?_) (fun c3 => ?_)
        ·
          exfalso; omega
        ·
          refine lv_ldc2 hx hb hown (hts (.constantLong RX3 83 (-9000000000000000001)) (by decide +kernel)) dX3_setValue_26 ?_
          exact zretL hx hb hr hlk hS hP dX3_setValue_29 ⟨C, dg, Y, rfl, rfl, hCP, fun _ _ => rfl⟩
  ·
    refine zcallS (As := [.long jx.toInt64, .long (0 : Int64), .long (16 : Int64)]) (rest := []) (k := 3) hx hb hml hown hts (kX3_in l D cL cI cR A F 7 (zME cL cI F C dg Y) jx.toInt64 (0 : Int64) (16 : Int64) 0 (zn0 rfl rfl h_jx)) gX3_setValue_X3_in rfl (by decide +kernel) ⟨Nat.le_of_ble_eq_true rfl, Nat.le_of_ble_eq_true rfl⟩ hAm hP hS rfl hl.1 rfl (Nat.le_of_ble_eq_true rfl) dX3_setValue_6 ⟨Nat.zero_le _, Nat.zero_le _⟩ (zkn (fun H locs hP hS => ?_))
    refine W.eq (g2 := F0 m 9 ls [.int (nI 0)]) rfl ?_
    refine zf_eq (tgt := 26) hx hb dX3_setValue_9 (by decide) (by omega) (fun c4 => ?_) (fun c4 => ?_)
    ·
      refine lv_ldc2 hx hb hown (hts (.constantLong RX3 83 (-9000000000000000001)) (by decide +kernel)) dX3_setValue_26 ?_
      exact zretL hx hb hr hlk hS hP dX3_setValue_29 ⟨C, dg, Y, rfl, rfl, hCP, fun _ _ => rfl⟩
    ·
      exfalso; omega

set_option maxHeartbeats 4000000 in
set_option maxRecDepth 100000 in
theorem kX3_interpolate_bad (l : Launch) (D : va_G) (cL cI cR : ClassId) (A : Nat → Prop) (F : Nat → Nat) (hF : zq_F A F 7) (C : Nat → Nat → Int64) (dg : Nat → Nat) (Y : zZM) (P : Nat → Nat → Int64) (n0 : Nat → Nat) (hCP : ∀ i, i < 8 → C i = P i ∧ dg i = n0 i) (qx tx : Int32) (hbad : ¬ (zin 0 7 tx ∧ zin 0 4 qx)) : zCt l yX3_interpolate wsX3_interpolate 2 45 D cL cI cR A F 7 (zME cL cI F C dg Y) [.ref (F 0), .int qx, .int tx] (zPM cL cI F (-9000000000000000001) P n0 Y.1) := by
  refine zStart (cc := cX3_interpolate) (maxL := 8) (ret := (some .long)) (by decide +kernel) rfl (Nat.le_of_ble_eq_true rfl) ?_
  intro p e s m below meth c hx hb hr hml hlk hown hts hAm H hP hS ls hl
  have hown : s.vm.findClass RX3 = some m.cls := hown
  have hl : lv_has ls 8 [(0, .ref (F 0)), (1, .int qx), (2, .int tx)] := hl
  refine lv_iload_n hx hb dX3_interpolate_0 rfl (lv_at hl 1 rfl) ?_
  by_cases h_qx : zin 0 4 qx
  ·
    refine zcallS (As := [.int qx]) (rest := []) (k := 1) hx hb hml hown hts (kX3_isPower l D cL cI cR A F 7 (zME cL cI F C dg Y) qx 1 (by unfold zbN; rw [if_pos h_qx])) gX3_interpolate_X3_isPower rfl (by decide +kernel) ⟨Nat.le_of_ble_eq_true rfl, Nat.le_of_ble_eq_true rfl⟩ hAm hP hS rfl hl.1 rfl (Nat.le_of_ble_eq_true rfl) dX3_interpolate_1 ⟨Nat.zero_le _, Nat.zero_le _⟩ (zkn (fun H locs hP hS => ?_))
    refine W.eq (g2 := F0 m 4 ls [.int (nI 1)]) rfl ?_
    refine zf_eq (tgt := 14) hx hb dX3_interpolate_4 (by decide) (by omega) (fun c1 => ?_) (fun c1 => ?_)
    ·
      exfalso; omega
    ·
      refine lv_iload_n hx hb dX3_interpolate_7 rfl (lv_at hl 2 rfl) ?_
      by_cases h_tx : zin 0 7 tx
      ·
        refine zcallS (As := [.int tx]) (rest := []) (k := 1) hx hb hml hown hts (kX3_isSeries l D cL cI cR A F 7 (zME cL cI F C dg Y) tx 1 (by unfold zbN; rw [if_pos h_tx])) gX3_interpolate_X3_isSeries rfl (by decide +kernel) ⟨Nat.le_of_ble_eq_true rfl, Nat.le_of_ble_eq_true rfl⟩ hAm hP hS rfl hl.1 rfl (Nat.le_of_ble_eq_true rfl) dX3_interpolate_8 ⟨Nat.zero_le _, Nat.zero_le _⟩ (zkn (fun H locs hP hS => ?_))
        refine W.eq (g2 := F0 m 11 ls [.int (nI 1)]) rfl ?_
        refine zf_ne (tgt := 18) hx hb dX3_interpolate_11 (by decide) (by omega) (fun c2 => ?_) (fun c2 => ?_)
        ·
          exact absurd ⟨h_tx, h_qx⟩ hbad
        ·
          exfalso; omega
      ·
        refine zcallS (As := [.int tx]) (rest := []) (k := 1) hx hb hml hown hts (kX3_isSeries l D cL cI cR A F 7 (zME cL cI F C dg Y) tx 0 (by unfold zbN; rw [if_neg h_tx])) gX3_interpolate_X3_isSeries rfl (by decide +kernel) ⟨Nat.le_of_ble_eq_true rfl, Nat.le_of_ble_eq_true rfl⟩ hAm hP hS rfl hl.1 rfl (Nat.le_of_ble_eq_true rfl) dX3_interpolate_8 ⟨Nat.zero_le _, Nat.zero_le _⟩ (zkn (fun H locs hP hS => ?_))
        refine W.eq (g2 := F0 m 11 ls [.int (nI 0)]) rfl ?_
        refine zf_ne (tgt := 18) hx hb dX3_interpolate_11 (by decide) (by omega) (fun c3 => ?_) (fun c3 => ?_)
        ·
          exfalso; omega
        ·
          refine lv_ldc2 hx hb hown (hts (.constantLong RX3 83 (-9000000000000000001)) (by decide +kernel)) dX3_interpolate_14 ?_
          exact zretL hx hb hr hlk hS hP dX3_interpolate_17 ⟨C, dg, Y, rfl, rfl, hCP, fun _ _ => rfl⟩
  ·
    refine zcallS (As := [.int qx]) (rest := []) (k := 1) hx hb hml hown hts (kX3_isPower l D cL cI cR A F 7 (zME cL cI F C dg Y) qx 0 (by unfold zbN; rw [if_neg h_qx])) gX3_interpolate_X3_isPower rfl (by decide +kernel) ⟨Nat.le_of_ble_eq_true rfl, Nat.le_of_ble_eq_true rfl⟩ hAm hP hS rfl hl.1 rfl (Nat.le_of_ble_eq_true rfl) dX3_interpolate_1 ⟨Nat.zero_le _, Nat.zero_le _⟩ (zkn (fun H locs hP hS => ?_))
    refine W.eq (g2 := F0 m 4 ls [.int (nI 0)]) rfl ?_
    refine zf_eq (tgt := 14) hx hb dX3_interpolate_4 (by decide) (by omega) (fun c4 => ?_) (fun c4 => ?_)
    ·
      refine lv_ldc2 hx hb hown (hts (.constantLong RX3 83 (-9000000000000000001)) (by decide +kernel)) dX3_interpolate_14 ?_
      exact zretL hx hb hr hlk hS hP dX3_interpolate_17 ⟨C, dg, Y, rfl, rfl, hCP, fun _ _ => rfl⟩
    ·
      exfalso; omega

set_option maxHeartbeats 4000000 in
set_option maxRecDepth 100000 in
theorem kX3_sample_bad (l : Launch) (D : va_G) (cL cI cR : ClassId) (A : Nat → Prop) (F : Nat → Nat) (hF : zq_F A F 7) (C : Nat → Nat → Int64) (dg : Nat → Nat) (Y : zZM) (P : Nat → Nat → Int64) (n0 : Nat → Nat) (hCP : ∀ i, i < 8 → C i = P i ∧ dg i = n0 i) (sx qx : Int32) (hbad : ¬ (zin 0 7 sx ∧ zin 0 4 qx)) : zCt l yX3_sample wsX3_sample 2 45 D cL cI cR A F 7 (zME cL cI F C dg Y) [.ref (F 0), .int sx, .int qx] (zPM cL cI F (-9000000000000000001) P n0 Y.1) := by
  refine zStart (cc := cX3_sample) (maxL := 5) (ret := (some .long)) (by decide +kernel) rfl (Nat.le_of_ble_eq_true rfl) ?_
  intro p e s m below meth c hx hb hr hml hlk hown hts hAm H hP hS ls hl
  have hown : s.vm.findClass RX3 = some m.cls := hown
  have hl : lv_has ls 5 [(0, .ref (F 0)), (1, .int sx), (2, .int qx)] := hl
  refine lv_iload_n hx hb dX3_sample_0 rfl (lv_at hl 1 rfl) ?_
  by_cases h_sx : zin 0 7 sx
  ·
    refine zcallS (As := [.int sx]) (rest := []) (k := 1) hx hb hml hown hts (kX3_isSeries l D cL cI cR A F 7 (zME cL cI F C dg Y) sx 1 (by unfold zbN; rw [if_pos h_sx])) gX3_sample_X3_isSeries rfl (by decide +kernel) ⟨Nat.le_of_ble_eq_true rfl, Nat.le_of_ble_eq_true rfl⟩ hAm hP hS rfl hl.1 rfl (Nat.le_of_ble_eq_true rfl) dX3_sample_1 ⟨Nat.zero_le _, Nat.zero_le _⟩ (zkn (fun H locs hP hS => ?_))
    refine W.eq (g2 := F0 m 4 ls [.int (nI 1)]) rfl ?_
    refine zf_eq (tgt := 14) hx hb dX3_sample_4 (by decide) (by omega) (fun c1 => ?_) (fun c1 => ?_)
    ·
      exfalso; omega
    ·
      refine lv_iload_n hx hb dX3_sample_7 rfl (lv_at hl 2 rfl) ?_
      by_cases h_qx : zin 0 4 qx
      ·
        refine zcallS (As := [.int qx]) (rest := []) (k := 1) hx hb hml hown hts (kX3_isPower l D cL cI cR A F 7 (zME cL cI F C dg Y) qx 1 (by unfold zbN; rw [if_pos h_qx])) gX3_sample_X3_isPower rfl (by decide +kernel) ⟨Nat.le_of_ble_eq_true rfl, Nat.le_of_ble_eq_true rfl⟩ hAm hP hS rfl hl.1 rfl (Nat.le_of_ble_eq_true rfl) dX3_sample_8 ⟨Nat.zero_le _, Nat.zero_le _⟩ (zkn (fun H locs hP hS => ?_))
        refine W.eq (g2 := F0 m 11 ls [.int (nI 1)]) rfl ?_
        refine zf_ne (tgt := 18) hx hb dX3_sample_11 (by decide) (by omega) (fun c2 => ?_) (fun c2 => ?_)
        ·
          exact absurd ⟨h_sx, h_qx⟩ hbad
        ·
          exfalso; omega
      ·
        refine zcallS (As := [.int qx]) (rest := []) (k := 1) hx hb hml hown hts (kX3_isPower l D cL cI cR A F 7 (zME cL cI F C dg Y) qx 0 (by unfold zbN; rw [if_neg h_qx])) gX3_sample_X3_isPower rfl (by decide +kernel) ⟨Nat.le_of_ble_eq_true rfl, Nat.le_of_ble_eq_true rfl⟩ hAm hP hS rfl hl.1 rfl (Nat.le_of_ble_eq_true rfl) dX3_sample_8 ⟨Nat.zero_le _, Nat.zero_le _⟩ (zkn (fun H locs hP hS => ?_))
        refine W.eq (g2 := F0 m 11 ls [.int (nI 0)]) rfl ?_
        refine zf_ne (tgt := 18) hx hb dX3_sample_11 (by decide) (by omega) (fun c3 => ?_) (fun c3 => ?_)
        ·
          exfalso; omega
        ·
          refine lv_ldc2 hx hb hown (hts (.constantLong RX3 83 (-9000000000000000001)) (by decide +kernel)) dX3_sample_14 ?_
          exact zretL hx hb hr hlk hS hP dX3_sample_17 ⟨C, dg, Y, rfl, rfl, hCP, fun _ _ => rfl⟩
  ·
    refine zcallS (As := [.int sx]) (rest := []) (k := 1) hx hb hml hown hts (kX3_isSeries l D cL cI cR A F 7 (zME cL cI F C dg Y) sx 0 (by unfold zbN; rw [if_neg h_sx])) gX3_sample_X3_isSeries rfl (by decide +kernel) ⟨Nat.le_of_ble_eq_true rfl, Nat.le_of_ble_eq_true rfl⟩ hAm hP hS rfl hl.1 rfl (Nat.le_of_ble_eq_true rfl) dX3_sample_1 ⟨Nat.zero_le _, Nat.zero_le _⟩ (zkn (fun H locs hP hS => ?_))
    refine W.eq (g2 := F0 m 4 ls [.int (nI 0)]) rfl ?_
    refine zf_eq (tgt := 14) hx hb dX3_sample_4 (by decide) (by omega) (fun c4 => ?_) (fun c4 => ?_)
    ·
      refine lv_ldc2 hx hb hown (hts (.constantLong RX3 83 (-9000000000000000001)) (by decide +kernel)) dX3_sample_14 ?_
      exact zretL hx hb hr hlk hS hP dX3_sample_17 ⟨C, dg, Y, rfl, rfl, hCP, fun _ _ => rfl⟩
    ·
      exfalso; omega

set_option maxHeartbeats 4000000 in
set_option maxRecDepth 100000 in
theorem kX3_misfit_bad (l : Launch) (D : va_G) (cL cI cR : ClassId) (A : Nat → Prop) (F : Nat → Nat) (hF : zq_F A F 7) (C : Nat → Nat → Int64) (dg : Nat → Nat) (Y : zZM) (P : Nat → Nat → Int64) (n0 : Nat → Nat) (hCP : ∀ i, i < 8 → C i = P i ∧ dg i = n0 i) (sx qx : Int32) (hbad : ¬ (zin 0 7 sx ∧ zin 0 4 qx)) : zCt l yX3_misfit wsX3_misfit 2 45 D cL cI cR A F 7 (zME cL cI F C dg Y) [.ref (F 0), .int sx, .int qx] (zPM cL cI F (-9000000000000000001) P n0 Y.1) := by
  refine zStart (cc := cX3_misfit) (maxL := 8) (ret := (some .long)) (by decide +kernel) rfl (Nat.le_of_ble_eq_true rfl) ?_
  intro p e s m below meth c hx hb hr hml hlk hown hts hAm H hP hS ls hl
  have hown : s.vm.findClass RX3 = some m.cls := hown
  have hl : lv_has ls 8 [(0, .ref (F 0)), (1, .int sx), (2, .int qx)] := hl
  refine lv_iload_n hx hb dX3_misfit_0 rfl (lv_at hl 1 rfl) ?_
  by_cases h_sx : zin 0 7 sx
  ·
    refine zcallS (As := [.int sx]) (rest := []) (k := 1) hx hb hml hown hts (kX3_isSeries l D cL cI cR A F 7 (zME cL cI F C dg Y) sx 1 (by unfold zbN; rw [if_pos h_sx])) gX3_misfit_X3_isSeries rfl (by decide +kernel) ⟨Nat.le_of_ble_eq_true rfl, Nat.le_of_ble_eq_true rfl⟩ hAm hP hS rfl hl.1 rfl (Nat.le_of_ble_eq_true rfl) dX3_misfit_1 ⟨Nat.zero_le _, Nat.zero_le _⟩ (zkn (fun H locs hP hS => ?_))
    refine W.eq (g2 := F0 m 4 ls [.int (nI 1)]) rfl ?_
    refine zf_eq (tgt := 14) hx hb dX3_misfit_4 (by decide) (by omega) (fun c1 => ?_) (fun c1 => ?_)
    ·
      exfalso; omega
    ·
      refine lv_iload_n hx hb dX3_misfit_7 rfl (lv_at hl 2 rfl) ?_
      by_cases h_qx : zin 0 4 qx
      ·
        refine zcallS (As := [.int qx]) (rest := []) (k := 1) hx hb hml hown hts (kX3_isPower l D cL cI cR A F 7 (zME cL cI F C dg Y) qx 1 (by unfold zbN; rw [if_pos h_qx])) gX3_misfit_X3_isPower rfl (by decide +kernel) ⟨Nat.le_of_ble_eq_true rfl, Nat.le_of_ble_eq_true rfl⟩ hAm hP hS rfl hl.1 rfl (Nat.le_of_ble_eq_true rfl) dX3_misfit_8 ⟨Nat.zero_le _, Nat.zero_le _⟩ (zkn (fun H locs hP hS => ?_))
        refine W.eq (g2 := F0 m 11 ls [.int (nI 1)]) rfl ?_
        refine zf_ne (tgt := 18) hx hb dX3_misfit_11 (by decide) (by omega) (fun c2 => ?_) (fun c2 => ?_)
        ·
          exact absurd ⟨h_sx, h_qx⟩ hbad
        ·
          exfalso; omega
      ·
        refine zcallS (As := [.int qx]) (rest := []) (k := 1) hx hb hml hown hts (kX3_isPower l D cL cI cR A F 7 (zME cL cI F C dg Y) qx 0 (by unfold zbN; rw [if_neg h_qx])) gX3_misfit_X3_isPower rfl (by decide +kernel) ⟨Nat.le_of_ble_eq_true rfl, Nat.le_of_ble_eq_true rfl⟩ hAm hP hS rfl hl.1 rfl (Nat.le_of_ble_eq_true rfl) dX3_misfit_8 ⟨Nat.zero_le _, Nat.zero_le _⟩ (zkn (fun H locs hP hS => ?_))
        refine W.eq (g2 := F0 m 11 ls [.int (nI 0)]) rfl ?_
        refine zf_ne (tgt := 18) hx hb dX3_misfit_11 (by decide) (by omega) (fun c3 => ?_) (fun c3 => ?_)
        ·
          exfalso; omega
        ·
          refine lv_ldc2 hx hb hown (hts (.constantLong RX3 83 (-9000000000000000001)) (by decide +kernel)) dX3_misfit_14 ?_
          exact zretL hx hb hr hlk hS hP dX3_misfit_17 ⟨C, dg, Y, rfl, rfl, hCP, fun _ _ => rfl⟩
  ·
    refine zcallS (As := [.int sx]) (rest := []) (k := 1) hx hb hml hown hts (kX3_isSeries l D cL cI cR A F 7 (zME cL cI F C dg Y) sx 0 (by unfold zbN; rw [if_neg h_sx])) gX3_misfit_X3_isSeries rfl (by decide +kernel) ⟨Nat.le_of_ble_eq_true rfl, Nat.le_of_ble_eq_true rfl⟩ hAm hP hS rfl hl.1 rfl (Nat.le_of_ble_eq_true rfl) dX3_misfit_1 ⟨Nat.zero_le _, Nat.zero_le _⟩ (zkn (fun H locs hP hS => ?_))
    refine W.eq (g2 := F0 m 4 ls [.int (nI 0)]) rfl ?_
    refine zf_eq (tgt := 14) hx hb dX3_misfit_4 (by decide) (by omega) (fun c4 => ?_) (fun c4 => ?_)
    ·
      refine lv_ldc2 hx hb hown (hts (.constantLong RX3 83 (-9000000000000000001)) (by decide +kernel)) dX3_misfit_14 ?_
      exact zretL hx hb hr hlk hS hP dX3_misfit_17 ⟨C, dg, Y, rfl, rfl, hCP, fun _ _ => rfl⟩
    ·
      exfalso; omega

set_option maxHeartbeats 4000000 in
set_option maxRecDepth 100000 in
theorem kX3_extremePoint_bad1 (l : Launch) (D : va_G) (cL cI cR : ClassId) (A : Nat → Prop) (F : Nat → Nat) (hF : zq_F A F 7) (C : Nat → Nat → Int64) (dg : Nat → Nat) (Y : zZM) (P : Nat → Nat → Int64) (n0 : Nat → Nat) (hCP : ∀ i, i < 8 → C i = P i ∧ dg i = n0 i) (qx jx : Int32) (hbad : ¬ zin 0 4 qx) : zCt l yX3_extremePoint wsX3_extremePoint 2 45 D cL cI cR A F 7 (zME cL cI F C dg Y) [.ref (F 0), .int qx, .int jx] (zPM cL cI F (-9000000000000000001) P n0 Y.1) := by
  refine zStart (cc := cX3_extremePoint) (maxL := 3) (ret := (some .long)) (by decide +kernel) rfl (Nat.le_of_ble_eq_true rfl) ?_
  intro p e s m below meth c hx hb hr hml hlk hown hts hAm H hP hS ls hl
  have hown : s.vm.findClass RX3 = some m.cls := hown
  have hl : lv_has ls 3 [(0, .ref (F 0)), (1, .int qx), (2, .int jx)] := hl
  refine lv_iload_n hx hb dX3_extremePoint_0 rfl (lv_at hl 1 rfl) ?_
  refine zcallS (As := [.int qx]) (rest := []) (k := 1) hx hb hml hown hts (kX3_isPower l D cL cI cR A F 7 (zME cL cI F C dg Y) qx 0 (by unfold zbN; rw [if_neg hbad])) gX3_extremePoint_X3_isPower rfl (by decide +kernel) ⟨Nat.le_of_ble_eq_true rfl, Nat.le_of_ble_eq_true rfl⟩ hAm hP hS rfl hl.1 rfl (Nat.le_of_ble_eq_true rfl) dX3_extremePoint_1 ⟨Nat.zero_le _, Nat.zero_le _⟩ (zkn (fun H locs hP hS => ?_))
  refine W.eq (g2 := F0 m 4 ls [.int (nI 0)]) rfl ?_
  refine zf_eq (tgt := 29) hx hb dX3_extremePoint_4 (by decide) (by omega) (fun c1 => ?_) (fun c1 => ?_)
  ·
    refine lv_ldc2 hx hb hown (hts (.constantLong RX3 83 (-9000000000000000001)) (by decide +kernel)) dX3_extremePoint_29 ?_
    exact zretL hx hb hr hlk hS hP dX3_extremePoint_32 ⟨C, dg, Y, rfl, rfl, hCP, fun _ _ => rfl⟩
  ·
    exfalso; omega

set_option maxHeartbeats 4000000 in
set_option maxRecDepth 100000 in
theorem kX3_extremePoint_bad2 (l : Launch) (D : va_G) (cL cI cR : ClassId) (A : Nat → Prop) (F : Nat → Nat) (hF : zq_F A F 7) (C : Nat → Nat → Int64) (dg : Nat → Nat) (Y : zZM) (P : Nat → Nat → Int64) (n0 : Nat → Nat) (hCP : ∀ i, i < 8 → C i = P i ∧ dg i = n0 i) (q : Nat) (hq : q ≤ 4) (jx : Int32) (hbad : ¬ zin 0 (2 ^ q : Nat) jx) : zCt l yX3_extremePoint wsX3_extremePoint 2 45 D cL cI cR A F 7 (zME cL cI F C dg Y) [.ref (F 0), .int (nI q), .int jx] (zPM cL cI F (-9000000000000000001) P n0 Y.1) := by
  refine zStart (cc := cX3_extremePoint) (maxL := 3) (ret := (some .long)) (by decide +kernel) rfl (Nat.le_of_ble_eq_true rfl) ?_
  intro p e s m below meth c hx hb hr hml hlk hown hts hAm H hP hS ls hl
  have hown : s.vm.findClass RX3 = some m.cls := hown
  have hl : lv_has ls 3 [(0, .ref (F 0)), (1, .int (nI q)), (2, .int jx)] := hl
  have h2q := zp2 hq
  have hl2 : (lN (2 ^ q)).toInt = ((2 ^ q : Nat) : Int) := lN_toInt (by omega)
  refine lv_iload_n hx hb dX3_extremePoint_0 rfl (lv_at hl 1 rfl) ?_
  refine zcallS (As := [.int (nI q)]) (rest := []) (k := 1) hx hb hml hown hts (kX3_isPower l D cL cI cR A F 7 (zME cL cI F C dg Y) (nI q) 1 (if_pos (zin_nI (a := 4) hq (by decide))).symm) gX3_extremePoint_X3_isPower rfl (by decide +kernel) ⟨Nat.le_of_ble_eq_true rfl, Nat.le_of_ble_eq_true rfl⟩ hAm hP hS rfl hl.1 rfl (Nat.le_of_ble_eq_true rfl) dX3_extremePoint_1 ⟨Nat.zero_le _, Nat.zero_le _⟩ (zkn (fun H locs hP hS => ?_))
  refine W.eq (g2 := F0 m 4 ls [.int (nI 1)]) rfl ?_
  refine zf_eq (tgt := 29) hx hb dX3_extremePoint_4 (by decide) (by omega) (fun c1 => ?_) (fun c1 => ?_)
  ·
    exfalso; omega
  ·
    refine lv_iload_n hx hb dX3_extremePoint_7 rfl (lv_at hl 2 rfl) ?_
    refine lv_i2l (v := jx.toInt64) hx hb dX3_extremePoint_8 rfl ?_
    refine lv_lconst (v := (0 : Int64)) hx hb dX3_extremePoint_9 (by decide +kernel) ?_
    refine lv_iconst (v := nI 1) hx hb dX3_extremePoint_10 (by decide +kernel) ?_
    refine lv_iload_n hx hb dX3_extremePoint_11 rfl (lv_at hl 1 rfl) ?_
    refine lv_ishl hx hb dX3_extremePoint_12 ?_
    refine W.eq (g2 := F0 m 13 ls [.int (nI (2 ^ q)), .long (0 : Int64), .long jx.toInt64]) (by rw [zsh1 hq]) ?_
    refine zi2l hx hb (by omega) dX3_extremePoint_13 ?_
    refine zcallS (As := [.long jx.toInt64, .long (0 : Int64), .long (lN (2 ^ q))]) (rest := []) (k := 3) hx hb hml hown hts (kX3_in l D cL cI cR A F 7 (zME cL cI F C dg Y) jx.toInt64 (0 : Int64) (lN (2 ^ q)) 0 (zn0 rfl hl2 hbad)) gX3_extremePoint_X3_in rfl (by decide +kernel) ⟨Nat.le_of_ble_eq_true rfl, Nat.le_of_ble_eq_true rfl⟩ hAm hP hS rfl hl.1 rfl (Nat.le_of_ble_eq_true rfl) dX3_extremePoint_14 ⟨Nat.zero_le _, Nat.zero_le _⟩ (zkn (fun H locs hP hS => ?_))
    refine W.eq (g2 := F0 m 17 ls [.int (nI 0)]) rfl ?_
    refine zf_eq (tgt := 29) hx hb dX3_extremePoint_17 (by decide) (by omega) (fun c2 => ?_) (fun c2 => ?_)
    ·
      refine lv_ldc2 hx hb hown (hts (.constantLong RX3 83 (-9000000000000000001)) (by decide +kernel)) dX3_extremePoint_29 ?_
      exact zretL hx hb hr hlk hS hP dX3_extremePoint_32 ⟨C, dg, Y, rfl, rfl, hCP, fun _ _ => rfl⟩
    ·
      exfalso; omega

set_option maxHeartbeats 4000000 in
set_option maxRecDepth 100000 in
theorem kX3_root_bad (l : Launch) (D : va_G) (cL cI cR : ClassId) (A : Nat → Prop) (F : Nat → Nat) (hF : zq_F A F 7) (C : Nat → Nat → Int64) (dg : Nat → Nat) (Y : zZM) (P : Nat → Nat → Int64) (n0 : Nat → Nat) (hCP : ∀ i, i < 8 → C i = P i ∧ dg i = n0 i) (sx ix : Int32) (hbad : ¬ (zin 0 7 sx ∧ -1 ≤ ix.toInt)) : zCt l yX3_root wsX3_root 2 45 D cL cI cR A F 7 (zME cL cI F C dg Y) [.ref (F 0), .int sx, .int ix] (zPM cL cI F (-9000000000000000001) P n0 Y.1) := by
  refine zStart (cc := cX3_root) (maxL := 3) (ret := (some .long)) (by decide +kernel) rfl (Nat.le_of_ble_eq_true rfl) ?_
  intro p e s m below meth c hx hb hr hml hlk hown hts hAm H hP hS ls hl
  have hown : s.vm.findClass RX3 = some m.cls := hown
  have hl : lv_has ls 3 [(0, .ref (F 0)), (1, .int sx), (2, .int ix)] := hl
  refine lv_iload_n hx hb dX3_root_0 rfl (lv_at hl 1 rfl) ?_
  by_cases h_sx : zin 0 7 sx
  ·
    refine zcallS (As := [.int sx]) (rest := []) (k := 1) hx hb hml hown hts (kX3_isSeries l D cL cI cR A F 7 (zME cL cI F C dg Y) sx 1 (by unfold zbN; rw [if_pos h_sx])) gX3_root_X3_isSeries rfl (by decide +kernel) ⟨Nat.le_of_ble_eq_true rfl, Nat.le_of_ble_eq_true rfl⟩ hAm hP hS rfl hl.1 rfl (Nat.le_of_ble_eq_true rfl) dX3_root_1 ⟨Nat.zero_le _, Nat.zero_le _⟩ (zkn (fun H locs hP hS => ?_))
    refine W.eq (g2 := F0 m 4 ls [.int (nI 1)]) rfl ?_
    refine zf_eq (tgt := 12) hx hb dX3_root_4 (by decide) (by omega) (fun c1 => ?_) (fun c1 => ?_)
    ·
      exfalso; omega
    ·
      refine lv_iload_n hx hb dX3_root_7 rfl (lv_at hl 2 rfl) ?_
      refine lv_iconst (v := (-1 : Int32)) hx hb dX3_root_8 (by decide +kernel) ?_
      refine lv_icmp_ge (tgt := 16) hx hb dX3_root_9 (by decide) (fun c2 => ?_) (fun c2 => ?_)
      ·
        exact absurd ⟨h_sx, by rw [Int32.le_iff_toInt_le] at c2; exact c2⟩ hbad
      ·
        refine lv_ldc2 hx hb hown (hts (.constantLong RX3 83 (-9000000000000000001)) (by decide +kernel)) dX3_root_12 ?_
        exact zretL hx hb hr hlk hS hP dX3_root_15 ⟨C, dg, Y, rfl, rfl, hCP, fun _ _ => rfl⟩
  ·
    refine zcallS (As := [.int sx]) (rest := []) (k := 1) hx hb hml hown hts (kX3_isSeries l D cL cI cR A F 7 (zME cL cI F C dg Y) sx 0 (by unfold zbN; rw [if_neg h_sx])) gX3_root_X3_isSeries rfl (by decide +kernel) ⟨Nat.le_of_ble_eq_true rfl, Nat.le_of_ble_eq_true rfl⟩ hAm hP hS rfl hl.1 rfl (Nat.le_of_ble_eq_true rfl) dX3_root_1 ⟨Nat.zero_le _, Nat.zero_le _⟩ (zkn (fun H locs hP hS => ?_))
    refine W.eq (g2 := F0 m 4 ls [.int (nI 0)]) rfl ?_
    refine zf_eq (tgt := 12) hx hb dX3_root_4 (by decide) (by omega) (fun c3 => ?_) (fun c3 => ?_)
    ·
      refine lv_ldc2 hx hb hown (hts (.constantLong RX3 83 (-9000000000000000001)) (by decide +kernel)) dX3_root_12 ?_
      exact zretL hx hb hr hlk hS hP dX3_root_15 ⟨C, dg, Y, rfl, rfl, hCP, fun _ _ => rfl⟩
    ·
      exfalso; omega
