set_option maxHeartbeats 4000000 in
set_option maxRecDepth 100000 in
theorem kX2_setCoefficient_bad (l : Launch) (D : va_G) (cL cI cR : ClassId) (A : Nat → Prop) (F : Nat → Nat) (hF : zq_F A F 30) (T : Nat → Nat → Int64) (top : Nat → Nat) (Z : zZC) (P : Nat → Nat → Int64) (n0 : Nat → Nat) (hTP : ∀ i, i < 8 → T i = P i ∧ top i = n0 i) (sx kx vx : Int32) (hbad : ¬ (zin 0 7 sx ∧ zin 0 24 kx ∧ zin (-268435456) 268435456 vx)) : zCt l yX2_setCoefficient wsX2_setCoefficient 1 22 D cL cI cR A F 30 (zCE cL cR F T top Z) [.ref (F 24), .int sx, .int kx, .int vx] (zPC cL cR F (-9000000000000000001) P n0 Z.1) := by
  refine zStart (cc := cX2_setCoefficient) (maxL := 5) (ret := (some .long)) (by decide +kernel) rfl (Nat.le_of_ble_eq_true rfl) ?_
  intro p e s m below meth c hx hb hr hml hlk hown hts hAm H hP hS ls hl
  have hown : s.vm.findClass RX2 = some m.cls := hown
  have hl : lv_has ls 5 [(0, .ref (F 24)), (1, .int sx), (2, .int kx), (3, .int vx)] := hl
  refine lv_aload_n hx hb dX2_setCoefficient_0 rfl (lv_at hl 0 rfl) ?_
  refine lv_iload_n hx hb dX2_setCoefficient_1 rfl (lv_at hl 1 rfl) ?_
  by_cases h_sx : zin 0 7 sx
  ·
    obtain ⟨k_sx, hk_sx, he_sx⟩ := zin_nat (a := 7) h_sx
    refine zcallV (As := [.int sx]) (rest := []) (q := 24) (k := 1) hx hb hml hown hts (kX2_find_in l D cL cI cR A F hF T top Z sx k_sx hk_sx he_sx) gX2_setCoefficient_X2_find rfl (by decide +kernel) ⟨Nat.le_of_ble_eq_true rfl, Nat.le_of_ble_eq_true rfl⟩ rfl (by omega) (zC_o) rfl rfl hAm hP hS rfl hl.1 rfl (Nat.le_of_ble_eq_true rfl) dX2_setCoefficient_2 ⟨Nat.zero_le _, Nat.zero_le _⟩ (zkn (fun H locs hP hS => ?_))
    refine W.eq (g2 := F0 m 5 ls [.ref (F k_sx)]) rfl ?_
    refine lv_astore (lv' := [(4, .ref (F k_sx)), (0, .ref (F 24)), (1, .int sx), (2, .int kx), (3, .int vx)]) hx hb dX2_setCoefficient_5 hl (by decide) rfl (fun ls hl => ?_)
    refine lv_aload hx hb dX2_setCoefficient_7 (lv_at hl 0 rfl) ?_
    refine lv_ifnull hx hb dX2_setCoefficient_9 ?_
    refine lv_iload_n hx hb dX2_setCoefficient_12 rfl (lv_at hl 3 rfl) ?_
    refine lv_iconst (v := nI 0) hx hb dX2_setCoefficient_13 (by decide +kernel) ?_
    refine lv_bipush (v := nI 24) hx hb dX2_setCoefficient_14 (by decide +kernel) ?_
    by_cases h_kx : zin 0 24 kx
    ·
      refine zcallS (As := [.int kx, .int (nI 0), .int (nI 24)]) (rest := []) (k := 3) hx hb hml hown hts (kX2_isOutside l D cL cI cR A F 30 (zCE cL cR F T top Z) kx (nI 0) (nI 24) 0 (zo0 rfl rfl h_kx)) gX2_setCoefficient_X2_isOutside rfl (by decide +kernel) ⟨Nat.le_of_ble_eq_true rfl, Nat.le_of_ble_eq_true rfl⟩ hAm hP hS rfl hl.1 rfl (Nat.le_of_ble_eq_true rfl) dX2_setCoefficient_16 ⟨Nat.zero_le _, Nat.zero_le _⟩ (zkn (fun H locs hP hS => ?_))
      refine W.eq (g2 := F0 m 19 ls [.int (nI 0)]) rfl ?_
      refine zf_ne (tgt := 33) hx hb dX2_setCoefficient_19 (by decide) (by omega) (fun c1 => ?_) (fun c1 => ?_)
      ·
        exfalso; omega
      ·
        refine lv_iload_n hx hb dX2_setCoefficient_22 rfl (lv_at hl 4 rfl) ?_
        refine lv_ldc hx hb hown (hts (.constant RX2 48 (-268435456)) (by decide +kernel)) dX2_setCoefficient_23 ?_
        refine lv_ldc hx hb hown (hts (.constant RX2 49 (268435456)) (by decide +kernel)) dX2_setCoefficient_25 ?_
        by_cases h_vx : zin (-268435456) 268435456 vx
        ·
          refine zcallS (As := [.int vx, .int (-268435456 : Int32), .int (268435456 : Int32)]) (rest := []) (k := 3) hx hb hml hown hts (kX2_isOutside l D cL cI cR A F 30 (zCE cL cR F T top Z) vx (-268435456 : Int32) (268435456 : Int32) 0 (zo0 rfl rfl h_vx)) gX2_setCoefficient_X2_isOutside rfl (by decide +kernel) ⟨Nat.le_of_ble_eq_true rfl, Nat.le_of_ble_eq_true rfl⟩ hAm hP hS rfl hl.1 rfl (Nat.le_of_ble_eq_true rfl) dX2_setCoefficient_27 ⟨Nat.zero_le _, Nat.zero_le _⟩ (zkn (fun H locs hP hS => ?_))
          refine W.eq (g2 := F0 m 30 ls [.int (nI 0)]) rfl ?_
          refine zf_eq (tgt := 37) hx hb dX2_setCoefficient_30 (by decide) (by omega) (fun c2 => ?_) (fun c2 => ?_)
          ·
            exact absurd ⟨h_sx, h_kx, h_vx⟩ hbad
          ·
            exfalso; omega
        ·
          refine zcallS (As := [.int vx, .int (-268435456 : Int32), .int (268435456 : Int32)]) (rest := []) (k := 3) hx hb hml hown hts (kX2_isOutside l D cL cI cR A F 30 (zCE cL cR F T top Z) vx (-268435456 : Int32) (268435456 : Int32) 1 (zo1 rfl rfl h_vx)) gX2_setCoefficient_X2_isOutside rfl (by decide +kernel) ⟨Nat.le_of_ble_eq_true rfl, Nat.le_of_ble_eq_true rfl⟩ hAm hP hS rfl hl.1 rfl (Nat.le_of_ble_eq_true rfl) dX2_setCoefficient_27 ⟨Nat.zero_le _, Nat.zero_le _⟩ (zkn (fun H locs hP hS => ?_))
          refine W.eq (g2 := F0 m 30 ls [.int (nI 1)]) rfl ?_
          refine zf_eq (tgt := 37) hx hb dX2_setCoefficient_30 (by decide) (by omega) (fun c3 => ?_) (fun c3 => ?_)
          ·
            exfalso; omega
          ·
            refine lv_ldc2 hx hb hown (hts (.constantLong RX2 50 (-9000000000000000001)) (by decide +kernel)) dX2_setCoefficient_33 ?_
            exact zretL hx hb hr hlk hS hP dX2_setCoefficient_36 ⟨T, top, Z, rfl, rfl, hTP, fun _ _ => rfl⟩
    ·
      refine zcallS (As := [.int kx, .int (nI 0), .int (nI 24)]) (rest := []) (k := 3) hx hb hml hown hts (kX2_isOutside l D cL cI cR A F 30 (zCE cL cR F T top Z) kx (nI 0) (nI 24) 1 (zo1 rfl rfl h_kx)) gX2_setCoefficient_X2_isOutside rfl (by decide +kernel) ⟨Nat.le_of_ble_eq_true rfl, Nat.le_of_ble_eq_true rfl⟩ hAm hP hS rfl hl.1 rfl (Nat.le_of_ble_eq_true rfl) dX2_setCoefficient_16 ⟨Nat.zero_le _, Nat.zero_le _⟩ (zkn (fun H locs hP hS => ?_))
      refine W.eq (g2 := F0 m 19 ls [.int (nI 1)]) rfl ?_
      refine zf_ne (tgt := 33) hx hb dX2_setCoefficient_19 (by decide) (by omega) (fun c4 => ?_) (fun c4 => ?_)
      ·
        refine lv_ldc2 hx hb hown (hts (.constantLong RX2 50 (-9000000000000000001)) (by decide +kernel)) dX2_setCoefficient_33 ?_
        exact zretL hx hb hr hlk hS hP dX2_setCoefficient_36 ⟨T, top, Z, rfl, rfl, hTP, fun _ _ => rfl⟩
      ·
        exfalso; omega
  ·
    refine zcallV (As := [.int sx]) (rest := []) (q := 24) (k := 1) hx hb hml hown hts (kX2_find_out l D cL cI cR A F hF T top Z sx h_sx) gX2_setCoefficient_X2_find rfl (by decide +kernel) ⟨Nat.le_of_ble_eq_true rfl, Nat.le_of_ble_eq_true rfl⟩ rfl (by omega) (zC_o) rfl rfl hAm hP hS rfl hl.1 rfl (Nat.le_of_ble_eq_true rfl) dX2_setCoefficient_2 ⟨Nat.zero_le _, Nat.zero_le _⟩ (zkn (fun H locs hP hS => ?_))
    refine W.eq (g2 := F0 m 5 ls [.null]) rfl ?_
    refine lv_astoreN (lv' := [(4, .null), (0, .ref (F 24)), (1, .int sx), (2, .int kx), (3, .int vx)]) hx hb dX2_setCoefficient_5 hl (by decide) rfl (fun ls hl => ?_)
    refine lv_aloadN hx hb dX2_setCoefficient_7 (lv_at hl 0 rfl) ?_
    refine lv_ifnullN (tgt := 33) hx hb dX2_setCoefficient_9 (by decide) ?_
    refine lv_ldc2 hx hb hown (hts (.constantLong RX2 50 (-9000000000000000001)) (by decide +kernel)) dX2_setCoefficient_33 ?_
    exact zretL hx hb hr hlk hS hP dX2_setCoefficient_36 ⟨T, top, Z, rfl, rfl, hTP, fun _ _ => rfl⟩

set_option maxHeartbeats 4000000 in
set_option maxRecDepth 100000 in
theorem kX2_coefficient_bad (l : Launch) (D : va_G) (cL cI cR : ClassId) (A : Nat → Prop) (F : Nat → Nat) (hF : zq_F A F 30) (T : Nat → Nat → Int64) (top : Nat → Nat) (Z : zZC) (P : Nat → Nat → Int64) (n0 : Nat → Nat) (hTP : ∀ i, i < 8 → T i = P i ∧ top i = n0 i) (sx kx : Int32) (hbad : ¬ (zin 0 7 sx ∧ zin 0 24 kx)) : zCt l yX2_coefficient wsX2_coefficient 1 22 D cL cI cR A F 30 (zCE cL cR F T top Z) [.ref (F 24), .int sx, .int kx] (zPC cL cR F (-9000000000000000001) P n0 Z.1) := by
  refine zStart (cc := cX2_coefficient) (maxL := 4) (ret := (some .long)) (by decide +kernel) rfl (Nat.le_of_ble_eq_true rfl) ?_
  intro p e s m below meth c hx hb hr hml hlk hown hts hAm H hP hS ls hl
  have hown : s.vm.findClass RX2 = some m.cls := hown
  have hl : lv_has ls 4 [(0, .ref (F 24)), (1, .int sx), (2, .int kx)] := hl
  refine lv_aload_n hx hb dX2_coefficient_0 rfl (lv_at hl 0 rfl) ?_
  refine lv_iload_n hx hb dX2_coefficient_1 rfl (lv_at hl 1 rfl) ?_
  by_cases h_sx : zin 0 7 sx
  ·
    obtain ⟨k_sx, hk_sx, he_sx⟩ := zin_nat (a := 7) h_sx
    refine zcallV (As := [.int sx]) (rest := []) (q := 24) (k := 1) hx hb hml hown hts (kX2_find_in l D cL cI cR A F hF T top Z sx k_sx hk_sx he_sx) gX2_coefficient_X2_find rfl (by decide +kernel) ⟨Nat.le_of_ble_eq_true rfl, Nat.le_of_ble_eq_true rfl⟩ rfl (by omega) (zC_o) rfl rfl hAm hP hS rfl hl.1 rfl (Nat.le_of_ble_eq_true rfl) dX2_coefficient_2 ⟨Nat.zero_le _, Nat.zero_le _⟩ (zkn (fun H locs hP hS => ?_))
    refine W.eq (g2 := F0 m 5 ls [.ref (F k_sx)]) rfl ?_
    refine lv_astore_n (lv' := [(3, .ref (F k_sx)), (0, .ref (F 24)), (1, .int sx), (2, .int kx)]) hx hb dX2_coefficient_5 rfl hl (by decide) rfl (fun ls hl => ?_)
    refine lv_aload_n hx hb dX2_coefficient_6 rfl (lv_at hl 0 rfl) ?_
    refine lv_ifnull hx hb dX2_coefficient_7 ?_
    refine lv_iload_n hx hb dX2_coefficient_10 rfl (lv_at hl 3 rfl) ?_
    refine lv_iconst (v := nI 0) hx hb dX2_coefficient_11 (by decide +kernel) ?_
    refine lv_bipush (v := nI 24) hx hb dX2_coefficient_12 (by decide +kernel) ?_
    by_cases h_kx : zin 0 24 kx
    ·
      refine zcallS (As := [.int kx, .int (nI 0), .int (nI 24)]) (rest := []) (k := 3) hx hb hml hown hts (kX2_isOutside l D cL cI cR A F 30 (zCE cL cR F T top Z) kx (nI 0) (nI 24) 0 (zo0 rfl rfl h_kx)) gX2_coefficient_X2_isOutside rfl (by decide +kernel) ⟨Nat.le_of_ble_eq_true rfl, Nat.le_of_ble_eq_true rfl⟩ hAm hP hS rfl hl.1 rfl (Nat.le_of_ble_eq_true rfl) dX2_coefficient_14 ⟨Nat.zero_le _, Nat.zero_le _⟩ (zkn (fun H locs hP hS => ?_))
      refine W.eq (g2 := F0 m 17 ls [.int (nI 0)]) rfl ?_
      refine zf_eq (tgt := 24) hx hb dX2_coefficient_17 (by decide) (by omega) (fun c1 => ?_) (fun c1 => ?_)
      ·
        exact absurd ⟨h_sx, h_kx⟩ hbad
      ·
        exfalso; omega
    ·
      refine zcallS (As := [.int kx, .int (nI 0), .int (nI 24)]) (rest := []) (k := 3) hx hb hml hown hts (kX2_isOutside l D cL cI cR A F 30 (zCE cL cR F T top Z) kx (nI 0) (nI 24) 1 (zo1 rfl rfl h_kx)) gX2_coefficient_X2_isOutside rfl (by decide +kernel) ⟨Nat.le_of_ble_eq_true rfl, Nat.le_of_ble_eq_true rfl⟩ hAm hP hS rfl hl.1 rfl (Nat.le_of_ble_eq_true rfl) dX2_coefficient_14 ⟨Nat.zero_le _, Nat.zero_le _⟩ (zkn (fun H locs hP hS => ?_))
      refine W.eq (g2 := F0 m 17 ls [.int (nI 1)]) rfl ?_
      refine zf_eq (tgt := 24) hx hb dX2_coefficient_17 (by decide) (by omega) (fun c2 => ?_) (fun c2 => ?_)
      ·
        exfalso; omega
      ·
        refine lv_ldc2 hx hb hown (hts (.constantLong RX2 50 (-9000000000000000001)) (by decide +kernel)) dX2_coefficient_20 ?_
        exact zretL hx hb hr hlk hS hP dX2_coefficient_23 ⟨T, top, Z, rfl, rfl, hTP, fun _ _ => rfl⟩
  ·
    refine zcallV (As := [.int sx]) (rest := []) (q := 24) (k := 1) hx hb hml hown hts (kX2_find_out l D cL cI cR A F hF T top Z sx h_sx) gX2_coefficient_X2_find rfl (by decide +kernel) ⟨Nat.le_of_ble_eq_true rfl, Nat.le_of_ble_eq_true rfl⟩ rfl (by omega) (zC_o) rfl rfl hAm hP hS rfl hl.1 rfl (Nat.le_of_ble_eq_true rfl) dX2_coefficient_2 ⟨Nat.zero_le _, Nat.zero_le _⟩ (zkn (fun H locs hP hS => ?_))
    refine W.eq (g2 := F0 m 5 ls [.null]) rfl ?_
    refine lv_astore_nN (lv' := [(3, .null), (0, .ref (F 24)), (1, .int sx), (2, .int kx)]) hx hb dX2_coefficient_5 rfl hl (by decide) rfl (fun ls hl => ?_)
    refine lv_aload_nN hx hb dX2_coefficient_6 rfl (lv_at hl 0 rfl) ?_
    refine lv_ifnullN (tgt := 20) hx hb dX2_coefficient_7 (by decide) ?_
    refine lv_ldc2 hx hb hown (hts (.constantLong RX2 50 (-9000000000000000001)) (by decide +kernel)) dX2_coefficient_20 ?_
    exact zretL hx hb hr hlk hS hP dX2_coefficient_23 ⟨T, top, Z, rfl, rfl, hTP, fun _ _ => rfl⟩

set_option maxHeartbeats 4000000 in
set_option maxRecDepth 100000 in
theorem kX2_degree_bad (l : Launch) (D : va_G) (cL cI cR : ClassId) (A : Nat → Prop) (F : Nat → Nat) (hF : zq_F A F 30) (T : Nat → Nat → Int64) (top : Nat → Nat) (Z : zZC) (P : Nat → Nat → Int64) (n0 : Nat → Nat) (hTP : ∀ i, i < 8 → T i = P i ∧ top i = n0 i) (sx : Int32) (hbad : ¬ (zin 0 7 sx)) : zCt l yX2_degree wsX2_degree 1 21 D cL cI cR A F 30 (zCE cL cR F T top Z) [.ref (F 24), .int sx] (zPC cL cR F (-9000000000000000001) P n0 Z.1) := by
  refine zStart (cc := cX2_degree) (maxL := 3) (ret := (some .long)) (by decide +kernel) rfl (Nat.le_of_ble_eq_true rfl) ?_
  intro p e s m below meth c hx hb hr hml hlk hown hts hAm H hP hS ls hl
  have hown : s.vm.findClass RX2 = some m.cls := hown
  have hl : lv_has ls 3 [(0, .ref (F 24)), (1, .int sx)] := hl
  refine lv_aload_n hx hb dX2_degree_0 rfl (lv_at hl 0 rfl) ?_
  refine lv_iload_n hx hb dX2_degree_1 rfl (lv_at hl 1 rfl) ?_
  by_cases h_sx : zin 0 7 sx
  ·
    obtain ⟨k_sx, hk_sx, he_sx⟩ := zin_nat (a := 7) h_sx
    refine zcallV (As := [.int sx]) (rest := []) (q := 24) (k := 1) hx hb hml hown hts (kX2_find_in l D cL cI cR A F hF T top Z sx k_sx hk_sx he_sx) gX2_degree_X2_find rfl (by decide +kernel) ⟨Nat.le_of_ble_eq_true rfl, Nat.le_of_ble_eq_true rfl⟩ rfl (by omega) (zC_o) rfl rfl hAm hP hS rfl hl.1 rfl (Nat.le_of_ble_eq_true rfl) dX2_degree_2 ⟨Nat.zero_le _, Nat.zero_le _⟩ (zkn (fun H locs hP hS => ?_))
    refine W.eq (g2 := F0 m 5 ls [.ref (F k_sx)]) rfl ?_
    refine lv_astore_n (lv' := [(2, .ref (F k_sx)), (0, .ref (F 24)), (1, .int sx)]) hx hb dX2_degree_5 rfl hl (by decide) rfl (fun ls hl => ?_)
    refine lv_aload_n hx hb dX2_degree_6 rfl (lv_at hl 0 rfl) ?_
    refine lv_ifnonnull (tgt := 16) hx hb dX2_degree_7 (by decide) ?_
    exact absurd h_sx hbad
  ·
    refine zcallV (As := [.int sx]) (rest := []) (q := 24) (k := 1) hx hb hml hown hts (kX2_find_out l D cL cI cR A F hF T top Z sx h_sx) gX2_degree_X2_find rfl (by decide +kernel) ⟨Nat.le_of_ble_eq_true rfl, Nat.le_of_ble_eq_true rfl⟩ rfl (by omega) (zC_o) rfl rfl hAm hP hS rfl hl.1 rfl (Nat.le_of_ble_eq_true rfl) dX2_degree_2 ⟨Nat.zero_le _, Nat.zero_le _⟩ (zkn (fun H locs hP hS => ?_))
    refine W.eq (g2 := F0 m 5 ls [.null]) rfl ?_
    refine lv_astore_nN (lv' := [(2, .null), (0, .ref (F 24)), (1, .int sx)]) hx hb dX2_degree_5 rfl hl (by decide) rfl (fun ls hl => ?_)
    refine lv_aload_nN hx hb dX2_degree_6 rfl (lv_at hl 0 rfl) ?_
    refine lv_ifnonnullN hx hb dX2_degree_7 ?_
    refine lv_ldc2 hx hb hown (hts (.constantLong RX2 50 (-9000000000000000001)) (by decide +kernel)) dX2_degree_10 ?_
    refine lv_goto (tgt := 21) hx hb dX2_degree_13 (by decide) ?_
    exact zretL hx hb hr hlk hS hP dX2_degree_21 ⟨T, top, Z, rfl, rfl, hTP, fun _ _ => rfl⟩

set_option maxHeartbeats 4000000 in
set_option maxRecDepth 100000 in
theorem kX2_copy_bad (l : Launch) (D : va_G) (cL cI cR : ClassId) (A : Nat → Prop) (F : Nat → Nat) (hF : zq_F A F 30) (T : Nat → Nat → Int64) (top : Nat → Nat) (Z : zZC) (P : Nat → Nat → Int64) (n0 : Nat → Nat) (hTP : ∀ i, i < 8 → T i = P i ∧ top i = n0 i) (ax tx : Int32) (hbad : ¬ (zin 0 7 ax ∧ zin 0 7 tx)) : zCt l yX2_copy wsX2_copy 1 21 D cL cI cR A F 30 (zCE cL cR F T top Z) [.ref (F 24), .int ax, .int tx] (zPC cL cR F (-9000000000000000001) P n0 Z.1) := by
  refine zStart (cc := cX2_copy) (maxL := 5) (ret := (some .long)) (by decide +kernel) rfl (Nat.le_of_ble_eq_true rfl) ?_
  intro p e s m below meth c hx hb hr hml hlk hown hts hAm H hP hS ls hl
  have hown : s.vm.findClass RX2 = some m.cls := hown
  have hl : lv_has ls 5 [(0, .ref (F 24)), (1, .int ax), (2, .int tx)] := hl
  refine lv_aload_n hx hb dX2_copy_0 rfl (lv_at hl 0 rfl) ?_
  refine lv_iload_n hx hb dX2_copy_1 rfl (lv_at hl 1 rfl) ?_
  by_cases h_ax : zin 0 7 ax
  ·
    obtain ⟨k_ax, hk_ax, he_ax⟩ := zin_nat (a := 7) h_ax
    refine zcallV (As := [.int ax]) (rest := []) (q := 24) (k := 1) hx hb hml hown hts (kX2_find_in l D cL cI cR A F hF T top Z ax k_ax hk_ax he_ax) gX2_copy_X2_find rfl (by decide +kernel) ⟨Nat.le_of_ble_eq_true rfl, Nat.le_of_ble_eq_true rfl⟩ rfl (by omega) (zC_o) rfl rfl hAm hP hS rfl hl.1 rfl (Nat.le_of_ble_eq_true rfl) dX2_copy_2 ⟨Nat.zero_le _, Nat.zero_le _⟩ (zkn (fun H locs hP hS => ?_))
    refine W.eq (g2 := F0 m 5 ls [.ref (F k_ax)]) rfl ?_
    refine lv_astore_n (lv' := [(3, .ref (F k_ax)), (0, .ref (F 24)), (1, .int ax), (2, .int tx)]) hx hb dX2_copy_5 rfl hl (by decide) rfl (fun ls hl => ?_)
    refine lv_aload_n hx hb dX2_copy_6 rfl (lv_at hl 1 rfl) ?_
    refine lv_iload_n hx hb dX2_copy_7 rfl (lv_at hl 3 rfl) ?_
    by_cases h_tx : zin 0 7 tx
    ·
      obtain ⟨k_tx, hk_tx, he_tx⟩ := zin_nat (a := 7) h_tx
      refine zcallV (As := [.int tx]) (rest := []) (q := 24) (k := 1) hx hb hml hown hts (kX2_find_in l D cL cI cR A F hF T top Z tx k_tx hk_tx he_tx) gX2_copy_X2_find rfl (by decide +kernel) ⟨Nat.le_of_ble_eq_true rfl, Nat.le_of_ble_eq_true rfl⟩ rfl (by omega) (zC_o) rfl rfl hAm hP hS rfl hl.1 rfl (Nat.le_of_ble_eq_true rfl) dX2_copy_8 ⟨Nat.zero_le _, Nat.zero_le _⟩ (zkn (fun H locs hP hS => ?_))
      refine W.eq (g2 := F0 m 11 ls [.ref (F k_tx)]) rfl ?_
      refine lv_astore (lv' := [(4, .ref (F k_tx)), (3, .ref (F k_ax)), (0, .ref (F 24)), (1, .int ax), (2, .int tx)]) hx hb dX2_copy_11 hl (by decide) rfl (fun ls hl => ?_)
      refine lv_aload_n hx hb dX2_copy_13 rfl (lv_at hl 1 rfl) ?_
      refine lv_ifnull hx hb dX2_copy_14 ?_
      refine lv_aload hx hb dX2_copy_17 (lv_at hl 0 rfl) ?_
      refine lv_ifnonnull (tgt := 26) hx hb dX2_copy_19 (by decide) ?_
      exact absurd ⟨h_ax, h_tx⟩ hbad
    ·
      refine zcallV (As := [.int tx]) (rest := []) (q := 24) (k := 1) hx hb hml hown hts (kX2_find_out l D cL cI cR A F hF T top Z tx h_tx) gX2_copy_X2_find rfl (by decide +kernel) ⟨Nat.le_of_ble_eq_true rfl, Nat.le_of_ble_eq_true rfl⟩ rfl (by omega) (zC_o) rfl rfl hAm hP hS rfl hl.1 rfl (Nat.le_of_ble_eq_true rfl) dX2_copy_8 ⟨Nat.zero_le _, Nat.zero_le _⟩ (zkn (fun H locs hP hS => ?_))
      refine W.eq (g2 := F0 m 11 ls [.null]) rfl ?_
      refine lv_astoreN (lv' := [(4, .null), (3, .ref (F k_ax)), (0, .ref (F 24)), (1, .int ax), (2, .int tx)]) hx hb dX2_copy_11 hl (by decide) rfl (fun ls hl => ?_)
      refine lv_aload_n hx hb dX2_copy_13 rfl (lv_at hl 1 rfl) ?_
      refine lv_ifnull hx hb dX2_copy_14 ?_
      refine lv_aloadN hx hb dX2_copy_17 (lv_at hl 0 rfl) ?_
      refine lv_ifnonnullN hx hb dX2_copy_19 ?_
      refine lv_ldc2 hx hb hown (hts (.constantLong RX2 50 (-9000000000000000001)) (by decide +kernel)) dX2_copy_22 ?_
      exact zretL hx hb hr hlk hS hP dX2_copy_25 ⟨T, top, Z, rfl, rfl, hTP, fun _ _ => rfl⟩
  ·
    refine zcallV (As := [.int ax]) (rest := []) (q := 24) (k := 1) hx hb hml hown hts (kX2_find_out l D cL cI cR A F hF T top Z ax h_ax) gX2_copy_X2_find rfl (by decide +kernel) ⟨Nat.le_of_ble_eq_true rfl, Nat.le_of_ble_eq_true rfl⟩ rfl (by omega) (zC_o) rfl rfl hAm hP hS rfl hl.1 rfl (Nat.le_of_ble_eq_true rfl) dX2_copy_2 ⟨Nat.zero_le _, Nat.zero_le _⟩ (zkn (fun H locs hP hS => ?_))
    refine W.eq (g2 := F0 m 5 ls [.null]) rfl ?_
    refine lv_astore_nN (lv' := [(3, .null), (0, .ref (F 24)), (1, .int ax), (2, .int tx)]) hx hb dX2_copy_5 rfl hl (by decide) rfl (fun ls hl => ?_)
    refine lv_aload_n hx hb dX2_copy_6 rfl (lv_at hl 1 rfl) ?_
    refine lv_iload_n hx hb dX2_copy_7 rfl (lv_at hl 3 rfl) ?_
    by_cases h_tx : zin 0 7 tx
    ·
      obtain ⟨k_tx, hk_tx, he_tx⟩ := zin_nat (a := 7) h_tx
      refine zcallV (As := [.int tx]) (rest := []) (q := 24) (k := 1) hx hb hml hown hts (kX2_find_in l D cL cI cR A F hF T top Z tx k_tx hk_tx he_tx) gX2_copy_X2_find rfl (by decide +kernel) ⟨Nat.le_of_ble_eq_true rfl, Nat.le_of_ble_eq_true rfl⟩ rfl (by omega) (zC_o) rfl rfl hAm hP hS rfl hl.1 rfl (Nat.le_of_ble_eq_true rfl) dX2_copy_8 ⟨Nat.zero_le _, Nat.zero_le _⟩ (zkn (fun H locs hP hS => ?_))
      refine W.eq (g2 := F0 m 11 ls [.ref (F k_tx)]) rfl ?_
      refine lv_astore (lv' := [(4, .ref (F k_tx)), (3, .null), (0, .ref (F 24)), (1, .int ax), (2, .int tx)]) hx hb dX2_copy_11 hl (by decide) rfl (fun ls hl => ?_)
      refine lv_aload_nN hx hb dX2_copy_13 rfl (lv_at hl 1 rfl) ?_
      refine lv_ifnullN (tgt := 22) hx hb dX2_copy_14 (by decide) ?_
      refine lv_ldc2 hx hb hown (hts (.constantLong RX2 50 (-9000000000000000001)) (by decide +kernel)) dX2_copy_22 ?_
      exact zretL hx hb hr hlk hS hP dX2_copy_25 ⟨T, top, Z, rfl, rfl, hTP, fun _ _ => rfl⟩
    ·
      refine zcallV (As := [.int tx]) (rest := []) (q := 24) (k := 1) hx hb hml hown hts (kX2_find_out l D cL cI cR A F hF T top Z tx h_tx) gX2_copy_X2_find rfl (by decide +kernel) ⟨Nat.le_of_ble_eq_true rfl, Nat.le_of_ble_eq_true rfl⟩ rfl (by omega) (zC_o) rfl rfl hAm hP hS rfl hl.1 rfl (Nat.le_of_ble_eq_true rfl) dX2_copy_8 ⟨Nat.zero_le _, Nat.zero_le _⟩ (zkn (fun H locs hP hS => ?_))
      refine W.eq (g2 := F0 m 11 ls [.null]) rfl ?_
      refine lv_astoreN (lv' := [(4, .null), (3, .null), (0, .ref (F 24)), (1, .int ax), (2, .int tx)]) hx hb dX2_copy_11 hl (by decide) rfl (fun ls hl => ?_)
      refine lv_aload_nN hx hb dX2_copy_13 rfl (lv_at hl 1 rfl) ?_
      refine lv_ifnullN (tgt := 22) hx hb dX2_copy_14 (by decide) ?_
      refine lv_ldc2 hx hb hown (hts (.constantLong RX2 50 (-9000000000000000001)) (by decide +kernel)) dX2_copy_22 ?_
      exact zretL hx hb hr hlk hS hP dX2_copy_25 ⟨T, top, Z, rfl, rfl, hTP, fun _ _ => rfl⟩

set_option maxHeartbeats 4000000 in
set_option maxRecDepth 100000 in
theorem kX2_value_bad (l : Launch) (D : va_G) (cL cI cR : ClassId) (A : Nat → Prop) (F : Nat → Nat) (hF : zq_F A F 30) (T : Nat → Nat → Int64) (top : Nat → Nat) (Z : zZC) (P : Nat → Nat → Int64) (n0 : Nat → Nat) (hTP : ∀ i, i < 8 → T i = P i ∧ top i = n0 i) (sx xx : Int32) (hbad : ¬ (zin 0 7 sx ∧ zin (-1048576) 1048576 xx)) : zCt l yX2_value wsX2_value 1 22 D cL cI cR A F 30 (zCE cL cR F T top Z) [.ref (F 24), .int sx, .int xx] (zPC cL cR F (-9000000000000000001) P n0 Z.1) := by
  refine zStart (cc := cX2_value) (maxL := 4) (ret := (some .long)) (by decide +kernel) rfl (Nat.le_of_ble_eq_true rfl) ?_
  intro p e s m below meth c hx hb hr hml hlk hown hts hAm H hP hS ls hl
  have hown : s.vm.findClass RX2 = some m.cls := hown
  have hl : lv_has ls 4 [(0, .ref (F 24)), (1, .int sx), (2, .int xx)] := hl
  refine lv_aload_n hx hb dX2_value_0 rfl (lv_at hl 0 rfl) ?_
  refine lv_iload_n hx hb dX2_value_1 rfl (lv_at hl 1 rfl) ?_
  by_cases h_sx : zin 0 7 sx
  ·
    obtain ⟨k_sx, hk_sx, he_sx⟩ := zin_nat (a := 7) h_sx
    refine zcallV (As := [.int sx]) (rest := []) (q := 24) (k := 1) hx hb hml hown hts (kX2_find_in l D cL cI cR A F hF T top Z sx k_sx hk_sx he_sx) gX2_value_X2_find rfl (by decide +kernel) ⟨Nat.le_of_ble_eq_true rfl, Nat.le_of_ble_eq_true rfl⟩ rfl (by omega) (zC_o) rfl rfl hAm hP hS rfl hl.1 rfl (Nat.le_of_ble_eq_true rfl) dX2_value_2 ⟨Nat.zero_le _, Nat.zero_le _⟩ (zkn (fun H locs hP hS => ?_))
    refine W.eq (g2 := F0 m 5 ls [.ref (F k_sx)]) rfl ?_
    refine lv_astore_n (lv' := [(3, .ref (F k_sx)), (0, .ref (F 24)), (1, .int sx), (2, .int xx)]) hx hb dX2_value_5 rfl hl (by decide) rfl (fun ls hl => ?_)
    refine lv_aload_n hx hb dX2_value_6 rfl (lv_at hl 0 rfl) ?_
    refine lv_ifnull hx hb dX2_value_7 ?_
    refine lv_iload_n hx hb dX2_value_10 rfl (lv_at hl 3 rfl) ?_
    refine lv_ldc hx hb hown (hts (.constant RX2 71 (-1048576)) (by decide +kernel)) dX2_value_11 ?_
    refine lv_ldc hx hb hown (hts (.constant RX2 72 (1048576)) (by decide +kernel)) dX2_value_13 ?_
    by_cases h_xx : zin (-1048576) 1048576 xx
    ·
      refine zcallS (As := [.int xx, .int (-1048576 : Int32), .int (1048576 : Int32)]) (rest := []) (k := 3) hx hb hml hown hts (kX2_isOutside l D cL cI cR A F 30 (zCE cL cR F T top Z) xx (-1048576 : Int32) (1048576 : Int32) 0 (zo0 rfl rfl h_xx)) gX2_value_X2_isOutside rfl (by decide +kernel) ⟨Nat.le_of_ble_eq_true rfl, Nat.le_of_ble_eq_true rfl⟩ hAm hP hS rfl hl.1 rfl (Nat.le_of_ble_eq_true rfl) dX2_value_15 ⟨Nat.zero_le _, Nat.zero_le _⟩ (zkn (fun H locs hP hS => ?_))
      refine W.eq (g2 := F0 m 18 ls [.int (nI 0)]) rfl ?_
      refine zf_eq (tgt := 25) hx hb dX2_value_18 (by decide) (by omega) (fun c1 => ?_) (fun c1 => ?_)
      ·
        exact absurd ⟨h_sx, h_xx⟩ hbad
      ·
        exfalso; omega
    ·
      refine zcallS (As := [.int xx, .int (-1048576 : Int32), .int (1048576 : Int32)]) (rest := []) (k := 3) hx hb hml hown hts (kX2_isOutside l D cL cI cR A F 30 (zCE cL cR F T top Z) xx (-1048576 : Int32) (1048576 : Int32) 1 (zo1 rfl rfl h_xx)) gX2_value_X2_isOutside rfl (by decide +kernel) ⟨Nat.le_of_ble_eq_true rfl, Nat.le_of_ble_eq_true rfl⟩ hAm hP hS rfl hl.1 rfl (Nat.le_of_ble_eq_true rfl) dX2_value_15 ⟨Nat.zero_le _, Nat.zero_le _⟩ (zkn (fun H locs hP hS => ?_))
      refine W.eq (g2 := F0 m 18 ls [.int (nI 1)]) rfl ?_
      refine zf_eq (tgt := 25) hx hb dX2_value_18 (by decide) (by omega) (fun c2 => ?_) (fun c2 => ?_)
      ·
        exfalso; omega
      ·
        refine lv_ldc2 hx hb hown (hts (.constantLong RX2 50 (-9000000000000000001)) (by decide +kernel)) dX2_value_21 ?_
        exact zretL hx hb hr hlk hS hP dX2_value_24 ⟨T, top, Z, rfl, rfl, hTP, fun _ _ => rfl⟩
  ·
    refine zcallV (As := [.int sx]) (rest := []) (q := 24) (k := 1) hx hb hml hown hts (kX2_find_out l D cL cI cR A F hF T top Z sx h_sx) gX2_value_X2_find rfl (by decide +kernel) ⟨Nat.le_of_ble_eq_true rfl, Nat.le_of_ble_eq_true rfl⟩ rfl (by omega) (zC_o) rfl rfl hAm hP hS rfl hl.1 rfl (Nat.le_of_ble_eq_true rfl) dX2_value_2 ⟨Nat.zero_le _, Nat.zero_le _⟩ (zkn (fun H locs hP hS => ?_))
    refine W.eq (g2 := F0 m 5 ls [.null]) rfl ?_
    refine lv_astore_nN (lv' := [(3, .null), (0, .ref (F 24)), (1, .int sx), (2, .int xx)]) hx hb dX2_value_5 rfl hl (by decide) rfl (fun ls hl => ?_)
    refine lv_aload_nN hx hb dX2_value_6 rfl (lv_at hl 0 rfl) ?_
    refine lv_ifnullN (tgt := 21) hx hb dX2_value_7 (by decide) ?_
    refine lv_ldc2 hx hb hown (hts (.constantLong RX2 50 (-9000000000000000001)) (by decide +kernel)) dX2_value_21 ?_
    exact zretL hx hb hr hlk hS hP dX2_value_24 ⟨T, top, Z, rfl, rfl, hTP, fun _ _ => rfl⟩

set_option maxHeartbeats 4000000 in
set_option maxRecDepth 100000 in
theorem kX2_add_bad (l : Launch) (D : va_G) (cL cI cR : ClassId) (A : Nat → Prop) (F : Nat → Nat) (hF : zq_F A F 30) (T : Nat → Nat → Int64) (top : Nat → Nat) (Z : zZC) (P : Nat → Nat → Int64) (n0 : Nat → Nat) (hTP : ∀ i, i < 8 → T i = P i ∧ top i = n0 i) (ax fax bx fbx tx : Int32) (hbad : ¬ (zin 0 7 ax ∧ zin 0 7 bx ∧ zin 0 7 tx ∧ zin (-1000) 1000 fax ∧ zin (-1000) 1000 fbx)) : zCt l yX2_add wsX2_add 1 22 D cL cI cR A F 30 (zCE cL cR F T top Z) [.ref (F 24), .int ax, .int fax, .int bx, .int fbx, .int tx] (zPC cL cR F (-9000000000000000001) P n0 Z.1) := by
  refine zStart (cc := cX2_add) (maxL := 9) (ret := (some .long)) (by decide +kernel) rfl (Nat.le_of_ble_eq_true rfl) ?_
  intro p e s m below meth c hx hb hr hml hlk hown hts hAm H hP hS ls hl
  have hown : s.vm.findClass RX2 = some m.cls := hown
  have hl : lv_has ls 9 [(0, .ref (F 24)), (1, .int ax), (2, .int fax), (3, .int bx), (4, .int fbx), (5, .int tx)] := hl
  refine lv_aload_n hx hb dX2_add_0 rfl (lv_at hl 0 rfl) ?_
  refine lv_iload_n hx hb dX2_add_1 rfl (lv_at hl 1 rfl) ?_
  by_cases h_ax : zin 0 7 ax
  ·
    obtain ⟨k_ax, hk_ax, he_ax⟩ := zin_nat (a := 7) h_ax
    refine zcallV (As := [.int ax]) (rest := []) (q := 24) (k := 1) hx hb hml hown hts (kX2_find_in l D cL cI cR A F hF T top Z ax k_ax hk_ax he_ax) gX2_add_X2_find rfl (by decide +kernel) ⟨Nat.le_of_ble_eq_true rfl, Nat.le_of_ble_eq_true rfl⟩ rfl (by omega) (zC_o) rfl rfl hAm hP hS rfl hl.1 rfl (Nat.le_of_ble_eq_true rfl) dX2_add_2 ⟨Nat.zero_le _, Nat.zero_le _⟩ (zkn (fun H locs hP hS => ?_))
    refine W.eq (g2 := F0 m 5 ls [.ref (F k_ax)]) rfl ?_
    refine lv_astore (lv' := [(6, .ref (F k_ax)), (0, .ref (F 24)), (1, .int ax), (2, .int fax), (3, .int bx), (4, .int fbx), (5, .int tx)]) hx hb dX2_add_5 hl (by decide) rfl (fun ls hl => ?_)
    refine lv_aload_n hx hb dX2_add_7 rfl (lv_at hl 1 rfl) ?_
    refine lv_iload_n hx hb dX2_add_8 rfl (lv_at hl 4 rfl) ?_
    by_cases h_bx : zin 0 7 bx
    ·
      obtain ⟨k_bx, hk_bx, he_bx⟩ := zin_nat (a := 7) h_bx
      refine zcallV (As := [.int bx]) (rest := []) (q := 24) (k := 1) hx hb hml hown hts (kX2_find_in l D cL cI cR A F hF T top Z bx k_bx hk_bx he_bx) gX2_add_X2_find rfl (by decide +kernel) ⟨Nat.le_of_ble_eq_true rfl, Nat.le_of_ble_eq_true rfl⟩ rfl (by omega) (zC_o) rfl rfl hAm hP hS rfl hl.1 rfl (Nat.le_of_ble_eq_true rfl) dX2_add_9 ⟨Nat.zero_le _, Nat.zero_le _⟩ (zkn (fun H locs hP hS => ?_))
      refine W.eq (g2 := F0 m 12 ls [.ref (F k_bx)]) rfl ?_
      refine lv_astore (lv' := [(7, .ref (F k_bx)), (6, .ref (F k_ax)), (0, .ref (F 24)), (1, .int ax), (2, .int fax), (3, .int bx), (4, .int fbx), (5, .int tx)]) hx hb dX2_add_12 hl (by decide) rfl (fun ls hl => ?_)
      refine lv_aload_n hx hb dX2_add_14 rfl (lv_at hl 2 rfl) ?_
      refine lv_iload hx hb dX2_add_15 (lv_at hl 7 rfl) ?_
      by_cases h_tx : zin 0 7 tx
      ·
        obtain ⟨k_tx, hk_tx, he_tx⟩ := zin_nat (a := 7) h_tx
        refine zcallV (As := [.int tx]) (rest := []) (q := 24) (k := 1) hx hb hml hown hts (kX2_find_in l D cL cI cR A F hF T top Z tx k_tx hk_tx he_tx) gX2_add_X2_find rfl (by decide +kernel) ⟨Nat.le_of_ble_eq_true rfl, Nat.le_of_ble_eq_true rfl⟩ rfl (by omega) (zC_o) rfl rfl hAm hP hS rfl hl.1 rfl (Nat.le_of_ble_eq_true rfl) dX2_add_17 ⟨Nat.zero_le _, Nat.zero_le _⟩ (zkn (fun H locs hP hS => ?_))
        refine W.eq (g2 := F0 m 20 ls [.ref (F k_tx)]) rfl ?_
        refine lv_astore (lv' := [(8, .ref (F k_tx)), (7, .ref (F k_bx)), (6, .ref (F k_ax)), (0, .ref (F 24)), (1, .int ax), (2, .int fax), (3, .int bx), (4, .int fbx), (5, .int tx)]) hx hb dX2_add_20 hl (by decide) rfl (fun ls hl => ?_)
        refine lv_aload hx hb dX2_add_22 (lv_at hl 2 rfl) ?_
        refine lv_ifnull hx hb dX2_add_24 ?_
        refine lv_aload hx hb dX2_add_27 (lv_at hl 1 rfl) ?_
        refine lv_ifnull hx hb dX2_add_29 ?_
        refine lv_aload hx hb dX2_add_32 (lv_at hl 0 rfl) ?_
        refine lv_ifnonnull (tgt := 41) hx hb dX2_add_34 (by decide) ?_
        refine lv_iload_n hx hb dX2_add_41 rfl (lv_at hl 5 rfl) ?_
        refine lv_sipush (v := (-1000 : Int32)) hx hb dX2_add_42 (by decide +kernel) ?_
        refine lv_sipush (v := nI 1000) hx hb dX2_add_45 (by decide +kernel) ?_
        by_cases h_fax : zin (-1000) 1000 fax
        ·
          refine zcallS (As := [.int fax, .int (-1000 : Int32), .int (nI 1000)]) (rest := []) (k := 3) hx hb hml hown hts (kX2_isOutside l D cL cI cR A F 30 (zCE cL cR F T top Z) fax (-1000 : Int32) (nI 1000) 0 (zo0 rfl rfl h_fax)) gX2_add_X2_isOutside rfl (by decide +kernel) ⟨Nat.le_of_ble_eq_true rfl, Nat.le_of_ble_eq_true rfl⟩ hAm hP hS rfl hl.1 rfl (Nat.le_of_ble_eq_true rfl) dX2_add_48 ⟨Nat.zero_le _, Nat.zero_le _⟩ (zkn (fun H locs hP hS => ?_))
          refine W.eq (g2 := F0 m 51 ls [.int (nI 0)]) rfl ?_
          refine zf_ne (tgt := 68) hx hb dX2_add_51 (by decide) (by omega) (fun c1 => ?_) (fun c1 => ?_)
          ·
            exfalso; omega
          ·
            refine lv_iload hx hb dX2_add_54 (lv_at hl 7 rfl) ?_
            refine lv_sipush (v := (-1000 : Int32)) hx hb dX2_add_56 (by decide +kernel) ?_
            refine lv_sipush (v := nI 1000) hx hb dX2_add_59 (by decide +kernel) ?_
            by_cases h_fbx : zin (-1000) 1000 fbx
            ·
              refine zcallS (As := [.int fbx, .int (-1000 : Int32), .int (nI 1000)]) (rest := []) (k := 3) hx hb hml hown hts (kX2_isOutside l D cL cI cR A F 30 (zCE cL cR F T top Z) fbx (-1000 : Int32) (nI 1000) 0 (zo0 rfl rfl h_fbx)) gX2_add_X2_isOutside rfl (by decide +kernel) ⟨Nat.le_of_ble_eq_true rfl, Nat.le_of_ble_eq_true rfl⟩ hAm hP hS rfl hl.1 rfl (Nat.le_of_ble_eq_true rfl) dX2_add_62 ⟨Nat.zero_le _, Nat.zero_le _⟩ (zkn (fun H locs hP hS => ?_))
              refine W.eq (g2 := F0 m 65 ls [.int (nI 0)]) rfl ?_
              refine zf_eq (tgt := 72) hx hb dX2_add_65 (by decide) (by omega) (fun c2 => ?_) (fun c2 => ?_)
              ·
                exact absurd ⟨h_ax, h_bx, h_tx, h_fax, h_fbx⟩ hbad
              ·
                exfalso; omega
            ·
              refine zcallS (As := [.int fbx, .int (-1000 : Int32), .int (nI 1000)]) (rest := []) (k := 3) hx hb hml hown hts (kX2_isOutside l D cL cI cR A F 30 (zCE cL cR F T top Z) fbx (-1000 : Int32) (nI 1000) 1 (zo1 rfl rfl h_fbx)) gX2_add_X2_isOutside rfl (by decide +kernel) ⟨Nat.le_of_ble_eq_true rfl, Nat.le_of_ble_eq_true rfl⟩ hAm hP hS rfl hl.1 rfl (Nat.le_of_ble_eq_true rfl) dX2_add_62 ⟨Nat.zero_le _, Nat.zero_le _⟩ (zkn (fun H locs hP hS => ?_))
              refine W.eq (g2 := F0 m 65 ls [.int (nI 1)]) rfl ?_
              refine zf_eq (tgt := 72) hx hb dX2_add_65 (by decide) (by omega) (fun c3 => ?_) (fun c3 => ?_)
              ·
                exfalso; omega
              ·
                refine lv_ldc2 hx hb hown (hts (.constantLong RX2 50 (-9000000000000000001)) (by decide +kernel)) dX2_add_68 ?_
                exact zretL hx hb hr hlk hS hP dX2_add_71 ⟨T, top, Z, rfl, rfl, hTP, fun _ _ => rfl⟩
        ·
          refine zcallS (As := [.int fax, .int (-1000 : Int32), .int (nI 1000)]) (rest := []) (k := 3) hx hb hml hown hts (kX2_isOutside l D cL cI cR A F 30 (zCE cL cR F T top Z) fax (-1000 : Int32) (nI 1000) 1 (zo1 rfl rfl h_fax)) gX2_add_X2_isOutside rfl (by decide +kernel) ⟨Nat.le_of_ble_eq_true rfl, Nat.le_of_ble_eq_true rfl⟩ hAm hP hS rfl hl.1 rfl (Nat.le_of_ble_eq_true rfl) dX2_add_48 ⟨Nat.zero_le _, Nat.zero_le _⟩ (zkn (fun H locs hP hS => ?_))
          refine W.eq (g2 := F0 m 51 ls [.int (nI 1)]) rfl ?_
          refine zf_ne (tgt := 68) hx hb dX2_add_51 (by decide) (by omega) (fun c4 => ?_) (fun c4 => ?_)
          ·
            refine lv_ldc2 hx hb hown (hts (.constantLong RX2 50 (-9000000000000000001)) (by decide +kernel)) dX2_add_68 ?_
            exact zretL hx hb hr hlk hS hP dX2_add_71 ⟨T, top, Z, rfl, rfl, hTP, fun _ _ => rfl⟩
          ·
            exfalso; omega
      ·
        refine zcallV (As := [.int tx]) (rest := []) (q := 24) (k := 1) hx hb hml hown hts (kX2_find_out l D cL cI cR A F hF T top Z tx h_tx) gX2_add_X2_find rfl (by decide +kernel) ⟨Nat.le_of_ble_eq_true rfl, Nat.le_of_ble_eq_true rfl⟩ rfl (by omega) (zC_o) rfl rfl hAm hP hS rfl hl.1 rfl (Nat.le_of_ble_eq_true rfl) dX2_add_17 ⟨Nat.zero_le _, Nat.zero_le _⟩ (zkn (fun H locs hP hS => ?_))
        refine W.eq (g2 := F0 m 20 ls [.null]) rfl ?_
        refine lv_astoreN (lv' := [(8, .null), (7, .ref (F k_bx)), (6, .ref (F k_ax)), (0, .ref (F 24)), (1, .int ax), (2, .int fax), (3, .int bx), (4, .int fbx), (5, .int tx)]) hx hb dX2_add_20 hl (by decide) rfl (fun ls hl => ?_)
        refine lv_aload hx hb dX2_add_22 (lv_at hl 2 rfl) ?_
        refine lv_ifnull hx hb dX2_add_24 ?_
        refine lv_aload hx hb dX2_add_27 (lv_at hl 1 rfl) ?_
        refine lv_ifnull hx hb dX2_add_29 ?_
        refine lv_aloadN hx hb dX2_add_32 (lv_at hl 0 rfl) ?_
        refine lv_ifnonnullN hx hb dX2_add_34 ?_
        refine lv_ldc2 hx hb hown (hts (.constantLong RX2 50 (-9000000000000000001)) (by decide +kernel)) dX2_add_37 ?_
        exact zretL hx hb hr hlk hS hP dX2_add_40 ⟨T, top, Z, rfl, rfl, hTP, fun _ _ => rfl⟩
    ·
      refine zcallV (As := [.int bx]) (rest := []) (q := 24) (k := 1) hx hb hml hown hts (kX2_find_out l D cL cI cR A F hF T top Z bx h_bx) gX2_add_X2_find rfl (by decide +kernel) ⟨Nat.le_of_ble_eq_true rfl, Nat.le_of_ble_eq_true rfl⟩ rfl (by omega) (zC_o) rfl rfl hAm hP hS rfl hl.1 rfl (Nat.le_of_ble_eq_true rfl) dX2_add_9 ⟨Nat.zero_le _, Nat.zero_le _⟩ (zkn (fun H locs hP hS => ?_))
      refine W.eq (g2 := F0 m 12 ls [.null]) rfl ?_
      refine lv_astoreN (lv' := [(7, .null), (6, .ref (F k_ax)), (0, .ref (F 24)), (1, .int ax), (2, .int fax), (3, .int bx), (4, .int fbx), (5, .int tx)]) hx hb dX2_add_12 hl (by decide) rfl (fun ls hl => ?_)
      refine lv_aload_n hx hb dX2_add_14 rfl (lv_at hl 2 rfl) ?_
      refine lv_iload hx hb dX2_add_15 (lv_at hl 7 rfl) ?_
      by_cases h_tx : zin 0 7 tx
      ·
        obtain ⟨k_tx, hk_tx, he_tx⟩ := zin_nat (a := 7) h_tx
        refine zcallV (As := [.int tx]) (rest := []) (q := 24) (k := 1) hx hb hml hown hts (kX2_find_in l D cL cI cR A F hF T top Z tx k_tx hk_tx he_tx) gX2_add_X2_find rfl (by decide +kernel) ⟨Nat.le_of_ble_eq_true rfl, Nat.le_of_ble_eq_true rfl⟩ rfl (by omega) (zC_o) rfl rfl hAm hP hS rfl hl.1 rfl (Nat.le_of_ble_eq_true rfl) dX2_add_17 ⟨Nat.zero_le _, Nat.zero_le _⟩ (zkn (fun H locs hP hS => ?_))
        refine W.eq (g2 := F0 m 20 ls [.ref (F k_tx)]) rfl ?_
        refine lv_astore (lv' := [(8, .ref (F k_tx)), (7, .null), (6, .ref (F k_ax)), (0, .ref (F 24)), (1, .int ax), (2, .int fax), (3, .int bx), (4, .int fbx), (5, .int tx)]) hx hb dX2_add_20 hl (by decide) rfl (fun ls hl => ?_)
        refine lv_aload hx hb dX2_add_22 (lv_at hl 2 rfl) ?_
        refine lv_ifnull hx hb dX2_add_24 ?_
        refine lv_aloadN hx hb dX2_add_27 (lv_at hl 1 rfl) ?_
        refine lv_ifnullN (tgt := 37) hx hb dX2_add_29 (by decide) ?_
        refine lv_ldc2 hx hb hown (hts (.constantLong RX2 50 (-9000000000000000001)) (by decide +kernel)) dX2_add_37 ?_
        exact zretL hx hb hr hlk hS hP dX2_add_40 ⟨T, top, Z, rfl, rfl, hTP, fun _ _ => rfl⟩
      ·
        refine zcallV (As := [.int tx]) (rest := []) (q := 24) (k := 1) hx hb hml hown hts (kX2_find_out l D cL cI cR A F hF T top Z tx h_tx) gX2_add_X2_find rfl (by decide +kernel) ⟨Nat.le_of_ble_eq_true rfl, Nat.le_of_ble_eq_true rfl⟩ rfl (by omega) (zC_o) rfl rfl hAm hP hS rfl hl.1 rfl (Nat.le_of_ble_eq_true rfl) dX2_add_17 ⟨Nat.zero_le _, Nat.zero_le _⟩ (zkn (fun H locs hP hS => ?_))
        refine W.eq (g2 := F0 m 20 ls [.null]) rfl ?_
        refine lv_astoreN (lv' := [(8, .null), (7, .null), (6, .ref (F k_ax)), (0, .ref (F 24)), (1, .int ax), (2, .int fax), (3, .int bx), (4, .int fbx), (5, .int tx)]) hx hb dX2_add_20 hl (by decide) rfl (fun ls hl => ?_)
        refine lv_aload hx hb dX2_add_22 (lv_at hl 2 rfl) ?_
        refine lv_ifnull hx hb dX2_add_24 ?_
        refine lv_aloadN hx hb dX2_add_27 (lv_at hl 1 rfl) ?_
        refine lv_ifnullN (tgt := 37) hx hb dX2_add_29 (by decide) ?_
        refine lv_ldc2 hx hb hown (hts (.constantLong RX2 50 (-9000000000000000001)) (by decide +kernel)) dX2_add_37 ?_
        exact zretL hx hb hr hlk hS hP dX2_add_40 ⟨T, top, Z, rfl, rfl, hTP, fun _ _ => rfl⟩
  ·
    refine zcallV (As := [.int ax]) (rest := []) (q := 24) (k := 1) hx hb hml hown hts (kX2_find_out l D cL cI cR A F hF T top Z ax h_ax) gX2_add_X2_find rfl (by decide +kernel) ⟨Nat.le_of_ble_eq_true rfl, Nat.le_of_ble_eq_true rfl⟩ rfl (by omega) (zC_o) rfl rfl hAm hP hS rfl hl.1 rfl (Nat.le_of_ble_eq_true rfl) dX2_add_2 ⟨Nat.zero_le _, Nat.zero_le _⟩ (zkn (fun H locs hP hS => ?_))
    refine W.eq (g2 := F0 m 5 ls [.null]) rfl ?_
    refine lv_astoreN (lv' := [(6, .null), (0, .ref (F 24)), (1, .int ax), (2, .int fax), (3, .int bx), (4, .int fbx), (5, .int tx)]) hx hb dX2_add_5 hl (by decide) rfl (fun ls hl => ?_)
    refine lv_aload_n hx hb dX2_add_7 rfl (lv_at hl 1 rfl) ?_
    refine lv_iload_n hx hb dX2_add_8 rfl (lv_at hl 4 rfl) ?_
    by_cases h_bx : zin 0 7 bx
    ·
      obtain ⟨k_bx, hk_bx, he_bx⟩ := zin_nat (a := 7) h_bx
      refine zcallV (As := [.int bx]) (rest := []) (q := 24) (k := 1) hx hb hml hown hts (kX2_find_in l D cL cI cR A F hF T top Z bx k_bx hk_bx he_bx) gX2_add_X2_find rfl (by decide +kernel) ⟨Nat.le_of_ble_eq_true rfl, Nat.le_of_ble_eq_true rfl⟩ rfl (by omega) (zC_o) rfl rfl hAm hP hS rfl hl.1 rfl (Nat.le_of_ble_eq_true rfl) dX2_add_9 ⟨Nat.zero_le _, Nat.zero_le _⟩ (zkn (fun H locs hP hS => ?_))
      refine W.eq (g2 := F0 m 12 ls [.ref (F k_bx)]) rfl ?_
      refine lv_astore (lv' := [(7, .ref (F k_bx)), (6, .null), (0, .ref (F 24)), (1, .int ax), (2, .int fax), (3, .int bx), (4, .int fbx), (5, .int tx)]) hx hb dX2_add_12 hl (by decide) rfl (fun ls hl => ?_)
      refine lv_aload_n hx hb dX2_add_14 rfl (lv_at hl 2 rfl) ?_
      refine lv_iload hx hb dX2_add_15 (lv_at hl 7 rfl) ?_
      by_cases h_tx : zin 0 7 tx
      ·
        obtain ⟨k_tx, hk_tx, he_tx⟩ := zin_nat (a := 7) h_tx
        refine zcallV (As := [.int tx]) (rest := []) (q := 24) (k := 1) hx hb hml hown hts (kX2_find_in l D cL cI cR A F hF T top Z tx k_tx hk_tx he_tx) gX2_add_X2_find rfl (by decide +kernel) ⟨Nat.le_of_ble_eq_true rfl, Nat.le_of_ble_eq_true rfl⟩ rfl (by omega) (zC_o) rfl rfl hAm hP hS rfl hl.1 rfl (Nat.le_of_ble_eq_true rfl) dX2_add_17 ⟨Nat.zero_le _, Nat.zero_le _⟩ (zkn (fun H locs hP hS => ?_))
        refine W.eq (g2 := F0 m 20 ls [.ref (F k_tx)]) rfl ?_
        refine lv_astore (lv' := [(8, .ref (F k_tx)), (7, .ref (F k_bx)), (6, .null), (0, .ref (F 24)), (1, .int ax), (2, .int fax), (3, .int bx), (4, .int fbx), (5, .int tx)]) hx hb dX2_add_20 hl (by decide) rfl (fun ls hl => ?_)
        refine lv_aloadN hx hb dX2_add_22 (lv_at hl 2 rfl) ?_
        refine lv_ifnullN (tgt := 37) hx hb dX2_add_24 (by decide) ?_
        refine lv_ldc2 hx hb hown (hts (.constantLong RX2 50 (-9000000000000000001)) (by decide +kernel)) dX2_add_37 ?_
        exact zretL hx hb hr hlk hS hP dX2_add_40 ⟨T, top, Z, rfl, rfl, hTP, fun _ _ => rfl⟩
      ·
        refine zcallV (As := [.int tx]) (rest := []) (q := 24) (k := 1) hx hb hml hown hts (kX2_find_out l D cL cI cR A F hF T top Z tx h_tx) gX2_add_X2_find rfl (by decide +kernel) ⟨Nat.le_of_ble_eq_true rfl, Nat.le_of_ble_eq_true rfl⟩ rfl (by omega) (zC_o) rfl rfl hAm hP hS rfl hl.1 rfl (Nat.le_of_ble_eq_true rfl) dX2_add_17 ⟨Nat.zero_le _, Nat.zero_le _⟩ (zkn (fun H locs hP hS => ?_))
        refine W.eq (g2 := F0 m 20 ls [.null]) rfl ?_
        refine lv_astoreN (lv' := [(8, .null), (7, .ref (F k_bx)), (6, .null), (0, .ref (F 24)), (1, .int ax), (2, .int fax), (3, .int bx), (4, .int fbx), (5, .int tx)]) hx hb dX2_add_20 hl (by decide) rfl (fun ls hl => ?_)
        refine lv_aloadN hx hb dX2_add_22 (lv_at hl 2 rfl) ?_
        refine lv_ifnullN (tgt := 37) hx hb dX2_add_24 (by decide) ?_
        refine lv_ldc2 hx hb hown (hts (.constantLong RX2 50 (-9000000000000000001)) (by decide +kernel)) dX2_add_37 ?_
        exact zretL hx hb hr hlk hS hP dX2_add_40 ⟨T, top, Z, rfl, rfl, hTP, fun _ _ => rfl⟩
    ·
      refine zcallV (As := [.int bx]) (rest := []) (q := 24) (k := 1) hx hb hml hown hts (kX2_find_out l D cL cI cR A F hF T top Z bx h_bx) gX2_add_X2_find rfl (by decide +kernel) ⟨Nat.le_of_ble_eq_true rfl, Nat.le_of_ble_eq_true rfl⟩ rfl (by omega) (zC_o) rfl rfl hAm hP hS rfl hl.1 rfl (Nat.le_of_ble_eq_true rfl) dX2_add_9 ⟨Nat.zero_le _, Nat.zero_le _⟩ (zkn (fun H locs hP hS => ?_))
      refine W.eq (g2 := F0 m 12 ls [.null]) rfl ?_
      refine lv_astoreN (lv' := [(7, .null), (6, .null), (0, .ref (F 24)), (1, .int ax), (2, .int fax), (3, .int bx), (4, .int fbx), (5, .int tx)]) hx hb dX2_add_12 hl (by decide) rfl (fun ls hl => ?_)
      refine lv_aload_n hx hb dX2_add_14 rfl (lv_at hl 2 rfl) ?_
      refine lv_iload hx hb dX2_add_15 (lv_at hl 7 rfl) ?_
      by_cases h_tx : zin 0 7 tx
      ·
        obtain ⟨k_tx, hk_tx, he_tx⟩ := zin_nat (a := 7) h_tx
        refine zcallV (As := [.int tx]) (rest := []) (q := 24) (k := 1) hx hb hml hown hts (kX2_find_in l D cL cI cR A F hF T top Z tx k_tx hk_tx he_tx) gX2_add_X2_find rfl (by decide +kernel) ⟨Nat.le_of_ble_eq_true rfl, Nat.le_of_ble_eq_true rfl⟩ rfl (by omega) (zC_o) rfl rfl hAm hP hS rfl hl.1 rfl (Nat.le_of_ble_eq_true rfl) dX2_add_17 ⟨Nat.zero_le _, Nat.zero_le _⟩ (zkn (fun H locs hP hS => ?_))
        refine W.eq (g2 := F0 m 20 ls [.ref (F k_tx)]) rfl ?_
        refine lv_astore (lv' := [(8, .ref (F k_tx)), (7, .null), (6, .null), (0, .ref (F 24)), (1, .int ax), (2, .int fax), (3, .int bx), (4, .int fbx), (5, .int tx)]) hx hb dX2_add_20 hl (by decide) rfl (fun ls hl => ?_)
        refine lv_aloadN hx hb dX2_add_22 (lv_at hl 2 rfl) ?_
        refine lv_ifnullN (tgt := 37) hx hb dX2_add_24 (by decide) ?_
        refine lv_ldc2 hx hb hown (hts (.constantLong RX2 50 (-9000000000000000001)) (by decide +kernel)) dX2_add_37 ?_
        exact zretL hx hb hr hlk hS hP dX2_add_40 ⟨T, top, Z, rfl, rfl, hTP, fun _ _ => rfl⟩
      ·
        refine zcallV (As := [.int tx]) (rest := []) (q := 24) (k := 1) hx hb hml hown hts (kX2_find_out l D cL cI cR A F hF T top Z tx h_tx) gX2_add_X2_find rfl (by decide +kernel) ⟨Nat.le_of_ble_eq_true rfl, Nat.le_of_ble_eq_true rfl⟩ rfl (by omega) (zC_o) rfl rfl hAm hP hS rfl hl.1 rfl (Nat.le_of_ble_eq_true rfl) dX2_add_17 ⟨Nat.zero_le _, Nat.zero_le _⟩ (zkn (fun H locs hP hS => ?_))
        refine W.eq (g2 := F0 m 20 ls [.null]) rfl ?_
        refine lv_astoreN (lv' := [(8, .null), (7, .null), (6, .null), (0, .ref (F 24)), (1, .int ax), (2, .int fax), (3, .int bx), (4, .int fbx), (5, .int tx)]) hx hb dX2_add_20 hl (by decide) rfl (fun ls hl => ?_)
        refine lv_aloadN hx hb dX2_add_22 (lv_at hl 2 rfl) ?_
        refine lv_ifnullN (tgt := 37) hx hb dX2_add_24 (by decide) ?_
        refine lv_ldc2 hx hb hown (hts (.constantLong RX2 50 (-9000000000000000001)) (by decide +kernel)) dX2_add_37 ?_
        exact zretL hx hb hr hlk hS hP dX2_add_40 ⟨T, top, Z, rfl, rfl, hTP, fun _ _ => rfl⟩

set_option maxHeartbeats 4000000 in
set_option maxRecDepth 100000 in
theorem kX2_multiply_bad (l : Launch) (D : va_G) (cL cI cR : ClassId) (A : Nat → Prop) (F : Nat → Nat) (hF : zq_F A F 30) (T : Nat → Nat → Int64) (top : Nat → Nat) (Z : zZC) (P : Nat → Nat → Int64) (n0 : Nat → Nat) (hTP : ∀ i, i < 8 → T i = P i ∧ top i = n0 i) (ax bx tx : Int32) (hbad : ¬ (zin 0 7 ax ∧ zin 0 7 bx ∧ zin 0 7 tx)) : zCt l yX2_multiply wsX2_multiply 1 21 D cL cI cR A F 30 (zCE cL cR F T top Z) [.ref (F 24), .int ax, .int bx, .int tx] (zPC cL cR F (-9000000000000000001) P n0 Z.1) := by
  refine zStart (cc := cX2_multiply) (maxL := 7) (ret := (some .long)) (by decide +kernel) rfl (Nat.le_of_ble_eq_true rfl) ?_
  intro p e s m below meth c hx hb hr hml hlk hown hts hAm H hP hS ls hl
  have hown : s.vm.findClass RX2 = some m.cls := hown
  have hl : lv_has ls 7 [(0, .ref (F 24)), (1, .int ax), (2, .int bx), (3, .int tx)] := hl
  refine lv_aload_n hx hb dX2_multiply_0 rfl (lv_at hl 0 rfl) ?_
  refine lv_iload_n hx hb dX2_multiply_1 rfl (lv_at hl 1 rfl) ?_
  by_cases h_ax : zin 0 7 ax
  ·
    obtain ⟨k_ax, hk_ax, he_ax⟩ := zin_nat (a := 7) h_ax
    refine zcallV (As := [.int ax]) (rest := []) (q := 24) (k := 1) hx hb hml hown hts (kX2_find_in l D cL cI cR A F hF T top Z ax k_ax hk_ax he_ax) gX2_multiply_X2_find rfl (by decide +kernel) ⟨Nat.le_of_ble_eq_true rfl, Nat.le_of_ble_eq_true rfl⟩ rfl (by omega) (zC_o) rfl rfl hAm hP hS rfl hl.1 rfl (Nat.le_of_ble_eq_true rfl) dX2_multiply_2 ⟨Nat.zero_le _, Nat.zero_le _⟩ (zkn (fun H locs hP hS => ?_))
    refine W.eq (g2 := F0 m 5 ls [.ref (F k_ax)]) rfl ?_
    refine lv_astore (lv' := [(4, .ref (F k_ax)), (0, .ref (F 24)), (1, .int ax), (2, .int bx), (3, .int tx)]) hx hb dX2_multiply_5 hl (by decide) rfl (fun ls hl => ?_)
    refine lv_aload_n hx hb dX2_multiply_7 rfl (lv_at hl 1 rfl) ?_
    refine lv_iload_n hx hb dX2_multiply_8 rfl (lv_at hl 3 rfl) ?_
    by_cases h_bx : zin 0 7 bx
    ·
      obtain ⟨k_bx, hk_bx, he_bx⟩ := zin_nat (a := 7) h_bx
      refine zcallV (As := [.int bx]) (rest := []) (q := 24) (k := 1) hx hb hml hown hts (kX2_find_in l D cL cI cR A F hF T top Z bx k_bx hk_bx he_bx) gX2_multiply_X2_find rfl (by decide +kernel) ⟨Nat.le_of_ble_eq_true rfl, Nat.le_of_ble_eq_true rfl⟩ rfl (by omega) (zC_o) rfl rfl hAm hP hS rfl hl.1 rfl (Nat.le_of_ble_eq_true rfl) dX2_multiply_9 ⟨Nat.zero_le _, Nat.zero_le _⟩ (zkn (fun H locs hP hS => ?_))
      refine W.eq (g2 := F0 m 12 ls [.ref (F k_bx)]) rfl ?_
      refine lv_astore (lv' := [(5, .ref (F k_bx)), (4, .ref (F k_ax)), (0, .ref (F 24)), (1, .int ax), (2, .int bx), (3, .int tx)]) hx hb dX2_multiply_12 hl (by decide) rfl (fun ls hl => ?_)
      refine lv_aload_n hx hb dX2_multiply_14 rfl (lv_at hl 2 rfl) ?_
      refine lv_iload_n hx hb dX2_multiply_15 rfl (lv_at hl 5 rfl) ?_
      by_cases h_tx : zin 0 7 tx
      ·
        obtain ⟨k_tx, hk_tx, he_tx⟩ := zin_nat (a := 7) h_tx
        refine zcallV (As := [.int tx]) (rest := []) (q := 24) (k := 1) hx hb hml hown hts (kX2_find_in l D cL cI cR A F hF T top Z tx k_tx hk_tx he_tx) gX2_multiply_X2_find rfl (by decide +kernel) ⟨Nat.le_of_ble_eq_true rfl, Nat.le_of_ble_eq_true rfl⟩ rfl (by omega) (zC_o) rfl rfl hAm hP hS rfl hl.1 rfl (Nat.le_of_ble_eq_true rfl) dX2_multiply_16 ⟨Nat.zero_le _, Nat.zero_le _⟩ (zkn (fun H locs hP hS => ?_))
        refine W.eq (g2 := F0 m 19 ls [.ref (F k_tx)]) rfl ?_
        refine lv_astore (lv' := [(6, .ref (F k_tx)), (5, .ref (F k_bx)), (4, .ref (F k_ax)), (0, .ref (F 24)), (1, .int ax), (2, .int bx), (3, .int tx)]) hx hb dX2_multiply_19 hl (by decide) rfl (fun ls hl => ?_)
        refine lv_aload hx hb dX2_multiply_21 (lv_at hl 2 rfl) ?_
        refine lv_ifnull hx hb dX2_multiply_23 ?_
        refine lv_aload hx hb dX2_multiply_26 (lv_at hl 1 rfl) ?_
        refine lv_ifnull hx hb dX2_multiply_28 ?_
        refine lv_aload hx hb dX2_multiply_31 (lv_at hl 0 rfl) ?_
        refine lv_ifnonnull (tgt := 40) hx hb dX2_multiply_33 (by decide) ?_
        exact absurd ⟨h_ax, h_bx, h_tx⟩ hbad
      ·
        refine zcallV (As := [.int tx]) (rest := []) (q := 24) (k := 1) hx hb hml hown hts (kX2_find_out l D cL cI cR A F hF T top Z tx h_tx) gX2_multiply_X2_find rfl (by decide +kernel) ⟨Nat.le_of_ble_eq_true rfl, Nat.le_of_ble_eq_true rfl⟩ rfl (by omega) (zC_o) rfl rfl hAm hP hS rfl hl.1 rfl (Nat.le_of_ble_eq_true rfl) dX2_multiply_16 ⟨Nat.zero_le _, Nat.zero_le _⟩ (zkn (fun H locs hP hS => ?_))
        refine W.eq (g2 := F0 m 19 ls [.null]) rfl ?_
        refine lv_astoreN (lv' := [(6, .null), (5, .ref (F k_bx)), (4, .ref (F k_ax)), (0, .ref (F 24)), (1, .int ax), (2, .int bx), (3, .int tx)]) hx hb dX2_multiply_19 hl (by decide) rfl (fun ls hl => ?_)
        refine lv_aload hx hb dX2_multiply_21 (lv_at hl 2 rfl) ?_
        refine lv_ifnull hx hb dX2_multiply_23 ?_
        refine lv_aload hx hb dX2_multiply_26 (lv_at hl 1 rfl) ?_
        refine lv_ifnull hx hb dX2_multiply_28 ?_
        refine lv_aloadN hx hb dX2_multiply_31 (lv_at hl 0 rfl) ?_
        refine lv_ifnonnullN hx hb dX2_multiply_33 ?_
        refine lv_ldc2 hx hb hown (hts (.constantLong RX2 50 (-9000000000000000001)) (by decide +kernel)) dX2_multiply_36 ?_
        exact zretL hx hb hr hlk hS hP dX2_multiply_39 ⟨T, top, Z, rfl, rfl, hTP, fun _ _ => rfl⟩
    ·
      refine zcallV (As := [.int bx]) (rest := []) (q := 24) (k := 1) hx hb hml hown hts (kX2_find_out l D cL cI cR A F hF T top Z bx h_bx) gX2_multiply_X2_find rfl (by decide +kernel) ⟨Nat.le_of_ble_eq_true rfl, Nat.le_of_ble_eq_true rfl⟩ rfl (by omega) (zC_o) rfl rfl hAm hP hS rfl hl.1 rfl (Nat.le_of_ble_eq_true rfl) dX2_multiply_9 ⟨Nat.zero_le _, Nat.zero_le _⟩ (zkn (fun H locs hP hS => ?_))
      refine W.eq (g2 := F0 m 12 ls [.null]) rfl ?_
      refine lv_astoreN (lv' := [(5, .null), (4, .ref (F k_ax)), (0, .ref (F 24)), (1, .int ax), (2, .int bx), (3, .int tx)]) hx hb dX2_multiply_12 hl (by decide) rfl (fun ls hl => ?_)
      refine lv_aload_n hx hb dX2_multiply_14 rfl (lv_at hl 2 rfl) ?_
      refine lv_iload_n hx hb dX2_multiply_15 rfl (lv_at hl 5 rfl) ?_
      by_cases h_tx : zin 0 7 tx
      ·
        obtain ⟨k_tx, hk_tx, he_tx⟩ := zin_nat (a := 7) h_tx
        refine zcallV (As := [.int tx]) (rest := []) (q := 24) (k := 1) hx hb hml hown hts (kX2_find_in l D cL cI cR A F hF T top Z tx k_tx hk_tx he_tx) gX2_multiply_X2_find rfl (by decide +kernel) ⟨Nat.le_of_ble_eq_true rfl, Nat.le_of_ble_eq_true rfl⟩ rfl (by omega) (zC_o) rfl rfl hAm hP hS rfl hl.1 rfl (Nat.le_of_ble_eq_true rfl) dX2_multiply_16 ⟨Nat.zero_le _, Nat.zero_le _⟩ (zkn (fun H locs hP hS => ?_))
        refine W.eq (g2 := F0 m 19 ls [.ref (F k_tx)]) rfl ?_
        refine lv_astore (lv' := [(6, .ref (F k_tx)), (5, .null), (4, .ref (F k_ax)), (0, .ref (F 24)), (1, .int ax), (2, .int bx), (3, .int tx)]) hx hb dX2_multiply_19 hl (by decide) rfl (fun ls hl => ?_)
        refine lv_aload hx hb dX2_multiply_21 (lv_at hl 2 rfl) ?_
        refine lv_ifnull hx hb dX2_multiply_23 ?_
        refine lv_aloadN hx hb dX2_multiply_26 (lv_at hl 1 rfl) ?_
        refine lv_ifnullN (tgt := 36) hx hb dX2_multiply_28 (by decide) ?_
        refine lv_ldc2 hx hb hown (hts (.constantLong RX2 50 (-9000000000000000001)) (by decide +kernel)) dX2_multiply_36 ?_
        exact zretL hx hb hr hlk hS hP dX2_multiply_39 ⟨T, top, Z, rfl, rfl, hTP, fun _ _ => rfl⟩
      ·
        refine zcallV (As := [.int tx]) (rest := []) (q := 24) (k := 1) hx hb hml hown hts (kX2_find_out l D cL cI cR A F hF T top Z tx h_tx) gX2_multiply_X2_find rfl (by decide +kernel) ⟨Nat.le_of_ble_eq_true rfl, Nat.le_of_ble_eq_true rfl⟩ rfl (by omega) (zC_o) rfl rfl hAm hP hS rfl hl.1 rfl (Nat.le_of_ble_eq_true rfl) dX2_multiply_16 ⟨Nat.zero_le _, Nat.zero_le _⟩ (zkn (fun H locs hP hS => ?_))
        refine W.eq (g2 := F0 m 19 ls [.null]) rfl ?_
        refine lv_astoreN (lv' := [(6, .null), (5, .null), (4, .ref (F k_ax)), (0, .ref (F 24)), (1, .int ax), (2, .int bx), (3, .int tx)]) hx hb dX2_multiply_19 hl (by decide) rfl (fun ls hl => ?_)
        refine lv_aload hx hb dX2_multiply_21 (lv_at hl 2 rfl) ?_
        refine lv_ifnull hx hb dX2_multiply_23 ?_
        refine lv_aloadN hx hb dX2_multiply_26 (lv_at hl 1 rfl) ?_
        refine lv_ifnullN (tgt := 36) hx hb dX2_multiply_28 (by decide) ?_
        refine lv_ldc2 hx hb hown (hts (.constantLong RX2 50 (-9000000000000000001)) (by decide +kernel)) dX2_multiply_36 ?_
        exact zretL hx hb hr hlk hS hP dX2_multiply_39 ⟨T, top, Z, rfl, rfl, hTP, fun _ _ => rfl⟩
  ·
    refine zcallV (As := [.int ax]) (rest := []) (q := 24) (k := 1) hx hb hml hown hts (kX2_find_out l D cL cI cR A F hF T top Z ax h_ax) gX2_multiply_X2_find rfl (by decide +kernel) ⟨Nat.le_of_ble_eq_true rfl, Nat.le_of_ble_eq_true rfl⟩ rfl (by omega) (zC_o) rfl rfl hAm hP hS rfl hl.1 rfl (Nat.le_of_ble_eq_true rfl) dX2_multiply_2 ⟨Nat.zero_le _, Nat.zero_le _⟩ (zkn (fun H locs hP hS => ?_))
    refine W.eq (g2 := F0 m 5 ls [.null]) rfl ?_
    refine lv_astoreN (lv' := [(4, .null), (0, .ref (F 24)), (1, .int ax), (2, .int bx), (3, .int tx)]) hx hb dX2_multiply_5 hl (by decide) rfl (fun ls hl => ?_)
    refine lv_aload_n hx hb dX2_multiply_7 rfl (lv_at hl 1 rfl) ?_
    refine lv_iload_n hx hb dX2_multiply_8 rfl (lv_at hl 3 rfl) ?_
    by_cases h_bx : zin 0 7 bx
    ·
      obtain ⟨k_bx, hk_bx, he_bx⟩ := zin_nat (a := 7) h_bx
      refine zcallV (As := [.int bx]) (rest := []) (q := 24) (k := 1) hx hb hml hown hts (kX2_find_in l D cL cI cR A F hF T top Z bx k_bx hk_bx he_bx) gX2_multiply_X2_find rfl (by decide +kernel) ⟨Nat.le_of_ble_eq_true rfl, Nat.le_of_ble_eq_true rfl⟩ rfl (by omega) (zC_o) rfl rfl hAm hP hS rfl hl.1 rfl (Nat.le_of_ble_eq_true rfl) dX2_multiply_9 ⟨Nat.zero_le _, Nat.zero_le _⟩ (zkn (fun H locs hP hS => ?_))
      refine W.eq (g2 := F0 m 12 ls [.ref (F k_bx)]) rfl ?_
      refine lv_astore (lv' := [(5, .ref (F k_bx)), (4, .null), (0, .ref (F 24)), (1, .int ax), (2, .int bx), (3, .int tx)]) hx hb dX2_multiply_12 hl (by decide) rfl (fun ls hl => ?_)
      refine lv_aload_n hx hb dX2_multiply_14 rfl (lv_at hl 2 rfl) ?_
      refine lv_iload_n hx hb dX2_multiply_15 rfl (lv_at hl 5 rfl) ?_
      by_cases h_tx : zin 0 7 tx
      ·
        obtain ⟨k_tx, hk_tx, he_tx⟩ := zin_nat (a := 7) h_tx
        refine zcallV (As := [.int tx]) (rest := []) (q := 24) (k := 1) hx hb hml hown hts (kX2_find_in l D cL cI cR A F hF T top Z tx k_tx hk_tx he_tx) gX2_multiply_X2_find rfl (by decide +kernel) ⟨Nat.le_of_ble_eq_true rfl, Nat.le_of_ble_eq_true rfl⟩ rfl (by omega) (zC_o) rfl rfl hAm hP hS rfl hl.1 rfl (Nat.le_of_ble_eq_true rfl) dX2_multiply_16 ⟨Nat.zero_le _, Nat.zero_le _⟩ (zkn (fun H locs hP hS => ?_))
        refine W.eq (g2 := F0 m 19 ls [.ref (F k_tx)]) rfl ?_
        refine lv_astore (lv' := [(6, .ref (F k_tx)), (5, .ref (F k_bx)), (4, .null), (0, .ref (F 24)), (1, .int ax), (2, .int bx), (3, .int tx)]) hx hb dX2_multiply_19 hl (by decide) rfl (fun ls hl => ?_)
        refine lv_aloadN hx hb dX2_multiply_21 (lv_at hl 2 rfl) ?_
        refine lv_ifnullN (tgt := 36) hx hb dX2_multiply_23 (by decide) ?_
        refine lv_ldc2 hx hb hown (hts (.constantLong RX2 50 (-9000000000000000001)) (by decide +kernel)) dX2_multiply_36 ?_
        exact zretL hx hb hr hlk hS hP dX2_multiply_39 ⟨T, top, Z, rfl, rfl, hTP, fun _ _ => rfl⟩
      ·
        refine zcallV (As := [.int tx]) (rest := []) (q := 24) (k := 1) hx hb hml hown hts (kX2_find_out l D cL cI cR A F hF T top Z tx h_tx) gX2_multiply_X2_find rfl (by decide +kernel) ⟨Nat.le_of_ble_eq_true rfl, Nat.le_of_ble_eq_true rfl⟩ rfl (by omega) (zC_o) rfl rfl hAm hP hS rfl hl.1 rfl (Nat.le_of_ble_eq_true rfl) dX2_multiply_16 ⟨Nat.zero_le _, Nat.zero_le _⟩ (zkn (fun H locs hP hS => ?_))
        refine W.eq (g2 := F0 m 19 ls [.null]) rfl ?_
        refine lv_astoreN (lv' := [(6, .null), (5, .ref (F k_bx)), (4, .null), (0, .ref (F 24)), (1, .int ax), (2, .int bx), (3, .int tx)]) hx hb dX2_multiply_19 hl (by decide) rfl (fun ls hl => ?_)
        refine lv_aloadN hx hb dX2_multiply_21 (lv_at hl 2 rfl) ?_
        refine lv_ifnullN (tgt := 36) hx hb dX2_multiply_23 (by decide) ?_
        refine lv_ldc2 hx hb hown (hts (.constantLong RX2 50 (-9000000000000000001)) (by decide +kernel)) dX2_multiply_36 ?_
        exact zretL hx hb hr hlk hS hP dX2_multiply_39 ⟨T, top, Z, rfl, rfl, hTP, fun _ _ => rfl⟩
    ·
      refine zcallV (As := [.int bx]) (rest := []) (q := 24) (k := 1) hx hb hml hown hts (kX2_find_out l D cL cI cR A F hF T top Z bx h_bx) gX2_multiply_X2_find rfl (by decide +kernel) ⟨Nat.le_of_ble_eq_true rfl, Nat.le_of_ble_eq_true rfl⟩ rfl (by omega) (zC_o) rfl rfl hAm hP hS rfl hl.1 rfl (Nat.le_of_ble_eq_true rfl) dX2_multiply_9 ⟨Nat.zero_le _, Nat.zero_le _⟩ (zkn (fun H locs hP hS => ?_))
      refine W.eq (g2 := F0 m 12 ls [.null]) rfl ?_
      refine lv_astoreN (lv' := [(5, .null), (4, .null), (0, .ref (F 24)), (1, .int ax), (2, .int bx), (3, .int tx)]) hx hb dX2_multiply_12 hl (by decide) rfl (fun ls hl => ?_)
      refine lv_aload_n hx hb dX2_multiply_14 rfl (lv_at hl 2 rfl) ?_
      refine lv_iload_n hx hb dX2_multiply_15 rfl (lv_at hl 5 rfl) ?_
      by_cases h_tx : zin 0 7 tx
      ·
        obtain ⟨k_tx, hk_tx, he_tx⟩ := zin_nat (a := 7) h_tx
        refine zcallV (As := [.int tx]) (rest := []) (q := 24) (k := 1) hx hb hml hown hts (kX2_find_in l D cL cI cR A F hF T top Z tx k_tx hk_tx he_tx) gX2_multiply_X2_find rfl (by decide +kernel) ⟨Nat.le_of_ble_eq_true rfl, Nat.le_of_ble_eq_true rfl⟩ rfl (by omega) (zC_o) rfl rfl hAm hP hS rfl hl.1 rfl (Nat.le_of_ble_eq_true rfl) dX2_multiply_16 ⟨Nat.zero_le _, Nat.zero_le _⟩ (zkn (fun H locs hP hS => ?_))
        refine W.eq (g2 := F0 m 19 ls [.ref (F k_tx)]) rfl ?_
        refine lv_astore (lv' := [(6, .ref (F k_tx)), (5, .null), (4, .null), (0, .ref (F 24)), (1, .int ax), (2, .int bx), (3, .int tx)]) hx hb dX2_multiply_19 hl (by decide) rfl (fun ls hl => ?_)
        refine lv_aloadN hx hb dX2_multiply_21 (lv_at hl 2 rfl) ?_
        refine lv_ifnullN (tgt := 36) hx hb dX2_multiply_23 (by decide) ?_
        refine lv_ldc2 hx hb hown (hts (.constantLong RX2 50 (-9000000000000000001)) (by decide +kernel)) dX2_multiply_36 ?_
        exact zretL hx hb hr hlk hS hP dX2_multiply_39 ⟨T, top, Z, rfl, rfl, hTP, fun _ _ => rfl⟩
      ·
        refine zcallV (As := [.int tx]) (rest := []) (q := 24) (k := 1) hx hb hml hown hts (kX2_find_out l D cL cI cR A F hF T top Z tx h_tx) gX2_multiply_X2_find rfl (by decide +kernel) ⟨Nat.le_of_ble_eq_true rfl, Nat.le_of_ble_eq_true rfl⟩ rfl (by omega) (zC_o) rfl rfl hAm hP hS rfl hl.1 rfl (Nat.le_of_ble_eq_true rfl) dX2_multiply_16 ⟨Nat.zero_le _, Nat.zero_le _⟩ (zkn (fun H locs hP hS => ?_))
        refine W.eq (g2 := F0 m 19 ls [.null]) rfl ?_
        refine lv_astoreN (lv' := [(6, .null), (5, .null), (4, .null), (0, .ref (F 24)), (1, .int ax), (2, .int bx), (3, .int tx)]) hx hb dX2_multiply_19 hl (by decide) rfl (fun ls hl => ?_)
        refine lv_aloadN hx hb dX2_multiply_21 (lv_at hl 2 rfl) ?_
        refine lv_ifnullN (tgt := 36) hx hb dX2_multiply_23 (by decide) ?_
        refine lv_ldc2 hx hb hown (hts (.constantLong RX2 50 (-9000000000000000001)) (by decide +kernel)) dX2_multiply_36 ?_
        exact zretL hx hb hr hlk hS hP dX2_multiply_39 ⟨T, top, Z, rfl, rfl, hTP, fun _ _ => rfl⟩

set_option maxHeartbeats 4000000 in
set_option maxRecDepth 100000 in
theorem kX2_differentiate_bad (l : Launch) (D : va_G) (cL cI cR : ClassId) (A : Nat → Prop) (F : Nat → Nat) (hF : zq_F A F 30) (T : Nat → Nat → Int64) (top : Nat → Nat) (Z : zZC) (P : Nat → Nat → Int64) (n0 : Nat → Nat) (hTP : ∀ i, i < 8 → T i = P i ∧ top i = n0 i) (ax tx : Int32) (hbad : ¬ (zin 0 7 ax ∧ zin 0 7 tx)) : zCt l yX2_differentiate wsX2_differentiate 1 21 D cL cI cR A F 30 (zCE cL cR F T top Z) [.ref (F 24), .int ax, .int tx] (zPC cL cR F (-9000000000000000001) P n0 Z.1) := by
  refine zStart (cc := cX2_differentiate) (maxL := 5) (ret := (some .long)) (by decide +kernel) rfl (Nat.le_of_ble_eq_true rfl) ?_
  intro p e s m below meth c hx hb hr hml hlk hown hts hAm H hP hS ls hl
  have hown : s.vm.findClass RX2 = some m.cls := hown
  have hl : lv_has ls 5 [(0, .ref (F 24)), (1, .int ax), (2, .int tx)] := hl
  refine lv_aload_n hx hb dX2_differentiate_0 rfl (lv_at hl 0 rfl) ?_
  refine lv_iload_n hx hb dX2_differentiate_1 rfl (lv_at hl 1 rfl) ?_
  by_cases h_ax : zin 0 7 ax
  ·
    obtain ⟨k_ax, hk_ax, he_ax⟩ := zin_nat (a := 7) h_ax
    refine zcallV (As := [.int ax]) (rest := []) (q := 24) (k := 1) hx hb hml hown hts (kX2_find_in l D cL cI cR A F hF T top Z ax k_ax hk_ax he_ax) gX2_differentiate_X2_find rfl (by decide +kernel) ⟨Nat.le_of_ble_eq_true rfl, Nat.le_of_ble_eq_true rfl⟩ rfl (by omega) (zC_o) rfl rfl hAm hP hS rfl hl.1 rfl (Nat.le_of_ble_eq_true rfl) dX2_differentiate_2 ⟨Nat.zero_le _, Nat.zero_le _⟩ (zkn (fun H locs hP hS => ?_))
    refine W.eq (g2 := F0 m 5 ls [.ref (F k_ax)]) rfl ?_
    refine lv_astore_n (lv' := [(3, .ref (F k_ax)), (0, .ref (F 24)), (1, .int ax), (2, .int tx)]) hx hb dX2_differentiate_5 rfl hl (by decide) rfl (fun ls hl => ?_)
    refine lv_aload_n hx hb dX2_differentiate_6 rfl (lv_at hl 1 rfl) ?_
    refine lv_iload_n hx hb dX2_differentiate_7 rfl (lv_at hl 3 rfl) ?_
    by_cases h_tx : zin 0 7 tx
    ·
      obtain ⟨k_tx, hk_tx, he_tx⟩ := zin_nat (a := 7) h_tx
      refine zcallV (As := [.int tx]) (rest := []) (q := 24) (k := 1) hx hb hml hown hts (kX2_find_in l D cL cI cR A F hF T top Z tx k_tx hk_tx he_tx) gX2_differentiate_X2_find rfl (by decide +kernel) ⟨Nat.le_of_ble_eq_true rfl, Nat.le_of_ble_eq_true rfl⟩ rfl (by omega) (zC_o) rfl rfl hAm hP hS rfl hl.1 rfl (Nat.le_of_ble_eq_true rfl) dX2_differentiate_8 ⟨Nat.zero_le _, Nat.zero_le _⟩ (zkn (fun H locs hP hS => ?_))
      refine W.eq (g2 := F0 m 11 ls [.ref (F k_tx)]) rfl ?_
      refine lv_astore (lv' := [(4, .ref (F k_tx)), (3, .ref (F k_ax)), (0, .ref (F 24)), (1, .int ax), (2, .int tx)]) hx hb dX2_differentiate_11 hl (by decide) rfl (fun ls hl => ?_)
      refine lv_aload_n hx hb dX2_differentiate_13 rfl (lv_at hl 1 rfl) ?_
      refine lv_ifnull hx hb dX2_differentiate_14 ?_
      refine lv_aload hx hb dX2_differentiate_17 (lv_at hl 0 rfl) ?_
      refine lv_ifnonnull (tgt := 26) hx hb dX2_differentiate_19 (by decide) ?_
      exact absurd ⟨h_ax, h_tx⟩ hbad
    ·
      refine zcallV (As := [.int tx]) (rest := []) (q := 24) (k := 1) hx hb hml hown hts (kX2_find_out l D cL cI cR A F hF T top Z tx h_tx) gX2_differentiate_X2_find rfl (by decide +kernel) ⟨Nat.le_of_ble_eq_true rfl, Nat.le_of_ble_eq_true rfl⟩ rfl (by omega) (zC_o) rfl rfl hAm hP hS rfl hl.1 rfl (Nat.le_of_ble_eq_true rfl) dX2_differentiate_8 ⟨Nat.zero_le _, Nat.zero_le _⟩ (zkn (fun H locs hP hS => ?_))
      refine W.eq (g2 := F0 m 11 ls [.null]) rfl ?_
      refine lv_astoreN (lv' := [(4, .null), (3, .ref (F k_ax)), (0, .ref (F 24)), (1, .int ax), (2, .int tx)]) hx hb dX2_differentiate_11 hl (by decide) rfl (fun ls hl => ?_)
      refine lv_aload_n hx hb dX2_differentiate_13 rfl (lv_at hl 1 rfl) ?_
      refine lv_ifnull hx hb dX2_differentiate_14 ?_
      refine lv_aloadN hx hb dX2_differentiate_17 (lv_at hl 0 rfl) ?_
      refine lv_ifnonnullN hx hb dX2_differentiate_19 ?_
      refine lv_ldc2 hx hb hown (hts (.constantLong RX2 50 (-9000000000000000001)) (by decide +kernel)) dX2_differentiate_22 ?_
      exact zretL hx hb hr hlk hS hP dX2_differentiate_25 ⟨T, top, Z, rfl, rfl, hTP, fun _ _ => rfl⟩
  ·
    refine zcallV (As := [.int ax]) (rest := []) (q := 24) (k := 1) hx hb hml hown hts (kX2_find_out l D cL cI cR A F hF T top Z ax h_ax) gX2_differentiate_X2_find rfl (by decide +kernel) ⟨Nat.le_of_ble_eq_true rfl, Nat.le_of_ble_eq_true rfl⟩ rfl (by omega) (zC_o) rfl rfl hAm hP hS rfl hl.1 rfl (Nat.le_of_ble_eq_true rfl) dX2_differentiate_2 ⟨Nat.zero_le _, Nat.zero_le _⟩ (zkn (fun H locs hP hS => ?_))
    refine W.eq (g2 := F0 m 5 ls [.null]) rfl ?_
    refine lv_astore_nN (lv' := [(3, .null), (0, .ref (F 24)), (1, .int ax), (2, .int tx)]) hx hb dX2_differentiate_5 rfl hl (by decide) rfl (fun ls hl => ?_)
    refine lv_aload_n hx hb dX2_differentiate_6 rfl (lv_at hl 1 rfl) ?_
    refine lv_iload_n hx hb dX2_differentiate_7 rfl (lv_at hl 3 rfl) ?_
    by_cases h_tx : zin 0 7 tx
    ·
      obtain ⟨k_tx, hk_tx, he_tx⟩ := zin_nat (a := 7) h_tx
      refine zcallV (As := [.int tx]) (rest := []) (q := 24) (k := 1) hx hb hml hown hts (kX2_find_in l D cL cI cR A F hF T top Z tx k_tx hk_tx he_tx) gX2_differentiate_X2_find rfl (by decide +kernel) ⟨Nat.le_of_ble_eq_true rfl, Nat.le_of_ble_eq_true rfl⟩ rfl (by omega) (zC_o) rfl rfl hAm hP hS rfl hl.1 rfl (Nat.le_of_ble_eq_true rfl) dX2_differentiate_8 ⟨Nat.zero_le _, Nat.zero_le _⟩ (zkn (fun H locs hP hS => ?_))
      refine W.eq (g2 := F0 m 11 ls [.ref (F k_tx)]) rfl ?_
      refine lv_astore (lv' := [(4, .ref (F k_tx)), (3, .null), (0, .ref (F 24)), (1, .int ax), (2, .int tx)]) hx hb dX2_differentiate_11 hl (by decide) rfl (fun ls hl => ?_)
      refine lv_aload_nN hx hb dX2_differentiate_13 rfl (lv_at hl 1 rfl) ?_
      refine lv_ifnullN (tgt := 22) hx hb dX2_differentiate_14 (by decide) ?_
      refine lv_ldc2 hx hb hown (hts (.constantLong RX2 50 (-9000000000000000001)) (by decide +kernel)) dX2_differentiate_22 ?_
      exact zretL hx hb hr hlk hS hP dX2_differentiate_25 ⟨T, top, Z, rfl, rfl, hTP, fun _ _ => rfl⟩
    ·
      refine zcallV (As := [.int tx]) (rest := []) (q := 24) (k := 1) hx hb hml hown hts (kX2_find_out l D cL cI cR A F hF T top Z tx h_tx) gX2_differentiate_X2_find rfl (by decide +kernel) ⟨Nat.le_of_ble_eq_true rfl, Nat.le_of_ble_eq_true rfl⟩ rfl (by omega) (zC_o) rfl rfl hAm hP hS rfl hl.1 rfl (Nat.le_of_ble_eq_true rfl) dX2_differentiate_8 ⟨Nat.zero_le _, Nat.zero_le _⟩ (zkn (fun H locs hP hS => ?_))
      refine W.eq (g2 := F0 m 11 ls [.null]) rfl ?_
      refine lv_astoreN (lv' := [(4, .null), (3, .null), (0, .ref (F 24)), (1, .int ax), (2, .int tx)]) hx hb dX2_differentiate_11 hl (by decide) rfl (fun ls hl => ?_)
      refine lv_aload_nN hx hb dX2_differentiate_13 rfl (lv_at hl 1 rfl) ?_
      refine lv_ifnullN (tgt := 22) hx hb dX2_differentiate_14 (by decide) ?_
      refine lv_ldc2 hx hb hown (hts (.constantLong RX2 50 (-9000000000000000001)) (by decide +kernel)) dX2_differentiate_22 ?_
      exact zretL hx hb hr hlk hS hP dX2_differentiate_25 ⟨T, top, Z, rfl, rfl, hTP, fun _ _ => rfl⟩

set_option maxHeartbeats 4000000 in
set_option maxRecDepth 100000 in
theorem kX2_antidifferentiate_bad (l : Launch) (D : va_G) (cL cI cR : ClassId) (A : Nat → Prop) (F : Nat → Nat) (hF : zq_F A F 30) (T : Nat → Nat → Int64) (top : Nat → Nat) (Z : zZC) (P : Nat → Nat → Int64) (n0 : Nat → Nat) (hTP : ∀ i, i < 8 → T i = P i ∧ top i = n0 i) (ax tx : Int32) (hbad : ¬ (zin 0 7 ax ∧ zin 0 7 tx)) : zCt l yX2_antidifferentiate wsX2_antidifferentiate 1 21 D cL cI cR A F 30 (zCE cL cR F T top Z) [.ref (F 24), .int ax, .int tx] (zPC cL cR F (-9000000000000000001) P n0 Z.1) := by
  refine zStart (cc := cX2_antidifferentiate) (maxL := 5) (ret := (some .long)) (by decide +kernel) rfl (Nat.le_of_ble_eq_true rfl) ?_
  intro p e s m below meth c hx hb hr hml hlk hown hts hAm H hP hS ls hl
  have hown : s.vm.findClass RX2 = some m.cls := hown
  have hl : lv_has ls 5 [(0, .ref (F 24)), (1, .int ax), (2, .int tx)] := hl
  refine lv_aload_n hx hb dX2_antidifferentiate_0 rfl (lv_at hl 0 rfl) ?_
  refine lv_iload_n hx hb dX2_antidifferentiate_1 rfl (lv_at hl 1 rfl) ?_
  by_cases h_ax : zin 0 7 ax
  ·
    obtain ⟨k_ax, hk_ax, he_ax⟩ := zin_nat (a := 7) h_ax
    refine zcallV (As := [.int ax]) (rest := []) (q := 24) (k := 1) hx hb hml hown hts (kX2_find_in l D cL cI cR A F hF T top Z ax k_ax hk_ax he_ax) gX2_antidifferentiate_X2_find rfl (by decide +kernel) ⟨Nat.le_of_ble_eq_true rfl, Nat.le_of_ble_eq_true rfl⟩ rfl (by omega) (zC_o) rfl rfl hAm hP hS rfl hl.1 rfl (Nat.le_of_ble_eq_true rfl) dX2_antidifferentiate_2 ⟨Nat.zero_le _, Nat.zero_le _⟩ (zkn (fun H locs hP hS => ?_))
    refine W.eq (g2 := F0 m 5 ls [.ref (F k_ax)]) rfl ?_
    refine lv_astore_n (lv' := [(3, .ref (F k_ax)), (0, .ref (F 24)), (1, .int ax), (2, .int tx)]) hx hb dX2_antidifferentiate_5 rfl hl (by decide) rfl (fun ls hl => ?_)
    refine lv_aload_n hx hb dX2_antidifferentiate_6 rfl (lv_at hl 1 rfl) ?_
    refine lv_iload_n hx hb dX2_antidifferentiate_7 rfl (lv_at hl 3 rfl) ?_
    by_cases h_tx : zin 0 7 tx
    ·
      obtain ⟨k_tx, hk_tx, he_tx⟩ := zin_nat (a := 7) h_tx
      refine zcallV (As := [.int tx]) (rest := []) (q := 24) (k := 1) hx hb hml hown hts (kX2_find_in l D cL cI cR A F hF T top Z tx k_tx hk_tx he_tx) gX2_antidifferentiate_X2_find rfl (by decide +kernel) ⟨Nat.le_of_ble_eq_true rfl, Nat.le_of_ble_eq_true rfl⟩ rfl (by omega) (zC_o) rfl rfl hAm hP hS rfl hl.1 rfl (Nat.le_of_ble_eq_true rfl) dX2_antidifferentiate_8 ⟨Nat.zero_le _, Nat.zero_le _⟩ (zkn (fun H locs hP hS => ?_))
      refine W.eq (g2 := F0 m 11 ls [.ref (F k_tx)]) rfl ?_
      refine lv_astore (lv' := [(4, .ref (F k_tx)), (3, .ref (F k_ax)), (0, .ref (F 24)), (1, .int ax), (2, .int tx)]) hx hb dX2_antidifferentiate_11 hl (by decide) rfl (fun ls hl => ?_)
      refine lv_aload_n hx hb dX2_antidifferentiate_13 rfl (lv_at hl 1 rfl) ?_
      refine lv_ifnull hx hb dX2_antidifferentiate_14 ?_
      refine lv_aload hx hb dX2_antidifferentiate_17 (lv_at hl 0 rfl) ?_
      refine lv_ifnonnull (tgt := 26) hx hb dX2_antidifferentiate_19 (by decide) ?_
      exact absurd ⟨h_ax, h_tx⟩ hbad
    ·
      refine zcallV (As := [.int tx]) (rest := []) (q := 24) (k := 1) hx hb hml hown hts (kX2_find_out l D cL cI cR A F hF T top Z tx h_tx) gX2_antidifferentiate_X2_find rfl (by decide +kernel) ⟨Nat.le_of_ble_eq_true rfl, Nat.le_of_ble_eq_true rfl⟩ rfl (by omega) (zC_o) rfl rfl hAm hP hS rfl hl.1 rfl (Nat.le_of_ble_eq_true rfl) dX2_antidifferentiate_8 ⟨Nat.zero_le _, Nat.zero_le _⟩ (zkn (fun H locs hP hS => ?_))
      refine W.eq (g2 := F0 m 11 ls [.null]) rfl ?_
      refine lv_astoreN (lv' := [(4, .null), (3, .ref (F k_ax)), (0, .ref (F 24)), (1, .int ax), (2, .int tx)]) hx hb dX2_antidifferentiate_11 hl (by decide) rfl (fun ls hl => ?_)
      refine lv_aload_n hx hb dX2_antidifferentiate_13 rfl (lv_at hl 1 rfl) ?_
      refine lv_ifnull hx hb dX2_antidifferentiate_14 ?_
      refine lv_aloadN hx hb dX2_antidifferentiate_17 (lv_at hl 0 rfl) ?_
      refine lv_ifnonnullN hx hb dX2_antidifferentiate_19 ?_
      refine lv_ldc2 hx hb hown (hts (.constantLong RX2 50 (-9000000000000000001)) (by decide +kernel)) dX2_antidifferentiate_22 ?_
      exact zretL hx hb hr hlk hS hP dX2_antidifferentiate_25 ⟨T, top, Z, rfl, rfl, hTP, fun _ _ => rfl⟩
  ·
    refine zcallV (As := [.int ax]) (rest := []) (q := 24) (k := 1) hx hb hml hown hts (kX2_find_out l D cL cI cR A F hF T top Z ax h_ax) gX2_antidifferentiate_X2_find rfl (by decide +kernel) ⟨Nat.le_of_ble_eq_true rfl, Nat.le_of_ble_eq_true rfl⟩ rfl (by omega) (zC_o) rfl rfl hAm hP hS rfl hl.1 rfl (Nat.le_of_ble_eq_true rfl) dX2_antidifferentiate_2 ⟨Nat.zero_le _, Nat.zero_le _⟩ (zkn (fun H locs hP hS => ?_))
    refine W.eq (g2 := F0 m 5 ls [.null]) rfl ?_
    refine lv_astore_nN (lv' := [(3, .null), (0, .ref (F 24)), (1, .int ax), (2, .int tx)]) hx hb dX2_antidifferentiate_5 rfl hl (by decide) rfl (fun ls hl => ?_)
    refine lv_aload_n hx hb dX2_antidifferentiate_6 rfl (lv_at hl 1 rfl) ?_
    refine lv_iload_n hx hb dX2_antidifferentiate_7 rfl (lv_at hl 3 rfl) ?_
    by_cases h_tx : zin 0 7 tx
    ·
      obtain ⟨k_tx, hk_tx, he_tx⟩ := zin_nat (a := 7) h_tx
      refine zcallV (As := [.int tx]) (rest := []) (q := 24) (k := 1) hx hb hml hown hts (kX2_find_in l D cL cI cR A F hF T top Z tx k_tx hk_tx he_tx) gX2_antidifferentiate_X2_find rfl (by decide +kernel) ⟨Nat.le_of_ble_eq_true rfl, Nat.le_of_ble_eq_true rfl⟩ rfl (by omega) (zC_o) rfl rfl hAm hP hS rfl hl.1 rfl (Nat.le_of_ble_eq_true rfl) dX2_antidifferentiate_8 ⟨Nat.zero_le _, Nat.zero_le _⟩ (zkn (fun H locs hP hS => ?_))
      refine W.eq (g2 := F0 m 11 ls [.ref (F k_tx)]) rfl ?_
      refine lv_astore (lv' := [(4, .ref (F k_tx)), (3, .null), (0, .ref (F 24)), (1, .int ax), (2, .int tx)]) hx hb dX2_antidifferentiate_11 hl (by decide) rfl (fun ls hl => ?_)
      refine lv_aload_nN hx hb dX2_antidifferentiate_13 rfl (lv_at hl 1 rfl) ?_
      refine lv_ifnullN (tgt := 22) hx hb dX2_antidifferentiate_14 (by decide) ?_
      refine lv_ldc2 hx hb hown (hts (.constantLong RX2 50 (-9000000000000000001)) (by decide +kernel)) dX2_antidifferentiate_22 ?_
      exact zretL hx hb hr hlk hS hP dX2_antidifferentiate_25 ⟨T, top, Z, rfl, rfl, hTP, fun _ _ => rfl⟩
    ·
      refine zcallV (As := [.int tx]) (rest := []) (q := 24) (k := 1) hx hb hml hown hts (kX2_find_out l D cL cI cR A F hF T top Z tx h_tx) gX2_antidifferentiate_X2_find rfl (by decide +kernel) ⟨Nat.le_of_ble_eq_true rfl, Nat.le_of_ble_eq_true rfl⟩ rfl (by omega) (zC_o) rfl rfl hAm hP hS rfl hl.1 rfl (Nat.le_of_ble_eq_true rfl) dX2_antidifferentiate_8 ⟨Nat.zero_le _, Nat.zero_le _⟩ (zkn (fun H locs hP hS => ?_))
      refine W.eq (g2 := F0 m 11 ls [.null]) rfl ?_
      refine lv_astoreN (lv' := [(4, .null), (3, .null), (0, .ref (F 24)), (1, .int ax), (2, .int tx)]) hx hb dX2_antidifferentiate_11 hl (by decide) rfl (fun ls hl => ?_)
      refine lv_aload_nN hx hb dX2_antidifferentiate_13 rfl (lv_at hl 1 rfl) ?_
      refine lv_ifnullN (tgt := 22) hx hb dX2_antidifferentiate_14 (by decide) ?_
      refine lv_ldc2 hx hb hown (hts (.constantLong RX2 50 (-9000000000000000001)) (by decide +kernel)) dX2_antidifferentiate_22 ?_
      exact zretL hx hb hr hlk hS hP dX2_antidifferentiate_25 ⟨T, top, Z, rfl, rfl, hTP, fun _ _ => rfl⟩

set_option maxHeartbeats 4000000 in
set_option maxRecDepth 100000 in
theorem kX2_compose_bad (l : Launch) (D : va_G) (cL cI cR : ClassId) (A : Nat → Prop) (F : Nat → Nat) (hF : zq_F A F 30) (T : Nat → Nat → Int64) (top : Nat → Nat) (Z : zZC) (P : Nat → Nat → Int64) (n0 : Nat → Nat) (hTP : ∀ i, i < 8 → T i = P i ∧ top i = n0 i) (ax bx tx : Int32) (hbad : ¬ (zin 0 7 ax ∧ zin 0 7 bx ∧ zin 0 7 tx)) : zCt l yX2_compose wsX2_compose 1 21 D cL cI cR A F 30 (zCE cL cR F T top Z) [.ref (F 24), .int ax, .int bx, .int tx] (zPC cL cR F (-9000000000000000001) P n0 Z.1) := by
  refine zStart (cc := cX2_compose) (maxL := 9) (ret := (some .long)) (by decide +kernel) rfl (Nat.le_of_ble_eq_true rfl) ?_
  intro p e s m below meth c hx hb hr hml hlk hown hts hAm H hP hS ls hl
  have hown : s.vm.findClass RX2 = some m.cls := hown
  have hl : lv_has ls 9 [(0, .ref (F 24)), (1, .int ax), (2, .int bx), (3, .int tx)] := hl
  refine lv_aload_n hx hb dX2_compose_0 rfl (lv_at hl 0 rfl) ?_
  refine lv_iload_n hx hb dX2_compose_1 rfl (lv_at hl 1 rfl) ?_
  by_cases h_ax : zin 0 7 ax
  ·
    obtain ⟨k_ax, hk_ax, he_ax⟩ := zin_nat (a := 7) h_ax
    refine zcallV (As := [.int ax]) (rest := []) (q := 24) (k := 1) hx hb hml hown hts (kX2_find_in l D cL cI cR A F hF T top Z ax k_ax hk_ax he_ax) gX2_compose_X2_find rfl (by decide +kernel) ⟨Nat.le_of_ble_eq_true rfl, Nat.le_of_ble_eq_true rfl⟩ rfl (by omega) (zC_o) rfl rfl hAm hP hS rfl hl.1 rfl (Nat.le_of_ble_eq_true rfl) dX2_compose_2 ⟨Nat.zero_le _, Nat.zero_le _⟩ (zkn (fun H locs hP hS => ?_))
    refine W.eq (g2 := F0 m 5 ls [.ref (F k_ax)]) rfl ?_
    refine lv_astore (lv' := [(4, .ref (F k_ax)), (0, .ref (F 24)), (1, .int ax), (2, .int bx), (3, .int tx)]) hx hb dX2_compose_5 hl (by decide) rfl (fun ls hl => ?_)
    refine lv_aload_n hx hb dX2_compose_7 rfl (lv_at hl 1 rfl) ?_
    refine lv_iload_n hx hb dX2_compose_8 rfl (lv_at hl 3 rfl) ?_
    by_cases h_bx : zin 0 7 bx
    ·
      obtain ⟨k_bx, hk_bx, he_bx⟩ := zin_nat (a := 7) h_bx
      refine zcallV (As := [.int bx]) (rest := []) (q := 24) (k := 1) hx hb hml hown hts (kX2_find_in l D cL cI cR A F hF T top Z bx k_bx hk_bx he_bx) gX2_compose_X2_find rfl (by decide +kernel) ⟨Nat.le_of_ble_eq_true rfl, Nat.le_of_ble_eq_true rfl⟩ rfl (by omega) (zC_o) rfl rfl hAm hP hS rfl hl.1 rfl (Nat.le_of_ble_eq_true rfl) dX2_compose_9 ⟨Nat.zero_le _, Nat.zero_le _⟩ (zkn (fun H locs hP hS => ?_))
      refine W.eq (g2 := F0 m 12 ls [.ref (F k_bx)]) rfl ?_
      refine lv_astore (lv' := [(5, .ref (F k_bx)), (4, .ref (F k_ax)), (0, .ref (F 24)), (1, .int ax), (2, .int bx), (3, .int tx)]) hx hb dX2_compose_12 hl (by decide) rfl (fun ls hl => ?_)
      refine lv_aload_n hx hb dX2_compose_14 rfl (lv_at hl 2 rfl) ?_
      refine lv_iload_n hx hb dX2_compose_15 rfl (lv_at hl 5 rfl) ?_
      by_cases h_tx : zin 0 7 tx
      ·
        obtain ⟨k_tx, hk_tx, he_tx⟩ := zin_nat (a := 7) h_tx
        refine zcallV (As := [.int tx]) (rest := []) (q := 24) (k := 1) hx hb hml hown hts (kX2_find_in l D cL cI cR A F hF T top Z tx k_tx hk_tx he_tx) gX2_compose_X2_find rfl (by decide +kernel) ⟨Nat.le_of_ble_eq_true rfl, Nat.le_of_ble_eq_true rfl⟩ rfl (by omega) (zC_o) rfl rfl hAm hP hS rfl hl.1 rfl (Nat.le_of_ble_eq_true rfl) dX2_compose_16 ⟨Nat.zero_le _, Nat.zero_le _⟩ (zkn (fun H locs hP hS => ?_))
        refine W.eq (g2 := F0 m 19 ls [.ref (F k_tx)]) rfl ?_
        refine lv_astore (lv' := [(6, .ref (F k_tx)), (5, .ref (F k_bx)), (4, .ref (F k_ax)), (0, .ref (F 24)), (1, .int ax), (2, .int bx), (3, .int tx)]) hx hb dX2_compose_19 hl (by decide) rfl (fun ls hl => ?_)
        refine lv_aload hx hb dX2_compose_21 (lv_at hl 2 rfl) ?_
        refine lv_ifnull hx hb dX2_compose_23 ?_
        refine lv_aload hx hb dX2_compose_26 (lv_at hl 1 rfl) ?_
        refine lv_ifnull hx hb dX2_compose_28 ?_
        refine lv_aload hx hb dX2_compose_31 (lv_at hl 0 rfl) ?_
        refine lv_ifnonnull (tgt := 40) hx hb dX2_compose_33 (by decide) ?_
        exact absurd ⟨h_ax, h_bx, h_tx⟩ hbad
      ·
        refine zcallV (As := [.int tx]) (rest := []) (q := 24) (k := 1) hx hb hml hown hts (kX2_find_out l D cL cI cR A F hF T top Z tx h_tx) gX2_compose_X2_find rfl (by decide +kernel) ⟨Nat.le_of_ble_eq_true rfl, Nat.le_of_ble_eq_true rfl⟩ rfl (by omega) (zC_o) rfl rfl hAm hP hS rfl hl.1 rfl (Nat.le_of_ble_eq_true rfl) dX2_compose_16 ⟨Nat.zero_le _, Nat.zero_le _⟩ (zkn (fun H locs hP hS => ?_))
        refine W.eq (g2 := F0 m 19 ls [.null]) rfl ?_
        refine lv_astoreN (lv' := [(6, .null), (5, .ref (F k_bx)), (4, .ref (F k_ax)), (0, .ref (F 24)), (1, .int ax), (2, .int bx), (3, .int tx)]) hx hb dX2_compose_19 hl (by decide) rfl (fun ls hl => ?_)
        refine lv_aload hx hb dX2_compose_21 (lv_at hl 2 rfl) ?_
        refine lv_ifnull hx hb dX2_compose_23 ?_
        refine lv_aload hx hb dX2_compose_26 (lv_at hl 1 rfl) ?_
        refine lv_ifnull hx hb dX2_compose_28 ?_
        refine lv_aloadN hx hb dX2_compose_31 (lv_at hl 0 rfl) ?_
        refine lv_ifnonnullN hx hb dX2_compose_33 ?_
        refine lv_ldc2 hx hb hown (hts (.constantLong RX2 50 (-9000000000000000001)) (by decide +kernel)) dX2_compose_36 ?_
        exact zretL hx hb hr hlk hS hP dX2_compose_39 ⟨T, top, Z, rfl, rfl, hTP, fun _ _ => rfl⟩
    ·
      refine zcallV (As := [.int bx]) (rest := []) (q := 24) (k := 1) hx hb hml hown hts (kX2_find_out l D cL cI cR A F hF T top Z bx h_bx) gX2_compose_X2_find rfl (by decide +kernel) ⟨Nat.le_of_ble_eq_true rfl, Nat.le_of_ble_eq_true rfl⟩ rfl (by omega) (zC_o) rfl rfl hAm hP hS rfl hl.1 rfl (Nat.le_of_ble_eq_true rfl) dX2_compose_9 ⟨Nat.zero_le _, Nat.zero_le _⟩ (zkn (fun H locs hP hS => ?_))
      refine W.eq (g2 := F0 m 12 ls [.null]) rfl ?_
      refine lv_astoreN (lv' := [(5, .null), (4, .ref (F k_ax)), (0, .ref (F 24)), (1, .int ax), (2, .int bx), (3, .int tx)]) hx hb dX2_compose_12 hl (by decide) rfl (fun ls hl => ?_)
      refine lv_aload_n hx hb dX2_compose_14 rfl (lv_at hl 2 rfl) ?_
      refine lv_iload_n hx hb dX2_compose_15 rfl (lv_at hl 5 rfl) ?_
      by_cases h_tx : zin 0 7 tx
      ·
        obtain ⟨k_tx, hk_tx, he_tx⟩ := zin_nat (a := 7) h_tx
        refine zcallV (As := [.int tx]) (rest := []) (q := 24) (k := 1) hx hb hml hown hts (kX2_find_in l D cL cI cR A F hF T top Z tx k_tx hk_tx he_tx) gX2_compose_X2_find rfl (by decide +kernel) ⟨Nat.le_of_ble_eq_true rfl, Nat.le_of_ble_eq_true rfl⟩ rfl (by omega) (zC_o) rfl rfl hAm hP hS rfl hl.1 rfl (Nat.le_of_ble_eq_true rfl) dX2_compose_16 ⟨Nat.zero_le _, Nat.zero_le _⟩ (zkn (fun H locs hP hS => ?_))
        refine W.eq (g2 := F0 m 19 ls [.ref (F k_tx)]) rfl ?_
        refine lv_astore (lv' := [(6, .ref (F k_tx)), (5, .null), (4, .ref (F k_ax)), (0, .ref (F 24)), (1, .int ax), (2, .int bx), (3, .int tx)]) hx hb dX2_compose_19 hl (by decide) rfl (fun ls hl => ?_)
        refine lv_aload hx hb dX2_compose_21 (lv_at hl 2 rfl) ?_
        refine lv_ifnull hx hb dX2_compose_23 ?_
        refine lv_aloadN hx hb dX2_compose_26 (lv_at hl 1 rfl) ?_
        refine lv_ifnullN (tgt := 36) hx hb dX2_compose_28 (by decide) ?_
        refine lv_ldc2 hx hb hown (hts (.constantLong RX2 50 (-9000000000000000001)) (by decide +kernel)) dX2_compose_36 ?_
        exact zretL hx hb hr hlk hS hP dX2_compose_39 ⟨T, top, Z, rfl, rfl, hTP, fun _ _ => rfl⟩
      ·
        refine zcallV (As := [.int tx]) (rest := []) (q := 24) (k := 1) hx hb hml hown hts (kX2_find_out l D cL cI cR A F hF T top Z tx h_tx) gX2_compose_X2_find rfl (by decide +kernel) ⟨Nat.le_of_ble_eq_true rfl, Nat.le_of_ble_eq_true rfl⟩ rfl (by omega) (zC_o) rfl rfl hAm hP hS rfl hl.1 rfl (Nat.le_of_ble_eq_true rfl) dX2_compose_16 ⟨Nat.zero_le _, Nat.zero_le _⟩ (zkn (fun H locs hP hS => ?_))
        refine W.eq (g2 := F0 m 19 ls [.null]) rfl ?_
        refine lv_astoreN (lv' := [(6, .null), (5, .null), (4, .ref (F k_ax)), (0, .ref (F 24)), (1, .int ax), (2, .int bx), (3, .int tx)]) hx hb dX2_compose_19 hl (by decide) rfl (fun ls hl => ?_)
        refine lv_aload hx hb dX2_compose_21 (lv_at hl 2 rfl) ?_
        refine lv_ifnull hx hb dX2_compose_23 ?_
        refine lv_aloadN hx hb dX2_compose_26 (lv_at hl 1 rfl) ?_
        refine lv_ifnullN (tgt := 36) hx hb dX2_compose_28 (by decide) ?_
        refine lv_ldc2 hx hb hown (hts (.constantLong RX2 50 (-9000000000000000001)) (by decide +kernel)) dX2_compose_36 ?_
        exact zretL hx hb hr hlk hS hP dX2_compose_39 ⟨T, top, Z, rfl, rfl, hTP, fun _ _ => rfl⟩
  ·
    refine zcallV (As := [.int ax]) (rest := []) (q := 24) (k := 1) hx hb hml hown hts (kX2_find_out l D cL cI cR A F hF T top Z ax h_ax) gX2_compose_X2_find rfl (by decide +kernel) ⟨Nat.le_of_ble_eq_true rfl, Nat.le_of_ble_eq_true rfl⟩ rfl (by omega) (zC_o) rfl rfl hAm hP hS rfl hl.1 rfl (Nat.le_of_ble_eq_true rfl) dX2_compose_2 ⟨Nat.zero_le _, Nat.zero_le _⟩ (zkn (fun H locs hP hS => ?_))
    refine W.eq (g2 := F0 m 5 ls [.null]) rfl ?_
    refine lv_astoreN (lv' := [(4, .null), (0, .ref (F 24)), (1, .int ax), (2, .int bx), (3, .int tx)]) hx hb dX2_compose_5 hl (by decide) rfl (fun ls hl => ?_)
    refine lv_aload_n hx hb dX2_compose_7 rfl (lv_at hl 1 rfl) ?_
    refine lv_iload_n hx hb dX2_compose_8 rfl (lv_at hl 3 rfl) ?_
    by_cases h_bx : zin 0 7 bx
    ·
      obtain ⟨k_bx, hk_bx, he_bx⟩ := zin_nat (a := 7) h_bx
      refine zcallV (As := [.int bx]) (rest := []) (q := 24) (k := 1) hx hb hml hown hts (kX2_find_in l D cL cI cR A F hF T top Z bx k_bx hk_bx he_bx) gX2_compose_X2_find rfl (by decide +kernel) ⟨Nat.le_of_ble_eq_true rfl, Nat.le_of_ble_eq_true rfl⟩ rfl (by omega) (zC_o) rfl rfl hAm hP hS rfl hl.1 rfl (Nat.le_of_ble_eq_true rfl) dX2_compose_9 ⟨Nat.zero_le _, Nat.zero_le _⟩ (zkn (fun H locs hP hS => ?_))
      refine W.eq (g2 := F0 m 12 ls [.ref (F k_bx)]) rfl ?_
      refine lv_astore (lv' := [(5, .ref (F k_bx)), (4, .null), (0, .ref (F 24)), (1, .int ax), (2, .int bx), (3, .int tx)]) hx hb dX2_compose_12 hl (by decide) rfl (fun ls hl => ?_)
      refine lv_aload_n hx hb dX2_compose_14 rfl (lv_at hl 2 rfl) ?_
      refine lv_iload_n hx hb dX2_compose_15 rfl (lv_at hl 5 rfl) ?_
      by_cases h_tx : zin 0 7 tx
      ·
        obtain ⟨k_tx, hk_tx, he_tx⟩ := zin_nat (a := 7) h_tx
        refine zcallV (As := [.int tx]) (rest := []) (q := 24) (k := 1) hx hb hml hown hts (kX2_find_in l D cL cI cR A F hF T top Z tx k_tx hk_tx he_tx) gX2_compose_X2_find rfl (by decide +kernel) ⟨Nat.le_of_ble_eq_true rfl, Nat.le_of_ble_eq_true rfl⟩ rfl (by omega) (zC_o) rfl rfl hAm hP hS rfl hl.1 rfl (Nat.le_of_ble_eq_true rfl) dX2_compose_16 ⟨Nat.zero_le _, Nat.zero_le _⟩ (zkn (fun H locs hP hS => ?_))
        refine W.eq (g2 := F0 m 19 ls [.ref (F k_tx)]) rfl ?_
        refine lv_astore (lv' := [(6, .ref (F k_tx)), (5, .ref (F k_bx)), (4, .null), (0, .ref (F 24)), (1, .int ax), (2, .int bx), (3, .int tx)]) hx hb dX2_compose_19 hl (by decide) rfl (fun ls hl => ?_)
        refine lv_aloadN hx hb dX2_compose_21 (lv_at hl 2 rfl) ?_
        refine lv_ifnullN (tgt := 36) hx hb dX2_compose_23 (by decide) ?_
        refine lv_ldc2 hx hb hown (hts (.constantLong RX2 50 (-9000000000000000001)) (by decide +kernel)) dX2_compose_36 ?_
        exact zretL hx hb hr hlk hS hP dX2_compose_39 ⟨T, top, Z, rfl, rfl, hTP, fun _ _ => rfl⟩
      ·
        refine zcallV (As := [.int tx]) (rest := []) (q := 24) (k := 1) hx hb hml hown hts (kX2_find_out l D cL cI cR A F hF T top Z tx h_tx) gX2_compose_X2_find rfl (by decide +kernel) ⟨Nat.le_of_ble_eq_true rfl, Nat.le_of_ble_eq_true rfl⟩ rfl (by omega) (zC_o) rfl rfl hAm hP hS rfl hl.1 rfl (Nat.le_of_ble_eq_true rfl) dX2_compose_16 ⟨Nat.zero_le _, Nat.zero_le _⟩ (zkn (fun H locs hP hS => ?_))
        refine W.eq (g2 := F0 m 19 ls [.null]) rfl ?_
        refine lv_astoreN (lv' := [(6, .null), (5, .ref (F k_bx)), (4, .null), (0, .ref (F 24)), (1, .int ax), (2, .int bx), (3, .int tx)]) hx hb dX2_compose_19 hl (by decide) rfl (fun ls hl => ?_)
        refine lv_aloadN hx hb dX2_compose_21 (lv_at hl 2 rfl) ?_
        refine lv_ifnullN (tgt := 36) hx hb dX2_compose_23 (by decide) ?_
        refine lv_ldc2 hx hb hown (hts (.constantLong RX2 50 (-9000000000000000001)) (by decide +kernel)) dX2_compose_36 ?_
        exact zretL hx hb hr hlk hS hP dX2_compose_39 ⟨T, top, Z, rfl, rfl, hTP, fun _ _ => rfl⟩
    ·
      refine zcallV (As := [.int bx]) (rest := []) (q := 24) (k := 1) hx hb hml hown hts (kX2_find_out l D cL cI cR A F hF T top Z bx h_bx) gX2_compose_X2_find rfl (by decide +kernel) ⟨Nat.le_of_ble_eq_true rfl, Nat.le_of_ble_eq_true rfl⟩ rfl (by omega) (zC_o) rfl rfl hAm hP hS rfl hl.1 rfl (Nat.le_of_ble_eq_true rfl) dX2_compose_9 ⟨Nat.zero_le _, Nat.zero_le _⟩ (zkn (fun H locs hP hS => ?_))
      refine W.eq (g2 := F0 m 12 ls [.null]) rfl ?_
      refine lv_astoreN (lv' := [(5, .null), (4, .null), (0, .ref (F 24)), (1, .int ax), (2, .int bx), (3, .int tx)]) hx hb dX2_compose_12 hl (by decide) rfl (fun ls hl => ?_)
      refine lv_aload_n hx hb dX2_compose_14 rfl (lv_at hl 2 rfl) ?_
      refine lv_iload_n hx hb dX2_compose_15 rfl (lv_at hl 5 rfl) ?_
      by_cases h_tx : zin 0 7 tx
      ·
        obtain ⟨k_tx, hk_tx, he_tx⟩ := zin_nat (a := 7) h_tx
        refine zcallV (As := [.int tx]) (rest := []) (q := 24) (k := 1) hx hb hml hown hts (kX2_find_in l D cL cI cR A F hF T top Z tx k_tx hk_tx he_tx) gX2_compose_X2_find rfl (by decide +kernel) ⟨Nat.le_of_ble_eq_true rfl, Nat.le_of_ble_eq_true rfl⟩ rfl (by omega) (zC_o) rfl rfl hAm hP hS rfl hl.1 rfl (Nat.le_of_ble_eq_true rfl) dX2_compose_16 ⟨Nat.zero_le _, Nat.zero_le _⟩ (zkn (fun H locs hP hS => ?_))
        refine W.eq (g2 := F0 m 19 ls [.ref (F k_tx)]) rfl ?_
        refine lv_astore (lv' := [(6, .ref (F k_tx)), (5, .null), (4, .null), (0, .ref (F 24)), (1, .int ax), (2, .int bx), (3, .int tx)]) hx hb dX2_compose_19 hl (by decide) rfl (fun ls hl => ?_)
        refine lv_aloadN hx hb dX2_compose_21 (lv_at hl 2 rfl) ?_
        refine lv_ifnullN (tgt := 36) hx hb dX2_compose_23 (by decide) ?_
        refine lv_ldc2 hx hb hown (hts (.constantLong RX2 50 (-9000000000000000001)) (by decide +kernel)) dX2_compose_36 ?_
        exact zretL hx hb hr hlk hS hP dX2_compose_39 ⟨T, top, Z, rfl, rfl, hTP, fun _ _ => rfl⟩
      ·
        refine zcallV (As := [.int tx]) (rest := []) (q := 24) (k := 1) hx hb hml hown hts (kX2_find_out l D cL cI cR A F hF T top Z tx h_tx) gX2_compose_X2_find rfl (by decide +kernel) ⟨Nat.le_of_ble_eq_true rfl, Nat.le_of_ble_eq_true rfl⟩ rfl (by omega) (zC_o) rfl rfl hAm hP hS rfl hl.1 rfl (Nat.le_of_ble_eq_true rfl) dX2_compose_16 ⟨Nat.zero_le _, Nat.zero_le _⟩ (zkn (fun H locs hP hS => ?_))
        refine W.eq (g2 := F0 m 19 ls [.null]) rfl ?_
        refine lv_astoreN (lv' := [(6, .null), (5, .null), (4, .null), (0, .ref (F 24)), (1, .int ax), (2, .int bx), (3, .int tx)]) hx hb dX2_compose_19 hl (by decide) rfl (fun ls hl => ?_)
        refine lv_aloadN hx hb dX2_compose_21 (lv_at hl 2 rfl) ?_
        refine lv_ifnullN (tgt := 36) hx hb dX2_compose_23 (by decide) ?_
        refine lv_ldc2 hx hb hown (hts (.constantLong RX2 50 (-9000000000000000001)) (by decide +kernel)) dX2_compose_36 ?_
        exact zretL hx hb hr hlk hS hP dX2_compose_39 ⟨T, top, Z, rfl, rfl, hTP, fun _ _ => rfl⟩

set_option maxHeartbeats 4000000 in
set_option maxRecDepth 100000 in
theorem kX2_divide_bad (l : Launch) (D : va_G) (cL cI cR : ClassId) (A : Nat → Prop) (F : Nat → Nat) (hF : zq_F A F 30) (T : Nat → Nat → Int64) (top : Nat → Nat) (Z : zZC) (P : Nat → Nat → Int64) (n0 : Nat → Nat) (hTP : ∀ i, i < 8 → T i = P i ∧ top i = n0 i) (ax rx tx : Int32) (hbad : ¬ (zin 0 7 ax ∧ zin 0 7 tx ∧ zin (-1048576) 1048576 rx)) : zCt l yX2_divide wsX2_divide 1 22 D cL cI cR A F 30 (zCE cL cR F T top Z) [.ref (F 24), .int ax, .int rx, .int tx] (zPC cL cR F (-9000000000000000001) P n0 Z.1) := by
  refine zStart (cc := cX2_divide) (maxL := 10) (ret := (some .long)) (by decide +kernel) rfl (Nat.le_of_ble_eq_true rfl) ?_
  intro p e s m below meth c hx hb hr hml hlk hown hts hAm H hP hS ls hl
  have hown : s.vm.findClass RX2 = some m.cls := hown
  have hl : lv_has ls 10 [(0, .ref (F 24)), (1, .int ax), (2, .int rx), (3, .int tx)] := hl
  refine lv_aload_n hx hb dX2_divide_0 rfl (lv_at hl 0 rfl) ?_
  refine lv_iload_n hx hb dX2_divide_1 rfl (lv_at hl 1 rfl) ?_
  by_cases h_ax : zin 0 7 ax
  ·
    obtain ⟨k_ax, hk_ax, he_ax⟩ := zin_nat (a := 7) h_ax
    refine zcallV (As := [.int ax]) (rest := []) (q := 24) (k := 1) hx hb hml hown hts (kX2_find_in l D cL cI cR A F hF T top Z ax k_ax hk_ax he_ax) gX2_divide_X2_find rfl (by decide +kernel) ⟨Nat.le_of_ble_eq_true rfl, Nat.le_of_ble_eq_true rfl⟩ rfl (by omega) (zC_o) rfl rfl hAm hP hS rfl hl.1 rfl (Nat.le_of_ble_eq_true rfl) dX2_divide_2 ⟨Nat.zero_le _, Nat.zero_le _⟩ (zkn (fun H locs hP hS => ?_))
    refine W.eq (g2 := F0 m 5 ls [.ref (F k_ax)]) rfl ?_
    refine lv_astore (lv' := [(4, .ref (F k_ax)), (0, .ref (F 24)), (1, .int ax), (2, .int rx), (3, .int tx)]) hx hb dX2_divide_5 hl (by decide) rfl (fun ls hl => ?_)
    refine lv_aload_n hx hb dX2_divide_7 rfl (lv_at hl 1 rfl) ?_
    refine lv_iload_n hx hb dX2_divide_8 rfl (lv_at hl 4 rfl) ?_
    by_cases h_tx : zin 0 7 tx
    ·
      obtain ⟨k_tx, hk_tx, he_tx⟩ := zin_nat (a := 7) h_tx
      refine zcallV (As := [.int tx]) (rest := []) (q := 24) (k := 1) hx hb hml hown hts (kX2_find_in l D cL cI cR A F hF T top Z tx k_tx hk_tx he_tx) gX2_divide_X2_find rfl (by decide +kernel) ⟨Nat.le_of_ble_eq_true rfl, Nat.le_of_ble_eq_true rfl⟩ rfl (by omega) (zC_o) rfl rfl hAm hP hS rfl hl.1 rfl (Nat.le_of_ble_eq_true rfl) dX2_divide_9 ⟨Nat.zero_le _, Nat.zero_le _⟩ (zkn (fun H locs hP hS => ?_))
      refine W.eq (g2 := F0 m 12 ls [.ref (F k_tx)]) rfl ?_
      refine lv_astore (lv' := [(5, .ref (F k_tx)), (4, .ref (F k_ax)), (0, .ref (F 24)), (1, .int ax), (2, .int rx), (3, .int tx)]) hx hb dX2_divide_12 hl (by decide) rfl (fun ls hl => ?_)
      refine lv_aload hx hb dX2_divide_14 (lv_at hl 1 rfl) ?_
      refine lv_ifnull hx hb dX2_divide_16 ?_
      refine lv_aload hx hb dX2_divide_19 (lv_at hl 0 rfl) ?_
      refine lv_ifnull hx hb dX2_divide_21 ?_
      refine lv_iload_n hx hb dX2_divide_24 rfl (lv_at hl 4 rfl) ?_
      refine lv_ldc hx hb hown (hts (.constant RX2 71 (-1048576)) (by decide +kernel)) dX2_divide_25 ?_
      refine lv_ldc hx hb hown (hts (.constant RX2 72 (1048576)) (by decide +kernel)) dX2_divide_27 ?_
      by_cases h_rx : zin (-1048576) 1048576 rx
      ·
        refine zcallS (As := [.int rx, .int (-1048576 : Int32), .int (1048576 : Int32)]) (rest := []) (k := 3) hx hb hml hown hts (kX2_isOutside l D cL cI cR A F 30 (zCE cL cR F T top Z) rx (-1048576 : Int32) (1048576 : Int32) 0 (zo0 rfl rfl h_rx)) gX2_divide_X2_isOutside rfl (by decide +kernel) ⟨Nat.le_of_ble_eq_true rfl, Nat.le_of_ble_eq_true rfl⟩ hAm hP hS rfl hl.1 rfl (Nat.le_of_ble_eq_true rfl) dX2_divide_29 ⟨Nat.zero_le _, Nat.zero_le _⟩ (zkn (fun H locs hP hS => ?_))
        refine W.eq (g2 := F0 m 32 ls [.int (nI 0)]) rfl ?_
        refine zf_eq (tgt := 39) hx hb dX2_divide_32 (by decide) (by omega) (fun c1 => ?_) (fun c1 => ?_)
        ·
          exact absurd ⟨h_ax, h_tx, h_rx⟩ hbad
        ·
          exfalso; omega
      ·
        refine zcallS (As := [.int rx, .int (-1048576 : Int32), .int (1048576 : Int32)]) (rest := []) (k := 3) hx hb hml hown hts (kX2_isOutside l D cL cI cR A F 30 (zCE cL cR F T top Z) rx (-1048576 : Int32) (1048576 : Int32) 1 (zo1 rfl rfl h_rx)) gX2_divide_X2_isOutside rfl (by decide +kernel) ⟨Nat.le_of_ble_eq_true rfl, Nat.le_of_ble_eq_true rfl⟩ hAm hP hS rfl hl.1 rfl (Nat.le_of_ble_eq_true rfl) dX2_divide_29 ⟨Nat.zero_le _, Nat.zero_le _⟩ (zkn (fun H locs hP hS => ?_))
        refine W.eq (g2 := F0 m 32 ls [.int (nI 1)]) rfl ?_
        refine zf_eq (tgt := 39) hx hb dX2_divide_32 (by decide) (by omega) (fun c2 => ?_) (fun c2 => ?_)
        ·
          exfalso; omega
        ·
          refine lv_ldc2 hx hb hown (hts (.constantLong RX2 50 (-9000000000000000001)) (by decide +kernel)) dX2_divide_35 ?_
          exact zretL hx hb hr hlk hS hP dX2_divide_38 ⟨T, top, Z, rfl, rfl, hTP, fun _ _ => rfl⟩
    ·
      refine zcallV (As := [.int tx]) (rest := []) (q := 24) (k := 1) hx hb hml hown hts (kX2_find_out l D cL cI cR A F hF T top Z tx h_tx) gX2_divide_X2_find rfl (by decide +kernel) ⟨Nat.le_of_ble_eq_true rfl, Nat.le_of_ble_eq_true rfl⟩ rfl (by omega) (zC_o) rfl rfl hAm hP hS rfl hl.1 rfl (Nat.le_of_ble_eq_true rfl) dX2_divide_9 ⟨Nat.zero_le _, Nat.zero_le _⟩ (zkn (fun H locs hP hS => ?_))
      refine W.eq (g2 := F0 m 12 ls [.null]) rfl ?_
      refine lv_astoreN (lv' := [(5, .null), (4, .ref (F k_ax)), (0, .ref (F 24)), (1, .int ax), (2, .int rx), (3, .int tx)]) hx hb dX2_divide_12 hl (by decide) rfl (fun ls hl => ?_)
      refine lv_aload hx hb dX2_divide_14 (lv_at hl 1 rfl) ?_
      refine lv_ifnull hx hb dX2_divide_16 ?_
      refine lv_aloadN hx hb dX2_divide_19 (lv_at hl 0 rfl) ?_
      refine lv_ifnullN (tgt := 35) hx hb dX2_divide_21 (by decide) ?_
      refine lv_ldc2 hx hb hown (hts (.constantLong RX2 50 (-9000000000000000001)) (by decide +kernel)) dX2_divide_35 ?_
      exact zretL hx hb hr hlk hS hP dX2_divide_38 ⟨T, top, Z, rfl, rfl, hTP, fun _ _ => rfl⟩
  ·
    refine zcallV (As := [.int ax]) (rest := []) (q := 24) (k := 1) hx hb hml hown hts (kX2_find_out l D cL cI cR A F hF T top Z ax h_ax) gX2_divide_X2_find rfl (by decide +kernel) ⟨Nat.le_of_ble_eq_true rfl, Nat.le_of_ble_eq_true rfl⟩ rfl (by omega) (zC_o) rfl rfl hAm hP hS rfl hl.1 rfl (Nat.le_of_ble_eq_true rfl) dX2_divide_2 ⟨Nat.zero_le _, Nat.zero_le _⟩ (zkn (fun H locs hP hS => ?_))
    refine W.eq (g2 := F0 m 5 ls [.null]) rfl ?_
    refine lv_astoreN (lv' := [(4, .null), (0, .ref (F 24)), (1, .int ax), (2, .int rx), (3, .int tx)]) hx hb dX2_divide_5 hl (by decide) rfl (fun ls hl => ?_)
    refine lv_aload_n hx hb dX2_divide_7 rfl (lv_at hl 1 rfl) ?_
    refine lv_iload_n hx hb dX2_divide_8 rfl (lv_at hl 4 rfl) ?_
    by_cases h_tx : zin 0 7 tx
    ·
      obtain ⟨k_tx, hk_tx, he_tx⟩ := zin_nat (a := 7) h_tx
      refine zcallV (As := [.int tx]) (rest := []) (q := 24) (k := 1) hx hb hml hown hts (kX2_find_in l D cL cI cR A F hF T top Z tx k_tx hk_tx he_tx) gX2_divide_X2_find rfl (by decide +kernel) ⟨Nat.le_of_ble_eq_true rfl, Nat.le_of_ble_eq_true rfl⟩ rfl (by omega) (zC_o) rfl rfl hAm hP hS rfl hl.1 rfl (Nat.le_of_ble_eq_true rfl) dX2_divide_9 ⟨Nat.zero_le _, Nat.zero_le _⟩ (zkn (fun H locs hP hS => ?_))
      refine W.eq (g2 := F0 m 12 ls [.ref (F k_tx)]) rfl ?_
      refine lv_astore (lv' := [(5, .ref (F k_tx)), (4, .null), (0, .ref (F 24)), (1, .int ax), (2, .int rx), (3, .int tx)]) hx hb dX2_divide_12 hl (by decide) rfl (fun ls hl => ?_)
      refine lv_aloadN hx hb dX2_divide_14 (lv_at hl 1 rfl) ?_
      refine lv_ifnullN (tgt := 35) hx hb dX2_divide_16 (by decide) ?_
      refine lv_ldc2 hx hb hown (hts (.constantLong RX2 50 (-9000000000000000001)) (by decide +kernel)) dX2_divide_35 ?_
      exact zretL hx hb hr hlk hS hP dX2_divide_38 ⟨T, top, Z, rfl, rfl, hTP, fun _ _ => rfl⟩
    ·
      refine zcallV (As := [.int tx]) (rest := []) (q := 24) (k := 1) hx hb hml hown hts (kX2_find_out l D cL cI cR A F hF T top Z tx h_tx) gX2_divide_X2_find rfl (by decide +kernel) ⟨Nat.le_of_ble_eq_true rfl, Nat.le_of_ble_eq_true rfl⟩ rfl (by omega) (zC_o) rfl rfl hAm hP hS rfl hl.1 rfl (Nat.le_of_ble_eq_true rfl) dX2_divide_9 ⟨Nat.zero_le _, Nat.zero_le _⟩ (zkn (fun H locs hP hS => ?_))
      refine W.eq (g2 := F0 m 12 ls [.null]) rfl ?_
      refine lv_astoreN (lv' := [(5, .null), (4, .null), (0, .ref (F 24)), (1, .int ax), (2, .int rx), (3, .int tx)]) hx hb dX2_divide_12 hl (by decide) rfl (fun ls hl => ?_)
      refine lv_aloadN hx hb dX2_divide_14 (lv_at hl 1 rfl) ?_
      refine lv_ifnullN (tgt := 35) hx hb dX2_divide_16 (by decide) ?_
      refine lv_ldc2 hx hb hown (hts (.constantLong RX2 50 (-9000000000000000001)) (by decide +kernel)) dX2_divide_35 ?_
      exact zretL hx hb hr hlk hS hP dX2_divide_38 ⟨T, top, Z, rfl, rfl, hTP, fun _ _ => rfl⟩

set_option maxHeartbeats 4000000 in
set_option maxRecDepth 100000 in
theorem kX2_cut_bad (l : Launch) (D : va_G) (cL cI cR : ClassId) (A : Nat → Prop) (F : Nat → Nat) (hF : zq_F A F 30) (T : Nat → Nat → Int64) (top : Nat → Nat) (Z : zZC) (P : Nat → Nat → Int64) (n0 : Nat → Nat) (hTP : ∀ i, i < 8 → T i = P i ∧ top i = n0 i) (sx tolx : Int32) (hbad : ¬ (zin 0 7 sx ∧ zin 0 1000000000 tolx)) : zCt l yX2_cut wsX2_cut 1 22 D cL cI cR A F 30 (zCE cL cR F T top Z) [.ref (F 24), .int sx, .int tolx] (zPC cL cR F (-9000000000000000001) P n0 Z.1) := by
  refine zStart (cc := cX2_cut) (maxL := 5) (ret := (some .long)) (by decide +kernel) rfl (Nat.le_of_ble_eq_true rfl) ?_
  intro p e s m below meth c hx hb hr hml hlk hown hts hAm H hP hS ls hl
  have hown : s.vm.findClass RX2 = some m.cls := hown
  have hl : lv_has ls 5 [(0, .ref (F 24)), (1, .int sx), (2, .int tolx)] := hl
  refine lv_aload_n hx hb dX2_cut_0 rfl (lv_at hl 0 rfl) ?_
  refine lv_iload_n hx hb dX2_cut_1 rfl (lv_at hl 1 rfl) ?_
  by_cases h_sx : zin 0 7 sx
  ·
    obtain ⟨k_sx, hk_sx, he_sx⟩ := zin_nat (a := 7) h_sx
    refine zcallV (As := [.int sx]) (rest := []) (q := 24) (k := 1) hx hb hml hown hts (kX2_find_in l D cL cI cR A F hF T top Z sx k_sx hk_sx he_sx) gX2_cut_X2_find rfl (by decide +kernel) ⟨Nat.le_of_ble_eq_true rfl, Nat.le_of_ble_eq_true rfl⟩ rfl (by omega) (zC_o) rfl rfl hAm hP hS rfl hl.1 rfl (Nat.le_of_ble_eq_true rfl) dX2_cut_2 ⟨Nat.zero_le _, Nat.zero_le _⟩ (zkn (fun H locs hP hS => ?_))
    refine W.eq (g2 := F0 m 5 ls [.ref (F k_sx)]) rfl ?_
    refine lv_astore_n (lv' := [(3, .ref (F k_sx)), (0, .ref (F 24)), (1, .int sx), (2, .int tolx)]) hx hb dX2_cut_5 rfl hl (by decide) rfl (fun ls hl => ?_)
    refine lv_aload_n hx hb dX2_cut_6 rfl (lv_at hl 0 rfl) ?_
    refine lv_ifnull hx hb dX2_cut_7 ?_
    refine lv_iload_n hx hb dX2_cut_10 rfl (lv_at hl 3 rfl) ?_
    refine lv_iconst (v := nI 0) hx hb dX2_cut_11 (by decide +kernel) ?_
    refine lv_ldc hx hb hown (hts (.constant RX2 103 (1000000000)) (by decide +kernel)) dX2_cut_12 ?_
    by_cases h_tolx : zin 0 1000000000 tolx
    ·
      refine zcallS (As := [.int tolx, .int (nI 0), .int (1000000000 : Int32)]) (rest := []) (k := 3) hx hb hml hown hts (kX2_isOutside l D cL cI cR A F 30 (zCE cL cR F T top Z) tolx (nI 0) (1000000000 : Int32) 0 (zo0 rfl rfl h_tolx)) gX2_cut_X2_isOutside rfl (by decide +kernel) ⟨Nat.le_of_ble_eq_true rfl, Nat.le_of_ble_eq_true rfl⟩ hAm hP hS rfl hl.1 rfl (Nat.le_of_ble_eq_true rfl) dX2_cut_14 ⟨Nat.zero_le _, Nat.zero_le _⟩ (zkn (fun H locs hP hS => ?_))
      refine W.eq (g2 := F0 m 17 ls [.int (nI 0)]) rfl ?_
      refine zf_eq (tgt := 24) hx hb dX2_cut_17 (by decide) (by omega) (fun c1 => ?_) (fun c1 => ?_)
      ·
        exact absurd ⟨h_sx, h_tolx⟩ hbad
      ·
        exfalso; omega
    ·
      refine zcallS (As := [.int tolx, .int (nI 0), .int (1000000000 : Int32)]) (rest := []) (k := 3) hx hb hml hown hts (kX2_isOutside l D cL cI cR A F 30 (zCE cL cR F T top Z) tolx (nI 0) (1000000000 : Int32) 1 (zo1 rfl rfl h_tolx)) gX2_cut_X2_isOutside rfl (by decide +kernel) ⟨Nat.le_of_ble_eq_true rfl, Nat.le_of_ble_eq_true rfl⟩ hAm hP hS rfl hl.1 rfl (Nat.le_of_ble_eq_true rfl) dX2_cut_14 ⟨Nat.zero_le _, Nat.zero_le _⟩ (zkn (fun H locs hP hS => ?_))
      refine W.eq (g2 := F0 m 17 ls [.int (nI 1)]) rfl ?_
      refine zf_eq (tgt := 24) hx hb dX2_cut_17 (by decide) (by omega) (fun c2 => ?_) (fun c2 => ?_)
      ·
        exfalso; omega
      ·
        refine lv_ldc2 hx hb hown (hts (.constantLong RX2 50 (-9000000000000000001)) (by decide +kernel)) dX2_cut_20 ?_
        exact zretL hx hb hr hlk hS hP dX2_cut_23 ⟨T, top, Z, rfl, rfl, hTP, fun _ _ => rfl⟩
  ·
    refine zcallV (As := [.int sx]) (rest := []) (q := 24) (k := 1) hx hb hml hown hts (kX2_find_out l D cL cI cR A F hF T top Z sx h_sx) gX2_cut_X2_find rfl (by decide +kernel) ⟨Nat.le_of_ble_eq_true rfl, Nat.le_of_ble_eq_true rfl⟩ rfl (by omega) (zC_o) rfl rfl hAm hP hS rfl hl.1 rfl (Nat.le_of_ble_eq_true rfl) dX2_cut_2 ⟨Nat.zero_le _, Nat.zero_le _⟩ (zkn (fun H locs hP hS => ?_))
    refine W.eq (g2 := F0 m 5 ls [.null]) rfl ?_
    refine lv_astore_nN (lv' := [(3, .null), (0, .ref (F 24)), (1, .int sx), (2, .int tolx)]) hx hb dX2_cut_5 rfl hl (by decide) rfl (fun ls hl => ?_)
    refine lv_aload_nN hx hb dX2_cut_6 rfl (lv_at hl 0 rfl) ?_
    refine lv_ifnullN (tgt := 20) hx hb dX2_cut_7 (by decide) ?_
    refine lv_ldc2 hx hb hown (hts (.constantLong RX2 50 (-9000000000000000001)) (by decide +kernel)) dX2_cut_20 ?_
    exact zretL hx hb hr hlk hS hP dX2_cut_23 ⟨T, top, Z, rfl, rfl, hTP, fun _ _ => rfl⟩

set_option maxHeartbeats 4000000 in
set_option maxRecDepth 100000 in
theorem kX2_degreeWith_bad (l : Launch) (D : va_G) (cL cI cR : ClassId) (A : Nat → Prop) (F : Nat → Nat) (hF : zq_F A F 30) (T : Nat → Nat → Int64) (top : Nat → Nat) (Z : zZC) (P : Nat → Nat → Int64) (n0 : Nat → Nat) (hTP : ∀ i, i < 8 → T i = P i ∧ top i = n0 i) (sx tolx : Int32) (hbad : ¬ (zin 0 7 sx ∧ zin 0 1000000000 tolx)) : zCt l yX2_degreeWith wsX2_degreeWith 1 22 D cL cI cR A F 30 (zCE cL cR F T top Z) [.ref (F 24), .int sx, .int tolx] (zPC cL cR F (-9000000000000000001) P n0 Z.1) := by
  refine zStart (cc := cX2_degreeWith) (maxL := 4) (ret := (some .long)) (by decide +kernel) rfl (Nat.le_of_ble_eq_true rfl) ?_
  intro p e s m below meth c hx hb hr hml hlk hown hts hAm H hP hS ls hl
  have hown : s.vm.findClass RX2 = some m.cls := hown
  have hl : lv_has ls 4 [(0, .ref (F 24)), (1, .int sx), (2, .int tolx)] := hl
  refine lv_aload_n hx hb dX2_degreeWith_0 rfl (lv_at hl 0 rfl) ?_
  refine lv_iload_n hx hb dX2_degreeWith_1 rfl (lv_at hl 1 rfl) ?_
  by_cases h_sx : zin 0 7 sx
  ·
    obtain ⟨k_sx, hk_sx, he_sx⟩ := zin_nat (a := 7) h_sx
    refine zcallV (As := [.int sx]) (rest := []) (q := 24) (k := 1) hx hb hml hown hts (kX2_find_in l D cL cI cR A F hF T top Z sx k_sx hk_sx he_sx) gX2_degreeWith_X2_find rfl (by decide +kernel) ⟨Nat.le_of_ble_eq_true rfl, Nat.le_of_ble_eq_true rfl⟩ rfl (by omega) (zC_o) rfl rfl hAm hP hS rfl hl.1 rfl (Nat.le_of_ble_eq_true rfl) dX2_degreeWith_2 ⟨Nat.zero_le _, Nat.zero_le _⟩ (zkn (fun H locs hP hS => ?_))
    refine W.eq (g2 := F0 m 5 ls [.ref (F k_sx)]) rfl ?_
    refine lv_astore_n (lv' := [(3, .ref (F k_sx)), (0, .ref (F 24)), (1, .int sx), (2, .int tolx)]) hx hb dX2_degreeWith_5 rfl hl (by decide) rfl (fun ls hl => ?_)
    refine lv_aload_n hx hb dX2_degreeWith_6 rfl (lv_at hl 0 rfl) ?_
    refine lv_ifnull hx hb dX2_degreeWith_7 ?_
    refine lv_iload_n hx hb dX2_degreeWith_10 rfl (lv_at hl 3 rfl) ?_
    refine lv_iconst (v := nI 0) hx hb dX2_degreeWith_11 (by decide +kernel) ?_
    refine lv_ldc hx hb hown (hts (.constant RX2 103 (1000000000)) (by decide +kernel)) dX2_degreeWith_12 ?_
    by_cases h_tolx : zin 0 1000000000 tolx
    ·
      refine zcallS (As := [.int tolx, .int (nI 0), .int (1000000000 : Int32)]) (rest := []) (k := 3) hx hb hml hown hts (kX2_isOutside l D cL cI cR A F 30 (zCE cL cR F T top Z) tolx (nI 0) (1000000000 : Int32) 0 (zo0 rfl rfl h_tolx)) gX2_degreeWith_X2_isOutside rfl (by decide +kernel) ⟨Nat.le_of_ble_eq_true rfl, Nat.le_of_ble_eq_true rfl⟩ hAm hP hS rfl hl.1 rfl (Nat.le_of_ble_eq_true rfl) dX2_degreeWith_14 ⟨Nat.zero_le _, Nat.zero_le _⟩ (zkn (fun H locs hP hS => ?_))
      refine W.eq (g2 := F0 m 17 ls [.int (nI 0)]) rfl ?_
      refine zf_eq (tgt := 24) hx hb dX2_degreeWith_17 (by decide) (by omega) (fun c1 => ?_) (fun c1 => ?_)
      ·
        exact absurd ⟨h_sx, h_tolx⟩ hbad
      ·
        exfalso; omega
    ·
      refine zcallS (As := [.int tolx, .int (nI 0), .int (1000000000 : Int32)]) (rest := []) (k := 3) hx hb hml hown hts (kX2_isOutside l D cL cI cR A F 30 (zCE cL cR F T top Z) tolx (nI 0) (1000000000 : Int32) 1 (zo1 rfl rfl h_tolx)) gX2_degreeWith_X2_isOutside rfl (by decide +kernel) ⟨Nat.le_of_ble_eq_true rfl, Nat.le_of_ble_eq_true rfl⟩ hAm hP hS rfl hl.1 rfl (Nat.le_of_ble_eq_true rfl) dX2_degreeWith_14 ⟨Nat.zero_le _, Nat.zero_le _⟩ (zkn (fun H locs hP hS => ?_))
      refine W.eq (g2 := F0 m 17 ls [.int (nI 1)]) rfl ?_
      refine zf_eq (tgt := 24) hx hb dX2_degreeWith_17 (by decide) (by omega) (fun c2 => ?_) (fun c2 => ?_)
      ·
        exfalso; omega
      ·
        refine lv_ldc2 hx hb hown (hts (.constantLong RX2 50 (-9000000000000000001)) (by decide +kernel)) dX2_degreeWith_20 ?_
        exact zretL hx hb hr hlk hS hP dX2_degreeWith_23 ⟨T, top, Z, rfl, rfl, hTP, fun _ _ => rfl⟩
  ·
    refine zcallV (As := [.int sx]) (rest := []) (q := 24) (k := 1) hx hb hml hown hts (kX2_find_out l D cL cI cR A F hF T top Z sx h_sx) gX2_degreeWith_X2_find rfl (by decide +kernel) ⟨Nat.le_of_ble_eq_true rfl, Nat.le_of_ble_eq_true rfl⟩ rfl (by omega) (zC_o) rfl rfl hAm hP hS rfl hl.1 rfl (Nat.le_of_ble_eq_true rfl) dX2_degreeWith_2 ⟨Nat.zero_le _, Nat.zero_le _⟩ (zkn (fun H locs hP hS => ?_))
    refine W.eq (g2 := F0 m 5 ls [.null]) rfl ?_
    refine lv_astore_nN (lv' := [(3, .null), (0, .ref (F 24)), (1, .int sx), (2, .int tolx)]) hx hb dX2_degreeWith_5 rfl hl (by decide) rfl (fun ls hl => ?_)
    refine lv_aload_nN hx hb dX2_degreeWith_6 rfl (lv_at hl 0 rfl) ?_
    refine lv_ifnullN (tgt := 20) hx hb dX2_degreeWith_7 (by decide) ?_
    refine lv_ldc2 hx hb hown (hts (.constantLong RX2 50 (-9000000000000000001)) (by decide +kernel)) dX2_degreeWith_20 ?_
    exact zretL hx hb hr hlk hS hP dX2_degreeWith_23 ⟨T, top, Z, rfl, rfl, hTP, fun _ _ => rfl⟩

set_option maxHeartbeats 4000000 in
set_option maxRecDepth 100000 in
theorem kX2_basis_bad (l : Launch) (D : va_G) (cL cI cR : ClassId) (A : Nat → Prop) (F : Nat → Nat) (hF : zq_F A F 30) (T : Nat → Nat → Int64) (top : Nat → Nat) (Z : zZC) (P : Nat → Nat → Int64) (n0 : Nat → Nat) (hTP : ∀ i, i < 8 → T i = P i ∧ top i = n0 i) (kx tx : Int32) (hbad : ¬ (zin 0 7 tx ∧ zin 0 24 kx)) : zCt l yX2_basis wsX2_basis 1 22 D cL cI cR A F 30 (zCE cL cR F T top Z) [.ref (F 24), .int kx, .int tx] (zPC cL cR F (-9000000000000000001) P n0 Z.1) := by
  refine zStart (cc := cX2_basis) (maxL := 4) (ret := (some .long)) (by decide +kernel) rfl (Nat.le_of_ble_eq_true rfl) ?_
  intro p e s m below meth c hx hb hr hml hlk hown hts hAm H hP hS ls hl
  have hown : s.vm.findClass RX2 = some m.cls := hown
  have hl : lv_has ls 4 [(0, .ref (F 24)), (1, .int kx), (2, .int tx)] := hl
  refine lv_aload_n hx hb dX2_basis_0 rfl (lv_at hl 0 rfl) ?_
  refine lv_iload_n hx hb dX2_basis_1 rfl (lv_at hl 2 rfl) ?_
  by_cases h_tx : zin 0 7 tx
  ·
    obtain ⟨k_tx, hk_tx, he_tx⟩ := zin_nat (a := 7) h_tx
    refine zcallV (As := [.int tx]) (rest := []) (q := 24) (k := 1) hx hb hml hown hts (kX2_find_in l D cL cI cR A F hF T top Z tx k_tx hk_tx he_tx) gX2_basis_X2_find rfl (by decide +kernel) ⟨Nat.le_of_ble_eq_true rfl, Nat.le_of_ble_eq_true rfl⟩ rfl (by omega) (zC_o) rfl rfl hAm hP hS rfl hl.1 rfl (Nat.le_of_ble_eq_true rfl) dX2_basis_2 ⟨Nat.zero_le _, Nat.zero_le _⟩ (zkn (fun H locs hP hS => ?_))
    refine W.eq (g2 := F0 m 5 ls [.ref (F k_tx)]) rfl ?_
    refine lv_astore_n (lv' := [(3, .ref (F k_tx)), (0, .ref (F 24)), (1, .int kx), (2, .int tx)]) hx hb dX2_basis_5 rfl hl (by decide) rfl (fun ls hl => ?_)
    refine lv_aload_n hx hb dX2_basis_6 rfl (lv_at hl 0 rfl) ?_
    refine lv_ifnull hx hb dX2_basis_7 ?_
    refine lv_iload_n hx hb dX2_basis_10 rfl (lv_at hl 2 rfl) ?_
    refine lv_iconst (v := nI 0) hx hb dX2_basis_11 (by decide +kernel) ?_
    refine lv_bipush (v := nI 24) hx hb dX2_basis_12 (by decide +kernel) ?_
    by_cases h_kx : zin 0 24 kx
    ·
      refine zcallS (As := [.int kx, .int (nI 0), .int (nI 24)]) (rest := []) (k := 3) hx hb hml hown hts (kX2_isOutside l D cL cI cR A F 30 (zCE cL cR F T top Z) kx (nI 0) (nI 24) 0 (zo0 rfl rfl h_kx)) gX2_basis_X2_isOutside rfl (by decide +kernel) ⟨Nat.le_of_ble_eq_true rfl, Nat.le_of_ble_eq_true rfl⟩ hAm hP hS rfl hl.1 rfl (Nat.le_of_ble_eq_true rfl) dX2_basis_14 ⟨Nat.zero_le _, Nat.zero_le _⟩ (zkn (fun H locs hP hS => ?_))
      refine W.eq (g2 := F0 m 17 ls [.int (nI 0)]) rfl ?_
      refine zf_eq (tgt := 24) hx hb dX2_basis_17 (by decide) (by omega) (fun c1 => ?_) (fun c1 => ?_)
      ·
        exact absurd ⟨h_tx, h_kx⟩ hbad
      ·
        exfalso; omega
    ·
      refine zcallS (As := [.int kx, .int (nI 0), .int (nI 24)]) (rest := []) (k := 3) hx hb hml hown hts (kX2_isOutside l D cL cI cR A F 30 (zCE cL cR F T top Z) kx (nI 0) (nI 24) 1 (zo1 rfl rfl h_kx)) gX2_basis_X2_isOutside rfl (by decide +kernel) ⟨Nat.le_of_ble_eq_true rfl, Nat.le_of_ble_eq_true rfl⟩ hAm hP hS rfl hl.1 rfl (Nat.le_of_ble_eq_true rfl) dX2_basis_14 ⟨Nat.zero_le _, Nat.zero_le _⟩ (zkn (fun H locs hP hS => ?_))
      refine W.eq (g2 := F0 m 17 ls [.int (nI 1)]) rfl ?_
      refine zf_eq (tgt := 24) hx hb dX2_basis_17 (by decide) (by omega) (fun c2 => ?_) (fun c2 => ?_)
      ·
        exfalso; omega
      ·
        refine lv_ldc2 hx hb hown (hts (.constantLong RX2 50 (-9000000000000000001)) (by decide +kernel)) dX2_basis_20 ?_
        exact zretL hx hb hr hlk hS hP dX2_basis_23 ⟨T, top, Z, rfl, rfl, hTP, fun _ _ => rfl⟩
  ·
    refine zcallV (As := [.int tx]) (rest := []) (q := 24) (k := 1) hx hb hml hown hts (kX2_find_out l D cL cI cR A F hF T top Z tx h_tx) gX2_basis_X2_find rfl (by decide +kernel) ⟨Nat.le_of_ble_eq_true rfl, Nat.le_of_ble_eq_true rfl⟩ rfl (by omega) (zC_o) rfl rfl hAm hP hS rfl hl.1 rfl (Nat.le_of_ble_eq_true rfl) dX2_basis_2 ⟨Nat.zero_le _, Nat.zero_le _⟩ (zkn (fun H locs hP hS => ?_))
    refine W.eq (g2 := F0 m 5 ls [.null]) rfl ?_
    refine lv_astore_nN (lv' := [(3, .null), (0, .ref (F 24)), (1, .int kx), (2, .int tx)]) hx hb dX2_basis_5 rfl hl (by decide) rfl (fun ls hl => ?_)
    refine lv_aload_nN hx hb dX2_basis_6 rfl (lv_at hl 0 rfl) ?_
    refine lv_ifnullN (tgt := 20) hx hb dX2_basis_7 (by decide) ?_
    refine lv_ldc2 hx hb hown (hts (.constantLong RX2 50 (-9000000000000000001)) (by decide +kernel)) dX2_basis_20 ?_
    exact zretL hx hb hr hlk hS hP dX2_basis_23 ⟨T, top, Z, rfl, rfl, hTP, fun _ _ => rfl⟩

set_option maxHeartbeats 4000000 in
set_option maxRecDepth 100000 in
theorem kX2_integral_bad (l : Launch) (D : va_G) (cL cI cR : ClassId) (A : Nat → Prop) (F : Nat → Nat) (hF : zq_F A F 30) (T : Nat → Nat → Int64) (top : Nat → Nat) (Z : zZC) (P : Nat → Nat → Int64) (n0 : Nat → Nat) (hTP : ∀ i, i < 8 → T i = P i ∧ top i = n0 i) (sx : Int32) (hbad : ¬ (zin 0 7 sx)) : zCt l yX2_integral wsX2_integral 1 21 D cL cI cR A F 30 (zCE cL cR F T top Z) [.ref (F 24), .int sx] (zPC cL cR F (-9000000000000000001) P n0 Z.1) := by
  refine zStart (cc := cX2_integral) (maxL := 6) (ret := (some .long)) (by decide +kernel) rfl (Nat.le_of_ble_eq_true rfl) ?_
  intro p e s m below meth c hx hb hr hml hlk hown hts hAm H hP hS ls hl
  have hown : s.vm.findClass RX2 = some m.cls := hown
  have hl : lv_has ls 6 [(0, .ref (F 24)), (1, .int sx)] := hl
  refine lv_aload_n hx hb dX2_integral_0 rfl (lv_at hl 0 rfl) ?_
  refine lv_iload_n hx hb dX2_integral_1 rfl (lv_at hl 1 rfl) ?_
  by_cases h_sx : zin 0 7 sx
  ·
    obtain ⟨k_sx, hk_sx, he_sx⟩ := zin_nat (a := 7) h_sx
    refine zcallV (As := [.int sx]) (rest := []) (q := 24) (k := 1) hx hb hml hown hts (kX2_find_in l D cL cI cR A F hF T top Z sx k_sx hk_sx he_sx) gX2_integral_X2_find rfl (by decide +kernel) ⟨Nat.le_of_ble_eq_true rfl, Nat.le_of_ble_eq_true rfl⟩ rfl (by omega) (zC_o) rfl rfl hAm hP hS rfl hl.1 rfl (Nat.le_of_ble_eq_true rfl) dX2_integral_2 ⟨Nat.zero_le _, Nat.zero_le _⟩ (zkn (fun H locs hP hS => ?_))
    refine W.eq (g2 := F0 m 5 ls [.ref (F k_sx)]) rfl ?_
    refine lv_astore_n (lv' := [(2, .ref (F k_sx)), (0, .ref (F 24)), (1, .int sx)]) hx hb dX2_integral_5 rfl hl (by decide) rfl (fun ls hl => ?_)
    refine lv_aload_n hx hb dX2_integral_6 rfl (lv_at hl 0 rfl) ?_
    refine lv_ifnonnull (tgt := 14) hx hb dX2_integral_7 (by decide) ?_
    exact absurd h_sx hbad
  ·
    refine zcallV (As := [.int sx]) (rest := []) (q := 24) (k := 1) hx hb hml hown hts (kX2_find_out l D cL cI cR A F hF T top Z sx h_sx) gX2_integral_X2_find rfl (by decide +kernel) ⟨Nat.le_of_ble_eq_true rfl, Nat.le_of_ble_eq_true rfl⟩ rfl (by omega) (zC_o) rfl rfl hAm hP hS rfl hl.1 rfl (Nat.le_of_ble_eq_true rfl) dX2_integral_2 ⟨Nat.zero_le _, Nat.zero_le _⟩ (zkn (fun H locs hP hS => ?_))
    refine W.eq (g2 := F0 m 5 ls [.null]) rfl ?_
    refine lv_astore_nN (lv' := [(2, .null), (0, .ref (F 24)), (1, .int sx)]) hx hb dX2_integral_5 rfl hl (by decide) rfl (fun ls hl => ?_)
    refine lv_aload_nN hx hb dX2_integral_6 rfl (lv_at hl 0 rfl) ?_
    refine lv_ifnonnullN hx hb dX2_integral_7 ?_
    refine lv_ldc2 hx hb hown (hts (.constantLong RX2 50 (-9000000000000000001)) (by decide +kernel)) dX2_integral_10 ?_
    exact zretL hx hb hr hlk hS hP dX2_integral_13 ⟨T, top, Z, rfl, rfl, hTP, fun _ _ => rfl⟩

set_option maxHeartbeats 4000000 in
set_option maxRecDepth 100000 in
theorem kX2_inner_bad (l : Launch) (D : va_G) (cL cI cR : ClassId) (A : Nat → Prop) (F : Nat → Nat) (hF : zq_F A F 30) (T : Nat → Nat → Int64) (top : Nat → Nat) (Z : zZC) (P : Nat → Nat → Int64) (n0 : Nat → Nat) (hTP : ∀ i, i < 8 → T i = P i ∧ top i = n0 i) (ax bx : Int32) (hbad : ¬ (zin 0 7 ax ∧ zin 0 7 bx)) : zCt l yX2_inner wsX2_inner 1 21 D cL cI cR A F 30 (zCE cL cR F T top Z) [.ref (F 24), .int ax, .int bx] (zPC cL cR F (-9000000000000000001) P n0 Z.1) := by
  refine zStart (cc := cX2_inner) (maxL := 8) (ret := (some .long)) (by decide +kernel) rfl (Nat.le_of_ble_eq_true rfl) ?_
  intro p e s m below meth c hx hb hr hml hlk hown hts hAm H hP hS ls hl
  have hown : s.vm.findClass RX2 = some m.cls := hown
  have hl : lv_has ls 8 [(0, .ref (F 24)), (1, .int ax), (2, .int bx)] := hl
  refine lv_aload_n hx hb dX2_inner_0 rfl (lv_at hl 0 rfl) ?_
  refine lv_iload_n hx hb dX2_inner_1 rfl (lv_at hl 1 rfl) ?_
  by_cases h_ax : zin 0 7 ax
  ·
    obtain ⟨k_ax, hk_ax, he_ax⟩ := zin_nat (a := 7) h_ax
    refine zcallV (As := [.int ax]) (rest := []) (q := 24) (k := 1) hx hb hml hown hts (kX2_find_in l D cL cI cR A F hF T top Z ax k_ax hk_ax he_ax) gX2_inner_X2_find rfl (by decide +kernel) ⟨Nat.le_of_ble_eq_true rfl, Nat.le_of_ble_eq_true rfl⟩ rfl (by omega) (zC_o) rfl rfl hAm hP hS rfl hl.1 rfl (Nat.le_of_ble_eq_true rfl) dX2_inner_2 ⟨Nat.zero_le _, Nat.zero_le _⟩ (zkn (fun H locs hP hS => ?_))
    refine W.eq (g2 := F0 m 5 ls [.ref (F k_ax)]) rfl ?_
    refine lv_astore_n (lv' := [(3, .ref (F k_ax)), (0, .ref (F 24)), (1, .int ax), (2, .int bx)]) hx hb dX2_inner_5 rfl hl (by decide) rfl (fun ls hl => ?_)
    refine lv_aload_n hx hb dX2_inner_6 rfl (lv_at hl 1 rfl) ?_
    refine lv_iload_n hx hb dX2_inner_7 rfl (lv_at hl 3 rfl) ?_
    by_cases h_bx : zin 0 7 bx
    ·
      obtain ⟨k_bx, hk_bx, he_bx⟩ := zin_nat (a := 7) h_bx
      refine zcallV (As := [.int bx]) (rest := []) (q := 24) (k := 1) hx hb hml hown hts (kX2_find_in l D cL cI cR A F hF T top Z bx k_bx hk_bx he_bx) gX2_inner_X2_find rfl (by decide +kernel) ⟨Nat.le_of_ble_eq_true rfl, Nat.le_of_ble_eq_true rfl⟩ rfl (by omega) (zC_o) rfl rfl hAm hP hS rfl hl.1 rfl (Nat.le_of_ble_eq_true rfl) dX2_inner_8 ⟨Nat.zero_le _, Nat.zero_le _⟩ (zkn (fun H locs hP hS => ?_))
      refine W.eq (g2 := F0 m 11 ls [.ref (F k_bx)]) rfl ?_
      refine lv_astore (lv' := [(4, .ref (F k_bx)), (3, .ref (F k_ax)), (0, .ref (F 24)), (1, .int ax), (2, .int bx)]) hx hb dX2_inner_11 hl (by decide) rfl (fun ls hl => ?_)
      refine lv_aload_n hx hb dX2_inner_13 rfl (lv_at hl 1 rfl) ?_
      refine lv_ifnull hx hb dX2_inner_14 ?_
      refine lv_aload hx hb dX2_inner_17 (lv_at hl 0 rfl) ?_
      refine lv_ifnonnull (tgt := 26) hx hb dX2_inner_19 (by decide) ?_
      exact absurd ⟨h_ax, h_bx⟩ hbad
    ·
      refine zcallV (As := [.int bx]) (rest := []) (q := 24) (k := 1) hx hb hml hown hts (kX2_find_out l D cL cI cR A F hF T top Z bx h_bx) gX2_inner_X2_find rfl (by decide +kernel) ⟨Nat.le_of_ble_eq_true rfl, Nat.le_of_ble_eq_true rfl⟩ rfl (by omega) (zC_o) rfl rfl hAm hP hS rfl hl.1 rfl (Nat.le_of_ble_eq_true rfl) dX2_inner_8 ⟨Nat.zero_le _, Nat.zero_le _⟩ (zkn (fun H locs hP hS => ?_))
      refine W.eq (g2 := F0 m 11 ls [.null]) rfl ?_
      refine lv_astoreN (lv' := [(4, .null), (3, .ref (F k_ax)), (0, .ref (F 24)), (1, .int ax), (2, .int bx)]) hx hb dX2_inner_11 hl (by decide) rfl (fun ls hl => ?_)
      refine lv_aload_n hx hb dX2_inner_13 rfl (lv_at hl 1 rfl) ?_
      refine lv_ifnull hx hb dX2_inner_14 ?_
      refine lv_aloadN hx hb dX2_inner_17 (lv_at hl 0 rfl) ?_
      refine lv_ifnonnullN hx hb dX2_inner_19 ?_
      refine lv_ldc2 hx hb hown (hts (.constantLong RX2 50 (-9000000000000000001)) (by decide +kernel)) dX2_inner_22 ?_
      exact zretL hx hb hr hlk hS hP dX2_inner_25 ⟨T, top, Z, rfl, rfl, hTP, fun _ _ => rfl⟩
  ·
    refine zcallV (As := [.int ax]) (rest := []) (q := 24) (k := 1) hx hb hml hown hts (kX2_find_out l D cL cI cR A F hF T top Z ax h_ax) gX2_inner_X2_find rfl (by decide +kernel) ⟨Nat.le_of_ble_eq_true rfl, Nat.le_of_ble_eq_true rfl⟩ rfl (by omega) (zC_o) rfl rfl hAm hP hS rfl hl.1 rfl (Nat.le_of_ble_eq_true rfl) dX2_inner_2 ⟨Nat.zero_le _, Nat.zero_le _⟩ (zkn (fun H locs hP hS => ?_))
    refine W.eq (g2 := F0 m 5 ls [.null]) rfl ?_
    refine lv_astore_nN (lv' := [(3, .null), (0, .ref (F 24)), (1, .int ax), (2, .int bx)]) hx hb dX2_inner_5 rfl hl (by decide) rfl (fun ls hl => ?_)
    refine lv_aload_n hx hb dX2_inner_6 rfl (lv_at hl 1 rfl) ?_
    refine lv_iload_n hx hb dX2_inner_7 rfl (lv_at hl 3 rfl) ?_
    by_cases h_bx : zin 0 7 bx
    ·
      obtain ⟨k_bx, hk_bx, he_bx⟩ := zin_nat (a := 7) h_bx
      refine zcallV (As := [.int bx]) (rest := []) (q := 24) (k := 1) hx hb hml hown hts (kX2_find_in l D cL cI cR A F hF T top Z bx k_bx hk_bx he_bx) gX2_inner_X2_find rfl (by decide +kernel) ⟨Nat.le_of_ble_eq_true rfl, Nat.le_of_ble_eq_true rfl⟩ rfl (by omega) (zC_o) rfl rfl hAm hP hS rfl hl.1 rfl (Nat.le_of_ble_eq_true rfl) dX2_inner_8 ⟨Nat.zero_le _, Nat.zero_le _⟩ (zkn (fun H locs hP hS => ?_))
      refine W.eq (g2 := F0 m 11 ls [.ref (F k_bx)]) rfl ?_
      refine lv_astore (lv' := [(4, .ref (F k_bx)), (3, .null), (0, .ref (F 24)), (1, .int ax), (2, .int bx)]) hx hb dX2_inner_11 hl (by decide) rfl (fun ls hl => ?_)
      refine lv_aload_nN hx hb dX2_inner_13 rfl (lv_at hl 1 rfl) ?_
      refine lv_ifnullN (tgt := 22) hx hb dX2_inner_14 (by decide) ?_
      refine lv_ldc2 hx hb hown (hts (.constantLong RX2 50 (-9000000000000000001)) (by decide +kernel)) dX2_inner_22 ?_
      exact zretL hx hb hr hlk hS hP dX2_inner_25 ⟨T, top, Z, rfl, rfl, hTP, fun _ _ => rfl⟩
    ·
      refine zcallV (As := [.int bx]) (rest := []) (q := 24) (k := 1) hx hb hml hown hts (kX2_find_out l D cL cI cR A F hF T top Z bx h_bx) gX2_inner_X2_find rfl (by decide +kernel) ⟨Nat.le_of_ble_eq_true rfl, Nat.le_of_ble_eq_true rfl⟩ rfl (by omega) (zC_o) rfl rfl hAm hP hS rfl hl.1 rfl (Nat.le_of_ble_eq_true rfl) dX2_inner_8 ⟨Nat.zero_le _, Nat.zero_le _⟩ (zkn (fun H locs hP hS => ?_))
      refine W.eq (g2 := F0 m 11 ls [.null]) rfl ?_
      refine lv_astoreN (lv' := [(4, .null), (3, .null), (0, .ref (F 24)), (1, .int ax), (2, .int bx)]) hx hb dX2_inner_11 hl (by decide) rfl (fun ls hl => ?_)
      refine lv_aload_nN hx hb dX2_inner_13 rfl (lv_at hl 1 rfl) ?_
      refine lv_ifnullN (tgt := 22) hx hb dX2_inner_14 (by decide) ?_
      refine lv_ldc2 hx hb hown (hts (.constantLong RX2 50 (-9000000000000000001)) (by decide +kernel)) dX2_inner_22 ?_
      exact zretL hx hb hr hlk hS hP dX2_inner_25 ⟨T, top, Z, rfl, rfl, hTP, fun _ _ => rfl⟩

set_option maxHeartbeats 4000000 in
set_option maxRecDepth 100000 in
theorem kX2_bound_bad (l : Launch) (D : va_G) (cL cI cR : ClassId) (A : Nat → Prop) (F : Nat → Nat) (hF : zq_F A F 30) (T : Nat → Nat → Int64) (top : Nat → Nat) (Z : zZC) (P : Nat → Nat → Int64) (n0 : Nat → Nat) (hTP : ∀ i, i < 8 → T i = P i ∧ top i = n0 i) (sx : Int32) (hbad : ¬ (zin 0 7 sx)) : zCt l yX2_bound wsX2_bound 1 21 D cL cI cR A F 30 (zCE cL cR F T top Z) [.ref (F 24), .int sx] (zPC cL cR F (-9000000000000000001) P n0 Z.1) := by
  refine zStart (cc := cX2_bound) (maxL := 6) (ret := (some .long)) (by decide +kernel) rfl (Nat.le_of_ble_eq_true rfl) ?_
  intro p e s m below meth c hx hb hr hml hlk hown hts hAm H hP hS ls hl
  have hown : s.vm.findClass RX2 = some m.cls := hown
  have hl : lv_has ls 6 [(0, .ref (F 24)), (1, .int sx)] := hl
  refine lv_aload_n hx hb dX2_bound_0 rfl (lv_at hl 0 rfl) ?_
  refine lv_iload_n hx hb dX2_bound_1 rfl (lv_at hl 1 rfl) ?_
  by_cases h_sx : zin 0 7 sx
  ·
    obtain ⟨k_sx, hk_sx, he_sx⟩ := zin_nat (a := 7) h_sx
    refine zcallV (As := [.int sx]) (rest := []) (q := 24) (k := 1) hx hb hml hown hts (kX2_find_in l D cL cI cR A F hF T top Z sx k_sx hk_sx he_sx) gX2_bound_X2_find rfl (by decide +kernel) ⟨Nat.le_of_ble_eq_true rfl, Nat.le_of_ble_eq_true rfl⟩ rfl (by omega) (zC_o) rfl rfl hAm hP hS rfl hl.1 rfl (Nat.le_of_ble_eq_true rfl) dX2_bound_2 ⟨Nat.zero_le _, Nat.zero_le _⟩ (zkn (fun H locs hP hS => ?_))
    refine W.eq (g2 := F0 m 5 ls [.ref (F k_sx)]) rfl ?_
    refine lv_astore_n (lv' := [(2, .ref (F k_sx)), (0, .ref (F 24)), (1, .int sx)]) hx hb dX2_bound_5 rfl hl (by decide) rfl (fun ls hl => ?_)
    refine lv_aload_n hx hb dX2_bound_6 rfl (lv_at hl 0 rfl) ?_
    refine lv_ifnonnull (tgt := 14) hx hb dX2_bound_7 (by decide) ?_
    exact absurd h_sx hbad
  ·
    refine zcallV (As := [.int sx]) (rest := []) (q := 24) (k := 1) hx hb hml hown hts (kX2_find_out l D cL cI cR A F hF T top Z sx h_sx) gX2_bound_X2_find rfl (by decide +kernel) ⟨Nat.le_of_ble_eq_true rfl, Nat.le_of_ble_eq_true rfl⟩ rfl (by omega) (zC_o) rfl rfl hAm hP hS rfl hl.1 rfl (Nat.le_of_ble_eq_true rfl) dX2_bound_2 ⟨Nat.zero_le _, Nat.zero_le _⟩ (zkn (fun H locs hP hS => ?_))
    refine W.eq (g2 := F0 m 5 ls [.null]) rfl ?_
    refine lv_astore_nN (lv' := [(2, .null), (0, .ref (F 24)), (1, .int sx)]) hx hb dX2_bound_5 rfl hl (by decide) rfl (fun ls hl => ?_)
    refine lv_aload_nN hx hb dX2_bound_6 rfl (lv_at hl 0 rfl) ?_
    refine lv_ifnonnullN hx hb dX2_bound_7 ?_
    refine lv_ldc2 hx hb hown (hts (.constantLong RX2 50 (-9000000000000000001)) (by decide +kernel)) dX2_bound_10 ?_
    exact zretL hx hb hr hlk hS hP dX2_bound_13 ⟨T, top, Z, rfl, rfl, hTP, fun _ _ => rfl⟩

set_option maxHeartbeats 4000000 in
set_option maxRecDepth 100000 in
theorem kX2_byValue_bad (l : Launch) (D : va_G) (cL cI cR : ClassId) (A : Nat → Prop) (F : Nat → Nat) (hF : zq_F A F 30) (T : Nat → Nat → Int64) (top : Nat → Nat) (Z : zZC) (P : Nat → Nat → Int64) (n0 : Nat → Nat) (hTP : ∀ i, i < 8 → T i = P i ∧ top i = n0 i) (sx plx : Int32) (hbad : ¬ (zin 0 7 sx ∧ zin 0 24 plx)) : zCt l yX2_byValue wsX2_byValue 1 22 D cL cI cR A F 30 (zCE cL cR F T top Z) [.ref (F 24), .int sx, .int plx] (zPC cL cR F (-9000000000000000001) P n0 Z.1) := by
  refine zStart (cc := cX2_byValue) (maxL := 5) (ret := (some .long)) (by decide +kernel) rfl (Nat.le_of_ble_eq_true rfl) ?_
  intro p e s m below meth c hx hb hr hml hlk hown hts hAm H hP hS ls hl
  have hown : s.vm.findClass RX2 = some m.cls := hown
  have hl : lv_has ls 5 [(0, .ref (F 24)), (1, .int sx), (2, .int plx)] := hl
  refine lv_aload_n hx hb dX2_byValue_0 rfl (lv_at hl 0 rfl) ?_
  refine lv_iload_n hx hb dX2_byValue_1 rfl (lv_at hl 1 rfl) ?_
  by_cases h_sx : zin 0 7 sx
  ·
    obtain ⟨k_sx, hk_sx, he_sx⟩ := zin_nat (a := 7) h_sx
    refine zcallV (As := [.int sx]) (rest := []) (q := 24) (k := 1) hx hb hml hown hts (kX2_find_in l D cL cI cR A F hF T top Z sx k_sx hk_sx he_sx) gX2_byValue_X2_find rfl (by decide +kernel) ⟨Nat.le_of_ble_eq_true rfl, Nat.le_of_ble_eq_true rfl⟩ rfl (by omega) (zC_o) rfl rfl hAm hP hS rfl hl.1 rfl (Nat.le_of_ble_eq_true rfl) dX2_byValue_2 ⟨Nat.zero_le _, Nat.zero_le _⟩ (zkn (fun H locs hP hS => ?_))
    refine W.eq (g2 := F0 m 5 ls [.ref (F k_sx)]) rfl ?_
    refine lv_astore_n (lv' := [(3, .ref (F k_sx)), (0, .ref (F 24)), (1, .int sx), (2, .int plx)]) hx hb dX2_byValue_5 rfl hl (by decide) rfl (fun ls hl => ?_)
    refine lv_aload_n hx hb dX2_byValue_6 rfl (lv_at hl 0 rfl) ?_
    refine lv_ifnull hx hb dX2_byValue_7 ?_
    refine lv_iload_n hx hb dX2_byValue_10 rfl (lv_at hl 3 rfl) ?_
    refine lv_iconst (v := nI 0) hx hb dX2_byValue_11 (by decide +kernel) ?_
    refine lv_bipush (v := nI 24) hx hb dX2_byValue_12 (by decide +kernel) ?_
    by_cases h_plx : zin 0 24 plx
    ·
      refine zcallS (As := [.int plx, .int (nI 0), .int (nI 24)]) (rest := []) (k := 3) hx hb hml hown hts (kX2_isOutside l D cL cI cR A F 30 (zCE cL cR F T top Z) plx (nI 0) (nI 24) 0 (zo0 rfl rfl h_plx)) gX2_byValue_X2_isOutside rfl (by decide +kernel) ⟨Nat.le_of_ble_eq_true rfl, Nat.le_of_ble_eq_true rfl⟩ hAm hP hS rfl hl.1 rfl (Nat.le_of_ble_eq_true rfl) dX2_byValue_14 ⟨Nat.zero_le _, Nat.zero_le _⟩ (zkn (fun H locs hP hS => ?_))
      refine W.eq (g2 := F0 m 17 ls [.int (nI 0)]) rfl ?_
      refine zf_eq (tgt := 24) hx hb dX2_byValue_17 (by decide) (by omega) (fun c1 => ?_) (fun c1 => ?_)
      ·
        exact absurd ⟨h_sx, h_plx⟩ hbad
      ·
        exfalso; omega
    ·
      refine zcallS (As := [.int plx, .int (nI 0), .int (nI 24)]) (rest := []) (k := 3) hx hb hml hown hts (kX2_isOutside l D cL cI cR A F 30 (zCE cL cR F T top Z) plx (nI 0) (nI 24) 1 (zo1 rfl rfl h_plx)) gX2_byValue_X2_isOutside rfl (by decide +kernel) ⟨Nat.le_of_ble_eq_true rfl, Nat.le_of_ble_eq_true rfl⟩ hAm hP hS rfl hl.1 rfl (Nat.le_of_ble_eq_true rfl) dX2_byValue_14 ⟨Nat.zero_le _, Nat.zero_le _⟩ (zkn (fun H locs hP hS => ?_))
      refine W.eq (g2 := F0 m 17 ls [.int (nI 1)]) rfl ?_
      refine zf_eq (tgt := 24) hx hb dX2_byValue_17 (by decide) (by omega) (fun c2 => ?_) (fun c2 => ?_)
      ·
        exfalso; omega
      ·
        refine lv_ldc2 hx hb hown (hts (.constantLong RX2 50 (-9000000000000000001)) (by decide +kernel)) dX2_byValue_20 ?_
        exact zretL hx hb hr hlk hS hP dX2_byValue_23 ⟨T, top, Z, rfl, rfl, hTP, fun _ _ => rfl⟩
  ·
    refine zcallV (As := [.int sx]) (rest := []) (q := 24) (k := 1) hx hb hml hown hts (kX2_find_out l D cL cI cR A F hF T top Z sx h_sx) gX2_byValue_X2_find rfl (by decide +kernel) ⟨Nat.le_of_ble_eq_true rfl, Nat.le_of_ble_eq_true rfl⟩ rfl (by omega) (zC_o) rfl rfl hAm hP hS rfl hl.1 rfl (Nat.le_of_ble_eq_true rfl) dX2_byValue_2 ⟨Nat.zero_le _, Nat.zero_le _⟩ (zkn (fun H locs hP hS => ?_))
    refine W.eq (g2 := F0 m 5 ls [.null]) rfl ?_
    refine lv_astore_nN (lv' := [(3, .null), (0, .ref (F 24)), (1, .int sx), (2, .int plx)]) hx hb dX2_byValue_5 rfl hl (by decide) rfl (fun ls hl => ?_)
    refine lv_aload_nN hx hb dX2_byValue_6 rfl (lv_at hl 0 rfl) ?_
    refine lv_ifnullN (tgt := 20) hx hb dX2_byValue_7 (by decide) ?_
    refine lv_ldc2 hx hb hown (hts (.constantLong RX2 50 (-9000000000000000001)) (by decide +kernel)) dX2_byValue_20 ?_
    exact zretL hx hb hr hlk hS hP dX2_byValue_23 ⟨T, top, Z, rfl, rfl, hTP, fun _ _ => rfl⟩

set_option maxHeartbeats 4000000 in
set_option maxRecDepth 100000 in
theorem kX2_interpolate_bad (l : Launch) (D : va_G) (cL cI cR : ClassId) (A : Nat → Prop) (F : Nat → Nat) (hF : zq_F A F 30) (T : Nat → Nat → Int64) (top : Nat → Nat) (Z : zZC) (P : Nat → Nat → Int64) (n0 : Nat → Nat) (hTP : ∀ i, i < 8 → T i = P i ∧ top i = n0 i) (qx tx : Int32) (hbad : ¬ (zin 0 7 tx ∧ zin 0 4 qx)) : zCt l yX2_interpolate wsX2_interpolate 1 22 D cL cI cR A F 30 (zCE cL cR F T top Z) [.ref (F 24), .int qx, .int tx] (zPC cL cR F (-9000000000000000001) P n0 Z.1) := by
  refine zStart (cc := cX2_interpolate) (maxL := 7) (ret := (some .long)) (by decide +kernel) rfl (Nat.le_of_ble_eq_true rfl) ?_
  intro p e s m below meth c hx hb hr hml hlk hown hts hAm H hP hS ls hl
  have hown : s.vm.findClass RX2 = some m.cls := hown
  have hl : lv_has ls 7 [(0, .ref (F 24)), (1, .int qx), (2, .int tx)] := hl
  refine lv_aload_n hx hb dX2_interpolate_0 rfl (lv_at hl 0 rfl) ?_
  refine lv_iload_n hx hb dX2_interpolate_1 rfl (lv_at hl 2 rfl) ?_
  by_cases h_tx : zin 0 7 tx
  ·
    obtain ⟨k_tx, hk_tx, he_tx⟩ := zin_nat (a := 7) h_tx
    refine zcallV (As := [.int tx]) (rest := []) (q := 24) (k := 1) hx hb hml hown hts (kX2_find_in l D cL cI cR A F hF T top Z tx k_tx hk_tx he_tx) gX2_interpolate_X2_find rfl (by decide +kernel) ⟨Nat.le_of_ble_eq_true rfl, Nat.le_of_ble_eq_true rfl⟩ rfl (by omega) (zC_o) rfl rfl hAm hP hS rfl hl.1 rfl (Nat.le_of_ble_eq_true rfl) dX2_interpolate_2 ⟨Nat.zero_le _, Nat.zero_le _⟩ (zkn (fun H locs hP hS => ?_))
    refine W.eq (g2 := F0 m 5 ls [.ref (F k_tx)]) rfl ?_
    refine lv_astore_n (lv' := [(3, .ref (F k_tx)), (0, .ref (F 24)), (1, .int qx), (2, .int tx)]) hx hb dX2_interpolate_5 rfl hl (by decide) rfl (fun ls hl => ?_)
    refine lv_aload_n hx hb dX2_interpolate_6 rfl (lv_at hl 0 rfl) ?_
    refine lv_ifnull hx hb dX2_interpolate_7 ?_
    refine lv_iload_n hx hb dX2_interpolate_10 rfl (lv_at hl 2 rfl) ?_
    refine lv_iconst (v := nI 0) hx hb dX2_interpolate_11 (by decide +kernel) ?_
    refine lv_iconst (v := nI 4) hx hb dX2_interpolate_12 (by decide +kernel) ?_
    by_cases h_qx : zin 0 4 qx
    ·
      refine zcallS (As := [.int qx, .int (nI 0), .int (nI 4)]) (rest := []) (k := 3) hx hb hml hown hts (kX2_isOutside l D cL cI cR A F 30 (zCE cL cR F T top Z) qx (nI 0) (nI 4) 0 (zo0 rfl rfl h_qx)) gX2_interpolate_X2_isOutside rfl (by decide +kernel) ⟨Nat.le_of_ble_eq_true rfl, Nat.le_of_ble_eq_true rfl⟩ hAm hP hS rfl hl.1 rfl (Nat.le_of_ble_eq_true rfl) dX2_interpolate_13 ⟨Nat.zero_le _, Nat.zero_le _⟩ (zkn (fun H locs hP hS => ?_))
      refine W.eq (g2 := F0 m 16 ls [.int (nI 0)]) rfl ?_
      refine zf_eq (tgt := 23) hx hb dX2_interpolate_16 (by decide) (by omega) (fun c1 => ?_) (fun c1 => ?_)
      ·
        exact absurd ⟨h_tx, h_qx⟩ hbad
      ·
        exfalso; omega
    ·
      refine zcallS (As := [.int qx, .int (nI 0), .int (nI 4)]) (rest := []) (k := 3) hx hb hml hown hts (kX2_isOutside l D cL cI cR A F 30 (zCE cL cR F T top Z) qx (nI 0) (nI 4) 1 (zo1 rfl rfl h_qx)) gX2_interpolate_X2_isOutside rfl (by decide +kernel) ⟨Nat.le_of_ble_eq_true rfl, Nat.le_of_ble_eq_true rfl⟩ hAm hP hS rfl hl.1 rfl (Nat.le_of_ble_eq_true rfl) dX2_interpolate_13 ⟨Nat.zero_le _, Nat.zero_le _⟩ (zkn (fun H locs hP hS => ?_))
      refine W.eq (g2 := F0 m 16 ls [.int (nI 1)]) rfl ?_
      refine zf_eq (tgt := 23) hx hb dX2_interpolate_16 (by decide) (by omega) (fun c2 => ?_) (fun c2 => ?_)
      ·
        exfalso; omega
      ·
        refine lv_ldc2 hx hb hown (hts (.constantLong RX2 50 (-9000000000000000001)) (by decide +kernel)) dX2_interpolate_19 ?_
        exact zretL hx hb hr hlk hS hP dX2_interpolate_22 ⟨T, top, Z, rfl, rfl, hTP, fun _ _ => rfl⟩
  ·
    refine zcallV (As := [.int tx]) (rest := []) (q := 24) (k := 1) hx hb hml hown hts (kX2_find_out l D cL cI cR A F hF T top Z tx h_tx) gX2_interpolate_X2_find rfl (by decide +kernel) ⟨Nat.le_of_ble_eq_true rfl, Nat.le_of_ble_eq_true rfl⟩ rfl (by omega) (zC_o) rfl rfl hAm hP hS rfl hl.1 rfl (Nat.le_of_ble_eq_true rfl) dX2_interpolate_2 ⟨Nat.zero_le _, Nat.zero_le _⟩ (zkn (fun H locs hP hS => ?_))
    refine W.eq (g2 := F0 m 5 ls [.null]) rfl ?_
    refine lv_astore_nN (lv' := [(3, .null), (0, .ref (F 24)), (1, .int qx), (2, .int tx)]) hx hb dX2_interpolate_5 rfl hl (by decide) rfl (fun ls hl => ?_)
    refine lv_aload_nN hx hb dX2_interpolate_6 rfl (lv_at hl 0 rfl) ?_
    refine lv_ifnullN (tgt := 19) hx hb dX2_interpolate_7 (by decide) ?_
    refine lv_ldc2 hx hb hown (hts (.constantLong RX2 50 (-9000000000000000001)) (by decide +kernel)) dX2_interpolate_19 ?_
    exact zretL hx hb hr hlk hS hP dX2_interpolate_22 ⟨T, top, Z, rfl, rfl, hTP, fun _ _ => rfl⟩

set_option maxHeartbeats 4000000 in
set_option maxRecDepth 100000 in
theorem kX2_sample_bad (l : Launch) (D : va_G) (cL cI cR : ClassId) (A : Nat → Prop) (F : Nat → Nat) (hF : zq_F A F 30) (T : Nat → Nat → Int64) (top : Nat → Nat) (Z : zZC) (P : Nat → Nat → Int64) (n0 : Nat → Nat) (hTP : ∀ i, i < 8 → T i = P i ∧ top i = n0 i) (sx qx : Int32) (hbad : ¬ (zin 0 7 sx ∧ zin 0 4 qx)) : zCt l yX2_sample wsX2_sample 1 22 D cL cI cR A F 30 (zCE cL cR F T top Z) [.ref (F 24), .int sx, .int qx] (zPC cL cR F (-9000000000000000001) P n0 Z.1) := by
  refine zStart (cc := cX2_sample) (maxL := 6) (ret := (some .long)) (by decide +kernel) rfl (Nat.le_of_ble_eq_true rfl) ?_
  intro p e s m below meth c hx hb hr hml hlk hown hts hAm H hP hS ls hl
  have hown : s.vm.findClass RX2 = some m.cls := hown
  have hl : lv_has ls 6 [(0, .ref (F 24)), (1, .int sx), (2, .int qx)] := hl
  refine lv_aload_n hx hb dX2_sample_0 rfl (lv_at hl 0 rfl) ?_
  refine lv_iload_n hx hb dX2_sample_1 rfl (lv_at hl 1 rfl) ?_
  by_cases h_sx : zin 0 7 sx
  ·
    obtain ⟨k_sx, hk_sx, he_sx⟩ := zin_nat (a := 7) h_sx
    refine zcallV (As := [.int sx]) (rest := []) (q := 24) (k := 1) hx hb hml hown hts (kX2_find_in l D cL cI cR A F hF T top Z sx k_sx hk_sx he_sx) gX2_sample_X2_find rfl (by decide +kernel) ⟨Nat.le_of_ble_eq_true rfl, Nat.le_of_ble_eq_true rfl⟩ rfl (by omega) (zC_o) rfl rfl hAm hP hS rfl hl.1 rfl (Nat.le_of_ble_eq_true rfl) dX2_sample_2 ⟨Nat.zero_le _, Nat.zero_le _⟩ (zkn (fun H locs hP hS => ?_))
    refine W.eq (g2 := F0 m 5 ls [.ref (F k_sx)]) rfl ?_
    refine lv_astore_n (lv' := [(3, .ref (F k_sx)), (0, .ref (F 24)), (1, .int sx), (2, .int qx)]) hx hb dX2_sample_5 rfl hl (by decide) rfl (fun ls hl => ?_)
    refine lv_aload_n hx hb dX2_sample_6 rfl (lv_at hl 0 rfl) ?_
    refine lv_ifnull hx hb dX2_sample_7 ?_
    refine lv_iload_n hx hb dX2_sample_10 rfl (lv_at hl 3 rfl) ?_
    refine lv_iconst (v := nI 0) hx hb dX2_sample_11 (by decide +kernel) ?_
    refine lv_iconst (v := nI 4) hx hb dX2_sample_12 (by decide +kernel) ?_
    by_cases h_qx : zin 0 4 qx
    ·
      refine zcallS (As := [.int qx, .int (nI 0), .int (nI 4)]) (rest := []) (k := 3) hx hb hml hown hts (kX2_isOutside l D cL cI cR A F 30 (zCE cL cR F T top Z) qx (nI 0) (nI 4) 0 (zo0 rfl rfl h_qx)) gX2_sample_X2_isOutside rfl (by decide +kernel) ⟨Nat.le_of_ble_eq_true rfl, Nat.le_of_ble_eq_true rfl⟩ hAm hP hS rfl hl.1 rfl (Nat.le_of_ble_eq_true rfl) dX2_sample_13 ⟨Nat.zero_le _, Nat.zero_le _⟩ (zkn (fun H locs hP hS => ?_))
      refine W.eq (g2 := F0 m 16 ls [.int (nI 0)]) rfl ?_
      refine zf_eq (tgt := 23) hx hb dX2_sample_16 (by decide) (by omega) (fun c1 => ?_) (fun c1 => ?_)
      ·
        exact absurd ⟨h_sx, h_qx⟩ hbad
      ·
        exfalso; omega
    ·
      refine zcallS (As := [.int qx, .int (nI 0), .int (nI 4)]) (rest := []) (k := 3) hx hb hml hown hts (kX2_isOutside l D cL cI cR A F 30 (zCE cL cR F T top Z) qx (nI 0) (nI 4) 1 (zo1 rfl rfl h_qx)) gX2_sample_X2_isOutside rfl (by decide +kernel) ⟨Nat.le_of_ble_eq_true rfl, Nat.le_of_ble_eq_true rfl⟩ hAm hP hS rfl hl.1 rfl (Nat.le_of_ble_eq_true rfl) dX2_sample_13 ⟨Nat.zero_le _, Nat.zero_le _⟩ (zkn (fun H locs hP hS => ?_))
      refine W.eq (g2 := F0 m 16 ls [.int (nI 1)]) rfl ?_
      refine zf_eq (tgt := 23) hx hb dX2_sample_16 (by decide) (by omega) (fun c2 => ?_) (fun c2 => ?_)
      ·
        exfalso; omega
      ·
        refine lv_ldc2 hx hb hown (hts (.constantLong RX2 50 (-9000000000000000001)) (by decide +kernel)) dX2_sample_19 ?_
        exact zretL hx hb hr hlk hS hP dX2_sample_22 ⟨T, top, Z, rfl, rfl, hTP, fun _ _ => rfl⟩
  ·
    refine zcallV (As := [.int sx]) (rest := []) (q := 24) (k := 1) hx hb hml hown hts (kX2_find_out l D cL cI cR A F hF T top Z sx h_sx) gX2_sample_X2_find rfl (by decide +kernel) ⟨Nat.le_of_ble_eq_true rfl, Nat.le_of_ble_eq_true rfl⟩ rfl (by omega) (zC_o) rfl rfl hAm hP hS rfl hl.1 rfl (Nat.le_of_ble_eq_true rfl) dX2_sample_2 ⟨Nat.zero_le _, Nat.zero_le _⟩ (zkn (fun H locs hP hS => ?_))
    refine W.eq (g2 := F0 m 5 ls [.null]) rfl ?_
    refine lv_astore_nN (lv' := [(3, .null), (0, .ref (F 24)), (1, .int sx), (2, .int qx)]) hx hb dX2_sample_5 rfl hl (by decide) rfl (fun ls hl => ?_)
    refine lv_aload_nN hx hb dX2_sample_6 rfl (lv_at hl 0 rfl) ?_
    refine lv_ifnullN (tgt := 19) hx hb dX2_sample_7 (by decide) ?_
    refine lv_ldc2 hx hb hown (hts (.constantLong RX2 50 (-9000000000000000001)) (by decide +kernel)) dX2_sample_19 ?_
    exact zretL hx hb hr hlk hS hP dX2_sample_22 ⟨T, top, Z, rfl, rfl, hTP, fun _ _ => rfl⟩

set_option maxHeartbeats 4000000 in
set_option maxRecDepth 100000 in
theorem kX2_misfit_bad (l : Launch) (D : va_G) (cL cI cR : ClassId) (A : Nat → Prop) (F : Nat → Nat) (hF : zq_F A F 30) (T : Nat → Nat → Int64) (top : Nat → Nat) (Z : zZC) (P : Nat → Nat → Int64) (n0 : Nat → Nat) (hTP : ∀ i, i < 8 → T i = P i ∧ top i = n0 i) (sx qx : Int32) (hbad : ¬ (zin 0 7 sx ∧ zin 0 4 qx)) : zCt l yX2_misfit wsX2_misfit 1 22 D cL cI cR A F 30 (zCE cL cR F T top Z) [.ref (F 24), .int sx, .int qx] (zPC cL cR F (-9000000000000000001) P n0 Z.1) := by
  refine zStart (cc := cX2_misfit) (maxL := 8) (ret := (some .long)) (by decide +kernel) rfl (Nat.le_of_ble_eq_true rfl) ?_
  intro p e s m below meth c hx hb hr hml hlk hown hts hAm H hP hS ls hl
  have hown : s.vm.findClass RX2 = some m.cls := hown
  have hl : lv_has ls 8 [(0, .ref (F 24)), (1, .int sx), (2, .int qx)] := hl
  refine lv_aload_n hx hb dX2_misfit_0 rfl (lv_at hl 0 rfl) ?_
  refine lv_iload_n hx hb dX2_misfit_1 rfl (lv_at hl 1 rfl) ?_
  by_cases h_sx : zin 0 7 sx
  ·
    obtain ⟨k_sx, hk_sx, he_sx⟩ := zin_nat (a := 7) h_sx
    refine zcallV (As := [.int sx]) (rest := []) (q := 24) (k := 1) hx hb hml hown hts (kX2_find_in l D cL cI cR A F hF T top Z sx k_sx hk_sx he_sx) gX2_misfit_X2_find rfl (by decide +kernel) ⟨Nat.le_of_ble_eq_true rfl, Nat.le_of_ble_eq_true rfl⟩ rfl (by omega) (zC_o) rfl rfl hAm hP hS rfl hl.1 rfl (Nat.le_of_ble_eq_true rfl) dX2_misfit_2 ⟨Nat.zero_le _, Nat.zero_le _⟩ (zkn (fun H locs hP hS => ?_))
    refine W.eq (g2 := F0 m 5 ls [.ref (F k_sx)]) rfl ?_
    refine lv_astore_n (lv' := [(3, .ref (F k_sx)), (0, .ref (F 24)), (1, .int sx), (2, .int qx)]) hx hb dX2_misfit_5 rfl hl (by decide) rfl (fun ls hl => ?_)
    refine lv_aload_n hx hb dX2_misfit_6 rfl (lv_at hl 0 rfl) ?_
    refine lv_ifnull hx hb dX2_misfit_7 ?_
    refine lv_iload_n hx hb dX2_misfit_10 rfl (lv_at hl 3 rfl) ?_
    refine lv_iconst (v := nI 0) hx hb dX2_misfit_11 (by decide +kernel) ?_
    refine lv_iconst (v := nI 4) hx hb dX2_misfit_12 (by decide +kernel) ?_
    by_cases h_qx : zin 0 4 qx
    ·
      refine zcallS (As := [.int qx, .int (nI 0), .int (nI 4)]) (rest := []) (k := 3) hx hb hml hown hts (kX2_isOutside l D cL cI cR A F 30 (zCE cL cR F T top Z) qx (nI 0) (nI 4) 0 (zo0 rfl rfl h_qx)) gX2_misfit_X2_isOutside rfl (by decide +kernel) ⟨Nat.le_of_ble_eq_true rfl, Nat.le_of_ble_eq_true rfl⟩ hAm hP hS rfl hl.1 rfl (Nat.le_of_ble_eq_true rfl) dX2_misfit_13 ⟨Nat.zero_le _, Nat.zero_le _⟩ (zkn (fun H locs hP hS => ?_))
      refine W.eq (g2 := F0 m 16 ls [.int (nI 0)]) rfl ?_
      refine zf_eq (tgt := 23) hx hb dX2_misfit_16 (by decide) (by omega) (fun c1 => ?_) (fun c1 => ?_)
      ·
        exact absurd ⟨h_sx, h_qx⟩ hbad
      ·
        exfalso; omega
    ·
      refine zcallS (As := [.int qx, .int (nI 0), .int (nI 4)]) (rest := []) (k := 3) hx hb hml hown hts (kX2_isOutside l D cL cI cR A F 30 (zCE cL cR F T top Z) qx (nI 0) (nI 4) 1 (zo1 rfl rfl h_qx)) gX2_misfit_X2_isOutside rfl (by decide +kernel) ⟨Nat.le_of_ble_eq_true rfl, Nat.le_of_ble_eq_true rfl⟩ hAm hP hS rfl hl.1 rfl (Nat.le_of_ble_eq_true rfl) dX2_misfit_13 ⟨Nat.zero_le _, Nat.zero_le _⟩ (zkn (fun H locs hP hS => ?_))
      refine W.eq (g2 := F0 m 16 ls [.int (nI 1)]) rfl ?_
      refine zf_eq (tgt := 23) hx hb dX2_misfit_16 (by decide) (by omega) (fun c2 => ?_) (fun c2 => ?_)
      ·
        exfalso; omega
      ·
        refine lv_ldc2 hx hb hown (hts (.constantLong RX2 50 (-9000000000000000001)) (by decide +kernel)) dX2_misfit_19 ?_
        exact zretL hx hb hr hlk hS hP dX2_misfit_22 ⟨T, top, Z, rfl, rfl, hTP, fun _ _ => rfl⟩
  ·
    refine zcallV (As := [.int sx]) (rest := []) (q := 24) (k := 1) hx hb hml hown hts (kX2_find_out l D cL cI cR A F hF T top Z sx h_sx) gX2_misfit_X2_find rfl (by decide +kernel) ⟨Nat.le_of_ble_eq_true rfl, Nat.le_of_ble_eq_true rfl⟩ rfl (by omega) (zC_o) rfl rfl hAm hP hS rfl hl.1 rfl (Nat.le_of_ble_eq_true rfl) dX2_misfit_2 ⟨Nat.zero_le _, Nat.zero_le _⟩ (zkn (fun H locs hP hS => ?_))
    refine W.eq (g2 := F0 m 5 ls [.null]) rfl ?_
    refine lv_astore_nN (lv' := [(3, .null), (0, .ref (F 24)), (1, .int sx), (2, .int qx)]) hx hb dX2_misfit_5 rfl hl (by decide) rfl (fun ls hl => ?_)
    refine lv_aload_nN hx hb dX2_misfit_6 rfl (lv_at hl 0 rfl) ?_
    refine lv_ifnullN (tgt := 19) hx hb dX2_misfit_7 (by decide) ?_
    refine lv_ldc2 hx hb hown (hts (.constantLong RX2 50 (-9000000000000000001)) (by decide +kernel)) dX2_misfit_19 ?_
    exact zretL hx hb hr hlk hS hP dX2_misfit_22 ⟨T, top, Z, rfl, rfl, hTP, fun _ _ => rfl⟩

set_option maxHeartbeats 4000000 in
set_option maxRecDepth 100000 in
theorem kX2_greatest_bad (l : Launch) (D : va_G) (cL cI cR : ClassId) (A : Nat → Prop) (F : Nat → Nat) (hF : zq_F A F 30) (T : Nat → Nat → Int64) (top : Nat → Nat) (Z : zZC) (P : Nat → Nat → Int64) (n0 : Nat → Nat) (hTP : ∀ i, i < 8 → T i = P i ∧ top i = n0 i) (sx : Int32) (hbad : ¬ (zin 0 7 sx)) : zCt l yX2_greatest wsX2_greatest 1 21 D cL cI cR A F 30 (zCE cL cR F T top Z) [.ref (F 24), .int sx] (zPC cL cR F (-9000000000000000001) P n0 Z.1) := by
  refine zStart (cc := cX2_greatest) (maxL := 8) (ret := (some .long)) (by decide +kernel) rfl (Nat.le_of_ble_eq_true rfl) ?_
  intro p e s m below meth c hx hb hr hml hlk hown hts hAm H hP hS ls hl
  have hown : s.vm.findClass RX2 = some m.cls := hown
  have hl : lv_has ls 8 [(0, .ref (F 24)), (1, .int sx)] := hl
  refine lv_aload_n hx hb dX2_greatest_0 rfl (lv_at hl 0 rfl) ?_
  refine lv_iload_n hx hb dX2_greatest_1 rfl (lv_at hl 1 rfl) ?_
  by_cases h_sx : zin 0 7 sx
  ·
    obtain ⟨k_sx, hk_sx, he_sx⟩ := zin_nat (a := 7) h_sx
    refine zcallV (As := [.int sx]) (rest := []) (q := 24) (k := 1) hx hb hml hown hts (kX2_find_in l D cL cI cR A F hF T top Z sx k_sx hk_sx he_sx) gX2_greatest_X2_find rfl (by decide +kernel) ⟨Nat.le_of_ble_eq_true rfl, Nat.le_of_ble_eq_true rfl⟩ rfl (by omega) (zC_o) rfl rfl hAm hP hS rfl hl.1 rfl (Nat.le_of_ble_eq_true rfl) dX2_greatest_2 ⟨Nat.zero_le _, Nat.zero_le _⟩ (zkn (fun H locs hP hS => ?_))
    refine W.eq (g2 := F0 m 5 ls [.ref (F k_sx)]) rfl ?_
    refine lv_astore_n (lv' := [(2, .ref (F k_sx)), (0, .ref (F 24)), (1, .int sx)]) hx hb dX2_greatest_5 rfl hl (by decide) rfl (fun ls hl => ?_)
    refine lv_aload_n hx hb dX2_greatest_6 rfl (lv_at hl 0 rfl) ?_
    refine lv_ifnonnull (tgt := 14) hx hb dX2_greatest_7 (by decide) ?_
    exact absurd h_sx hbad
  ·
    refine zcallV (As := [.int sx]) (rest := []) (q := 24) (k := 1) hx hb hml hown hts (kX2_find_out l D cL cI cR A F hF T top Z sx h_sx) gX2_greatest_X2_find rfl (by decide +kernel) ⟨Nat.le_of_ble_eq_true rfl, Nat.le_of_ble_eq_true rfl⟩ rfl (by omega) (zC_o) rfl rfl hAm hP hS rfl hl.1 rfl (Nat.le_of_ble_eq_true rfl) dX2_greatest_2 ⟨Nat.zero_le _, Nat.zero_le _⟩ (zkn (fun H locs hP hS => ?_))
    refine W.eq (g2 := F0 m 5 ls [.null]) rfl ?_
    refine lv_astore_nN (lv' := [(2, .null), (0, .ref (F 24)), (1, .int sx)]) hx hb dX2_greatest_5 rfl hl (by decide) rfl (fun ls hl => ?_)
    refine lv_aload_nN hx hb dX2_greatest_6 rfl (lv_at hl 0 rfl) ?_
    refine lv_ifnonnullN hx hb dX2_greatest_7 ?_
    refine lv_ldc2 hx hb hown (hts (.constantLong RX2 50 (-9000000000000000001)) (by decide +kernel)) dX2_greatest_10 ?_
    exact zretL hx hb hr hlk hS hP dX2_greatest_13 ⟨T, top, Z, rfl, rfl, hTP, fun _ _ => rfl⟩

set_option maxHeartbeats 4000000 in
set_option maxRecDepth 100000 in
theorem kX2_extremePoint_bad1 (l : Launch) (D : va_G) (cL cI cR : ClassId) (A : Nat → Prop) (F : Nat → Nat) (hF : zq_F A F 30) (T : Nat → Nat → Int64) (top : Nat → Nat) (Z : zZC) (P : Nat → Nat → Int64) (n0 : Nat → Nat) (hTP : ∀ i, i < 8 → T i = P i ∧ top i = n0 i) (qx jx : Int32) (hbad : ¬ zin 0 4 qx) : zCt l yX2_extremePoint wsX2_extremePoint 1 22 D cL cI cR A F 30 (zCE cL cR F T top Z) [.ref (F 24), .int qx, .int jx] (zPC cL cR F (-9000000000000000001) P n0 Z.1) := by
  refine zStart (cc := cX2_extremePoint) (maxL := 3) (ret := (some .long)) (by decide +kernel) rfl (Nat.le_of_ble_eq_true rfl) ?_
  intro p e s m below meth c hx hb hr hml hlk hown hts hAm H hP hS ls hl
  have hown : s.vm.findClass RX2 = some m.cls := hown
  have hl : lv_has ls 3 [(0, .ref (F 24)), (1, .int qx), (2, .int jx)] := hl
  refine lv_iload_n hx hb dX2_extremePoint_0 rfl (lv_at hl 1 rfl) ?_
  refine lv_iconst (v := nI 0) hx hb dX2_extremePoint_1 (by decide +kernel) ?_
  refine lv_iconst (v := nI 4) hx hb dX2_extremePoint_2 (by decide +kernel) ?_
  refine zcallS (As := [.int qx, .int (nI 0), .int (nI 4)]) (rest := []) (k := 3) hx hb hml hown hts (kX2_isOutside l D cL cI cR A F 30 (zCE cL cR F T top Z) qx (nI 0) (nI 4) 1 (zo1 rfl rfl hbad)) gX2_extremePoint_X2_isOutside rfl (by decide +kernel) ⟨Nat.le_of_ble_eq_true rfl, Nat.le_of_ble_eq_true rfl⟩ hAm hP hS rfl hl.1 rfl (Nat.le_of_ble_eq_true rfl) dX2_extremePoint_3 ⟨Nat.zero_le _, Nat.zero_le _⟩ (zkn (fun H locs hP hS => ?_))
  refine W.eq (g2 := F0 m 6 ls [.int (nI 1)]) rfl ?_
  refine zf_ne (tgt := 20) hx hb dX2_extremePoint_6 (by decide) (by omega) (fun c1 => ?_) (fun c1 => ?_)
  ·
    refine lv_ldc2 hx hb hown (hts (.constantLong RX2 50 (-9000000000000000001)) (by decide +kernel)) dX2_extremePoint_20 ?_
    exact zretL hx hb hr hlk hS hP dX2_extremePoint_23 ⟨T, top, Z, rfl, rfl, hTP, fun _ _ => rfl⟩
  ·
    exfalso; omega

set_option maxHeartbeats 4000000 in
set_option maxRecDepth 100000 in
theorem kX2_extremePoint_bad2 (l : Launch) (D : va_G) (cL cI cR : ClassId) (A : Nat → Prop) (F : Nat → Nat) (hF : zq_F A F 30) (T : Nat → Nat → Int64) (top : Nat → Nat) (Z : zZC) (P : Nat → Nat → Int64) (n0 : Nat → Nat) (hTP : ∀ i, i < 8 → T i = P i ∧ top i = n0 i) (q : Nat) (hq : q ≤ 4) (jx : Int32) (hbad : ¬ zin 0 (2 ^ q : Nat) jx) : zCt l yX2_extremePoint wsX2_extremePoint 1 22 D cL cI cR A F 30 (zCE cL cR F T top Z) [.ref (F 24), .int (nI q), .int jx] (zPC cL cR F (-9000000000000000001) P n0 Z.1) := by
  refine zStart (cc := cX2_extremePoint) (maxL := 3) (ret := (some .long)) (by decide +kernel) rfl (Nat.le_of_ble_eq_true rfl) ?_
  intro p e s m below meth c hx hb hr hml hlk hown hts hAm H hP hS ls hl
  have hown : s.vm.findClass RX2 = some m.cls := hown
  have hl : lv_has ls 3 [(0, .ref (F 24)), (1, .int (nI q)), (2, .int jx)] := hl
  have h2q := zp2 hq
  refine lv_iload_n hx hb dX2_extremePoint_0 rfl (lv_at hl 1 rfl) ?_
  refine lv_iconst (v := nI 0) hx hb dX2_extremePoint_1 (by decide +kernel) ?_
  refine lv_iconst (v := nI 4) hx hb dX2_extremePoint_2 (by decide +kernel) ?_
  refine zcallS (As := [.int (nI q), .int (nI 0), .int (nI 4)]) (rest := []) (k := 3) hx hb hml hown hts (kX2_isOutside l D cL cI cR A F 30 (zCE cL cR F T top Z) (nI q) (nI 0) (nI 4) 0 (zo0 rfl rfl (zin_nI (a := 4) (by omega) (by decide)))) gX2_extremePoint_X2_isOutside rfl (by decide +kernel) ⟨Nat.le_of_ble_eq_true rfl, Nat.le_of_ble_eq_true rfl⟩ hAm hP hS rfl hl.1 rfl (Nat.le_of_ble_eq_true rfl) dX2_extremePoint_3 ⟨Nat.zero_le _, Nat.zero_le _⟩ (zkn (fun H locs hP hS => ?_))
  refine W.eq (g2 := F0 m 6 ls [.int (nI 0)]) rfl ?_
  refine zf_ne (tgt := 20) hx hb dX2_extremePoint_6 (by decide) (by omega) (fun c1 => ?_) (fun c1 => ?_)
  ·
    exfalso; omega
  ·
    refine lv_iload_n hx hb dX2_extremePoint_9 rfl (lv_at hl 2 rfl) ?_
    refine lv_iconst (v := nI 0) hx hb dX2_extremePoint_10 (by decide +kernel) ?_
    refine lv_iconst (v := nI 1) hx hb dX2_extremePoint_11 (by decide +kernel) ?_
    refine lv_iload_n hx hb dX2_extremePoint_12 rfl (lv_at hl 1 rfl) ?_
    refine lv_ishl hx hb dX2_extremePoint_13 ?_
    refine W.eq (g2 := F0 m 14 ls [.int (nI (2 ^ q)), .int (nI 0), .int jx]) (by rw [zsh1 hq]) ?_
    refine zcallS (As := [.int jx, .int (nI 0), .int (nI (2 ^ q))]) (rest := []) (k := 3) hx hb hml hown hts (kX2_isOutside l D cL cI cR A F 30 (zCE cL cR F T top Z) jx (nI 0) (nI (2 ^ q)) 1 (zo1 rfl (nI_toInt (by omega)) hbad)) gX2_extremePoint_X2_isOutside rfl (by decide +kernel) ⟨Nat.le_of_ble_eq_true rfl, Nat.le_of_ble_eq_true rfl⟩ hAm hP hS rfl hl.1 rfl (Nat.le_of_ble_eq_true rfl) dX2_extremePoint_14 ⟨Nat.zero_le _, Nat.zero_le _⟩ (zkn (fun H locs hP hS => ?_))
    refine W.eq (g2 := F0 m 17 ls [.int (nI 1)]) rfl ?_
    refine zf_eq (tgt := 24) hx hb dX2_extremePoint_17 (by decide) (by omega) (fun c2 => ?_) (fun c2 => ?_)
    ·
      exfalso; omega
    ·
      refine lv_ldc2 hx hb hown (hts (.constantLong RX2 50 (-9000000000000000001)) (by decide +kernel)) dX2_extremePoint_20 ?_
      exact zretL hx hb hr hlk hS hP dX2_extremePoint_23 ⟨T, top, Z, rfl, rfl, hTP, fun _ _ => rfl⟩

set_option maxHeartbeats 4000000 in
set_option maxRecDepth 100000 in
theorem kX2_root_bad (l : Launch) (D : va_G) (cL cI cR : ClassId) (A : Nat → Prop) (F : Nat → Nat) (hF : zq_F A F 30) (T : Nat → Nat → Int64) (top : Nat → Nat) (Z : zZC) (P : Nat → Nat → Int64) (n0 : Nat → Nat) (hTP : ∀ i, i < 8 → T i = P i ∧ top i = n0 i) (sx ix : Int32) (hbad : ¬ (zin 0 7 sx ∧ -1 ≤ ix.toInt)) : zCt l yX2_root wsX2_root 1 21 D cL cI cR A F 30 (zCE cL cR F T top Z) [.ref (F 24), .int sx, .int ix] (zPC cL cR F (-9000000000000000001) P n0 Z.1) := by
  refine zStart (cc := cX2_root) (maxL := 4) (ret := (some .long)) (by decide +kernel) rfl (Nat.le_of_ble_eq_true rfl) ?_
  intro p e s m below meth c hx hb hr hml hlk hown hts hAm H hP hS ls hl
  have hown : s.vm.findClass RX2 = some m.cls := hown
  have hl : lv_has ls 4 [(0, .ref (F 24)), (1, .int sx), (2, .int ix)] := hl
  refine lv_aload_n hx hb dX2_root_0 rfl (lv_at hl 0 rfl) ?_
  refine lv_iload_n hx hb dX2_root_1 rfl (lv_at hl 1 rfl) ?_
  by_cases h_sx : zin 0 7 sx
  ·
    obtain ⟨k_sx, hk_sx, he_sx⟩ := zin_nat (a := 7) h_sx
    refine zcallV (As := [.int sx]) (rest := []) (q := 24) (k := 1) hx hb hml hown hts (kX2_find_in l D cL cI cR A F hF T top Z sx k_sx hk_sx he_sx) gX2_root_X2_find rfl (by decide +kernel) ⟨Nat.le_of_ble_eq_true rfl, Nat.le_of_ble_eq_true rfl⟩ rfl (by omega) (zC_o) rfl rfl hAm hP hS rfl hl.1 rfl (Nat.le_of_ble_eq_true rfl) dX2_root_2 ⟨Nat.zero_le _, Nat.zero_le _⟩ (zkn (fun H locs hP hS => ?_))
    refine W.eq (g2 := F0 m 5 ls [.ref (F k_sx)]) rfl ?_
    refine lv_astore_n (lv' := [(3, .ref (F k_sx)), (0, .ref (F 24)), (1, .int sx), (2, .int ix)]) hx hb dX2_root_5 rfl hl (by decide) rfl (fun ls hl => ?_)
    refine lv_aload_n hx hb dX2_root_6 rfl (lv_at hl 0 rfl) ?_
    refine lv_ifnull hx hb dX2_root_7 ?_
    refine lv_iload_n hx hb dX2_root_10 rfl (lv_at hl 3 rfl) ?_
    refine lv_iconst (v := (-1 : Int32)) hx hb dX2_root_11 (by decide +kernel) ?_
    refine lv_icmp_ge (tgt := 19) hx hb dX2_root_12 (by decide) (fun c1 => ?_) (fun c1 => ?_)
    ·
      exact absurd ⟨h_sx, by rw [Int32.le_iff_toInt_le] at c1; exact c1⟩ hbad
    ·
      refine lv_ldc2 hx hb hown (hts (.constantLong RX2 50 (-9000000000000000001)) (by decide +kernel)) dX2_root_15 ?_
      exact zretL hx hb hr hlk hS hP dX2_root_18 ⟨T, top, Z, rfl, rfl, hTP, fun _ _ => rfl⟩
  ·
    refine zcallV (As := [.int sx]) (rest := []) (q := 24) (k := 1) hx hb hml hown hts (kX2_find_out l D cL cI cR A F hF T top Z sx h_sx) gX2_root_X2_find rfl (by decide +kernel) ⟨Nat.le_of_ble_eq_true rfl, Nat.le_of_ble_eq_true rfl⟩ rfl (by omega) (zC_o) rfl rfl hAm hP hS rfl hl.1 rfl (Nat.le_of_ble_eq_true rfl) dX2_root_2 ⟨Nat.zero_le _, Nat.zero_le _⟩ (zkn (fun H locs hP hS => ?_))
    refine W.eq (g2 := F0 m 5 ls [.null]) rfl ?_
    refine lv_astore_nN (lv' := [(3, .null), (0, .ref (F 24)), (1, .int sx), (2, .int ix)]) hx hb dX2_root_5 rfl hl (by decide) rfl (fun ls hl => ?_)
    refine lv_aload_nN hx hb dX2_root_6 rfl (lv_at hl 0 rfl) ?_
    refine lv_ifnullN (tgt := 15) hx hb dX2_root_7 (by decide) ?_
    refine lv_ldc2 hx hb hown (hts (.constantLong RX2 50 (-9000000000000000001)) (by decide +kernel)) dX2_root_15 ?_
    exact zretL hx hb hr hlk hS hP dX2_root_18 ⟨T, top, Z, rfl, rfl, hTP, fun _ _ => rfl⟩
