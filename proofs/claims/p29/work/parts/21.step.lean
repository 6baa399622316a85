set_option maxHeartbeats 4000000 in
set_option maxRecDepth 100000 in
theorem kX2_makeStep_err (l : Launch) (D : va_G) (cL cI cR : ClassId) (A : Nat → Prop) (F : Nat → Nat) (hF : zq_F A F 30) (T : Nat → Nat → Int64) (top : Nat → Nat) (Z : zZC) (c0 : Int64) (fa : Int32) (fl : Int64) (hfl : fa.toInt64 = fl) (g : Nat) (hg : g < 8) (hng : top g ≤ 24) (hnb : top 10 ≤ 24) (he : ¬ zke (zprod (T g) (top g) (T 10) (top 10)) = 0) : zCt l yX2_makeStep wsX2_makeStep 3 79 D cL cI cR A F 30 (zCE cL cR F T top Z) [.ref (F 24), .long c0, .int fa, .ref (F g)] (fun v2 E2 => v2 = (some (.long (zke (zprod (T g) (top g) (T 10) (top 10))))) ∧ E2 = (zCE cL cR F (va_up T 9 (zprod (T g) (top g) (T 10) (top 10))) (va_up top 9 (ztop (zprod (T g) (top g) (T 10) (top 10)) 48)) Z)) := by
  refine zStart (cc := cX2_makeStep) (maxL := 7) (ret := (some .long)) (by decide +kernel) rfl (Nat.le_of_ble_eq_true rfl) ?_
  intro p e s m below meth c hx hb hr hml hlk hown hts hAm H hP hS ls hl
  have hown : s.vm.findClass RX2 = some m.cls := hown
  have hl : lv_has ls 7 [(0, .ref (F 24)), (1, .long c0), (3, .int fa), (4, .ref (F g))] := hl
  have hinX2 : ∀ w ∈ u_ws RX2 TX2 7, w ∈ wsX2_makeStep := by decide +kernel
  have h48 := ztop_le (zprod (T g) (top g) (T 10) (top 10)) 48
  refine lv_aload_n hx hb dX2_makeStep_0 rfl (lv_at hl 0 rfl) ?_
  refine zget (q := 24) (k := 4) (v := .ref (F 9)) hx hb hts hinX2 hown hAm hP (by omega) (zC_o) rfl (by decide) (hts (.fieldLink RX2 31 "CosineSeries" "product" "LCosineSeries$Series;") (by decide +kernel)) (by first | rfl | simp [va_up, *]) dX2_makeStep_1 ?_
  refine lv_aload hx hb dX2_makeStep_4 (lv_at hl 3 rfl) ?_
  refine lv_aload_n hx hb dX2_makeStep_6 rfl (lv_at hl 0 rfl) ?_
  refine zget (q := 24) (k := 5) (v := .ref (F 10)) hx hb hts hinX2 hown hAm hP (by omega) (zC_o) rfl (by decide) (hts (.fieldLink RX2 34 "CosineSeries" "last" "LCosineSeries$Series;") (by decide +kernel)) (by first | rfl | simp [va_up, *]) dX2_makeStep_7 ?_
  refine zcallV (As := [.ref (F g), .ref (F 10)]) (rest := []) (q := 9) (k := 2) hx hb hml hown hts (kX1_becomeProduct l D cL cI cR A F hF T top Z 9 (by omega) g (by omega) (by omega) 10 (by omega) (by omega) hng hnb (zprod (T g) (top g) (T 10) (top 10)) rfl) gX2_makeStep_X1_becomeProduct rfl (by decide +kernel) ⟨Nat.le_of_ble_eq_true rfl, Nat.le_of_ble_eq_true rfl⟩ rfl (by omega) (zC_s (by omega)) rfl rfl hAm hP hS rfl hl.1 rfl (Nat.le_of_ble_eq_true rfl) dX2_makeStep_10 ⟨Nat.zero_le _, Nat.zero_le _⟩ (zkn (fun H locs hP hS => ?_))
  refine W.eq (g2 := F0 m 13 ls []) rfl ?_
  refine lv_aload_n hx hb dX2_makeStep_13 rfl (lv_at hl 0 rfl) ?_
  refine zget (q := 24) (k := 4) (v := .ref (F 9)) hx hb hts hinX2 hown hAm hP (by omega) (zC_o) rfl (by decide) (hts (.fieldLink RX2 31 "CosineSeries" "product" "LCosineSeries$Series;") (by decide +kernel)) (by first | rfl | simp [va_up, *]) dX2_makeStep_14 ?_
  refine zcallV (As := []) (rest := []) (q := 9) (k := 0) hx hb hml hown hts (kX1_error l D cL cI cR A F hF (va_up T 9 (zprod (T g) (top g) (T 10) (top 10))) (va_up top 9 (ztop (zprod (T g) (top g) (T 10) (top 10)) 48)) Z 9 (by omega) (zprod (T g) (top g) (T 10) (top 10)) (va_up_eq _ _ _) (ztop (zprod (T g) (top g) (T 10) (top 10)) 48) (va_up_eq _ _ _) (by omega)) gX2_makeStep_X1_error rfl (by decide +kernel) ⟨Nat.le_of_ble_eq_true rfl, Nat.le_of_ble_eq_true rfl⟩ rfl (by omega) (zC_s (by omega)) rfl rfl hAm hP hS rfl hl.1 rfl (Nat.le_of_ble_eq_true rfl) dX2_makeStep_17 ⟨Nat.zero_le _, Nat.zero_le _⟩ (zkn (fun H locs hP hS => ?_))
  refine W.eq (g2 := F0 m 20 ls [.long (zke (zprod (T g) (top g) (T 10) (top 10)))]) rfl ?_
  refine lv_lstore (lv' := [(5, .long (zke (zprod (T g) (top g) (T 10) (top 10)))), (0, .ref (F 24)), (1, .long c0), (3, .int fa), (4, .ref (F g))]) hx hb dX2_makeStep_20 hl (by decide) rfl (fun ls hl => ?_)
  refine lv_lload hx hb dX2_makeStep_22 (lv_at hl 0 rfl) ?_
  refine lv_lconst (v := (0 : Int64)) hx hb dX2_makeStep_24 (by decide +kernel) ?_
  refine zl_eq (tgt := 32) hx hb dX2_makeStep_25 dX2_makeStep_26 (by decide) (fun c1 => ?_) (fun c1 => ?_)
  ·
    exact absurd c1 he
  ·
    refine lv_lload hx hb dX2_makeStep_29 (lv_at hl 0 rfl) ?_
    exact zretL hx hb hr hlk hS hP dX2_makeStep_31 ⟨rfl, rfl⟩

set_option maxHeartbeats 4000000 in
set_option maxRecDepth 100000 in
theorem kX2_makeStep_ok (l : Launch) (D : va_G) (cL cI cR : ClassId) (A : Nat → Prop) (F : Nat → Nat) (hF : zq_F A F 30) (T : Nat → Nat → Int64) (top : Nat → Nat) (Z : zZC) (c0 : Int64) (fa : Int32) (fl : Int64) (hfl : fa.toInt64 = fl) (g : Nat) (hg : g < 8) (hng : top g ≤ 24) (hnb : top 10 ≤ 24) (he : zke (zprod (T g) (top g) (T 10) (top 10)) = 0) : zCt l yX2_makeStep wsX2_makeStep 3 79 D cL cI cR A F 30 (zCE cL cR F T top Z) [.ref (F 24), .long c0, .int fa, .ref (F g)] (fun v2 E2 => v2 = (some (.long (zke (zst (zprod (T g) (top g) (T 10) (top 10)) (T 11) fl c0)))) ∧ E2 = (zCE cL cR F (va_up (va_up T 9 (zprod (T g) (top g) (T 10) (top 10))) 8 (zst (zprod (T g) (top g) (T 10) (top 10)) (T 11) fl c0)) (va_up (va_up top 9 (ztop (zprod (T g) (top g) (T 10) (top 10)) 48)) 8 (ztop (zst (zprod (T g) (top g) (T 10) (top 10)) (T 11) fl c0) 48)) Z)) := by
  refine zStart (cc := cX2_makeStep) (maxL := 7) (ret := (some .long)) (by decide +kernel) rfl (Nat.le_of_ble_eq_true rfl) ?_
  intro p e s m below meth c hx hb hr hml hlk hown hts hAm H hP hS ls hl
  have hown : s.vm.findClass RX2 = some m.cls := hown
  have hl : lv_has ls 7 [(0, .ref (F 24)), (1, .long c0), (3, .int fa), (4, .ref (F g))] := hl
  have hinX2 : ∀ w ∈ u_ws RX2 TX2 7, w ∈ wsX2_makeStep := by decide +kernel
  have h48 := ztop_le (zprod (T g) (top g) (T 10) (top 10)) 48
  have h49 := ztop_le (zst (zprod (T g) (top g) (T 10) (top 10)) (T 11) fl c0) 48
  refine lv_aload_n hx hb dX2_makeStep_0 rfl (lv_at hl 0 rfl) ?_
  refine zget (q := 24) (k := 4) (v := .ref (F 9)) hx hb hts hinX2 hown hAm hP (by omega) (zC_o) rfl (by decide) (hts (.fieldLink RX2 31 "CosineSeries" "product" "LCosineSeries$Series;") (by decide +kernel)) (by first | rfl | simp [va_up, *]) dX2_makeStep_1 ?_
  refine lv_aload hx hb dX2_makeStep_4 (lv_at hl 3 rfl) ?_
  refine lv_aload_n hx hb dX2_makeStep_6 rfl (lv_at hl 0 rfl) ?_
  refine zget (q := 24) (k := 5) (v := .ref (F 10)) hx hb hts hinX2 hown hAm hP (by omega) (zC_o) rfl (by decide) (hts (.fieldLink RX2 34 "CosineSeries" "last" "LCosineSeries$Series;") (by decide +kernel)) (by first | rfl | simp [va_up, *]) dX2_makeStep_7 ?_
  refine zcallV (As := [.ref (F g), .ref (F 10)]) (rest := []) (q := 9) (k := 2) hx hb hml hown hts (kX1_becomeProduct l D cL cI cR A F hF T top Z 9 (by omega) g (by omega) (by omega) 10 (by omega) (by omega) hng hnb (zprod (T g) (top g) (T 10) (top 10)) rfl) gX2_makeStep_X1_becomeProduct rfl (by decide +kernel) ⟨Nat.le_of_ble_eq_true rfl, Nat.le_of_ble_eq_true rfl⟩ rfl (by omega) (zC_s (by omega)) rfl rfl hAm hP hS rfl hl.1 rfl (Nat.le_of_ble_eq_true rfl) dX2_makeStep_10 ⟨Nat.zero_le _, Nat.zero_le _⟩ (zkn (fun H locs hP hS => ?_))
  refine W.eq (g2 := F0 m 13 ls []) rfl ?_
  refine lv_aload_n hx hb dX2_makeStep_13 rfl (lv_at hl 0 rfl) ?_
  refine zget (q := 24) (k := 4) (v := .ref (F 9)) hx hb hts hinX2 hown hAm hP (by omega) (zC_o) rfl (by decide) (hts (.fieldLink RX2 31 "CosineSeries" "product" "LCosineSeries$Series;") (by decide +kernel)) (by first | rfl | simp [va_up, *]) dX2_makeStep_14 ?_
  refine zcallV (As := []) (rest := []) (q := 9) (k := 0) hx hb hml hown hts (kX1_error l D cL cI cR A F hF (va_up T 9 (zprod (T g) (top g) (T 10) (top 10))) (va_up top 9 (ztop (zprod (T g) (top g) (T 10) (top 10)) 48)) Z 9 (by omega) (zprod (T g) (top g) (T 10) (top 10)) (va_up_eq _ _ _) (ztop (zprod (T g) (top g) (T 10) (top 10)) 48) (va_up_eq _ _ _) (by omega)) gX2_makeStep_X1_error rfl (by decide +kernel) ⟨Nat.le_of_ble_eq_true rfl, Nat.le_of_ble_eq_true rfl⟩ rfl (by omega) (zC_s (by omega)) rfl rfl hAm hP hS rfl hl.1 rfl (Nat.le_of_ble_eq_true rfl) dX2_makeStep_17 ⟨Nat.zero_le _, Nat.zero_le _⟩ (zkn (fun H locs hP hS => ?_))
  refine W.eq (g2 := F0 m 20 ls [.long (zke (zprod (T g) (top g) (T 10) (top 10)))]) rfl ?_
  refine lv_lstore (lv' := [(5, .long (zke (zprod (T g) (top g) (T 10) (top 10)))), (0, .ref (F 24)), (1, .long c0), (3, .int fa), (4, .ref (F g))]) hx hb dX2_makeStep_20 hl (by decide) rfl (fun ls hl => ?_)
  refine lv_lload hx hb dX2_makeStep_22 (lv_at hl 0 rfl) ?_
  refine lv_lconst (v := (0 : Int64)) hx hb dX2_makeStep_24 (by decide +kernel) ?_
  refine zl_eq (tgt := 32) hx hb dX2_makeStep_25 dX2_makeStep_26 (by decide) (fun c1 => ?_) (fun c1 => ?_)
  ·
    refine lv_aload_n hx hb dX2_makeStep_32 rfl (lv_at hl 1 rfl) ?_
    refine zget (q := 24) (k := 3) (v := .ref (F 8)) hx hb hts hinX2 hown hAm hP (by omega) (zC_o) rfl (by decide) (hts (.fieldLink RX2 27 "CosineSeries" "made" "LCosineSeries$Series;") (by decide +kernel)) (by first | rfl | simp [va_up, *]) dX2_makeStep_33 ?_
    refine lv_aload_n hx hb dX2_makeStep_36 rfl (lv_at hl 1 rfl) ?_
    refine zget (q := 24) (k := 4) (v := .ref (F 9)) hx hb hts hinX2 hown hAm hP (by omega) (zC_o) rfl (by decide) (hts (.fieldLink RX2 31 "CosineSeries" "product" "LCosineSeries$Series;") (by decide +kernel)) (by first | rfl | simp [va_up, *]) dX2_makeStep_37 ?_
    refine lv_iload_n hx hb dX2_makeStep_40 rfl (lv_at hl 3 rfl) ?_
    refine lv_aload_n hx hb dX2_makeStep_41 rfl (lv_at hl 1 rfl) ?_
    refine zget (q := 24) (k := 6) (v := .ref (F 11)) hx hb hts hinX2 hown hAm hP (by omega) (zC_o) rfl (by decide) (hts (.fieldLink RX2 37 "CosineSeries" "lastButOne" "LCosineSeries$Series;") (by decide +kernel)) (by first | rfl | simp [va_up, *]) dX2_makeStep_42 ?_
    refine lv_iconst (v := (-1 : Int32)) hx hb dX2_makeStep_45 (by decide +kernel) ?_
    refine zcallV (As := [.ref (F 9), .int fa, .ref (F 11), .int (-1 : Int32)]) (rest := []) (q := 8) (k := 4) hx hb hml hown hts (kX1_becomeSum l D cL cI cR A F hF (va_up T 9 (zprod (T g) (top g) (T 10) (top 10))) (va_up top 9 (ztop (zprod (T g) (top g) (T 10) (top 10)) 48)) Z 8 (by omega) 9 (by omega) (by omega) 11 (by omega) (by omega) fa (-1) (zprod (T g) (top g) (T 10) (top 10)) (T 11) (va_up_eq _ _ _) (zup8 _ _ (by omega)) (zsum fl (-1) (zprod (T g) (top g) (T 10) (top 10)) (T 11)) (by rw [hfl]; rfl)) gX2_makeStep_X1_becomeSum rfl (by decide +kernel) ⟨Nat.le_of_ble_eq_true rfl, Nat.le_of_ble_eq_true rfl⟩ rfl (by omega) (zC_s (by omega)) rfl rfl hAm hP hS rfl hl.1 rfl (Nat.le_of_ble_eq_true rfl) dX2_makeStep_46 ⟨Nat.zero_le _, Nat.zero_le _⟩ (zkn (fun H locs hP hS => ?_))
    refine W.eq (g2 := F0 m 49 ls []) rfl ?_
    refine lv_aload_n hx hb dX2_makeStep_49 rfl (lv_at hl 1 rfl) ?_
    refine zget (q := 24) (k := 3) (v := .ref (F 8)) hx hb hts hinX2 hown hAm hP (by omega) (zC_o) rfl (by decide) (hts (.fieldLink RX2 27 "CosineSeries" "made" "LCosineSeries$Series;") (by decide +kernel)) (by first | rfl | simp [va_up, *]) dX2_makeStep_50 ?_
    refine lv_iconst (v := nI 0) hx hb dX2_makeStep_53 (by decide +kernel) ?_
    refine lv_aload_n hx hb dX2_makeStep_54 rfl (lv_at hl 1 rfl) ?_
    refine zget (q := 24) (k := 3) (v := .ref (F 8)) hx hb hts hinX2 hown hAm hP (by omega) (zC_o) rfl (by decide) (hts (.fieldLink RX2 27 "CosineSeries" "made" "LCosineSeries$Series;") (by decide +kernel)) (by first | rfl | simp [va_up, *]) dX2_makeStep_55 ?_
    refine lv_iconst (v := nI 0) hx hb dX2_makeStep_58 (by decide +kernel) ?_
    refine zcallV (As := [.int (nI 0)]) (rest := [.int (nI 0), .ref (F 8)]) (q := 8) (k := 1) hx hb hml hown hts (kX1_at l D cL cI cR A F hF (va_up (va_up T 9 (zprod (T g) (top g) (T 10) (top 10))) 8 (zsum fl (-1) (zprod (T g) (top g) (T 10) (top 10)) (T 11))) (va_up (va_up top 9 (ztop (zprod (T g) (top g) (T 10) (top 10)) 48)) 8 (ztop (zsum fl (-1) (zprod (T g) (top g) (T 10) (top 10)) (T 11)) 48)) Z 8 (by omega) 0 (by omega) ((zsum fl (-1) (zprod (T g) (top g) (T 10) (top 10)) (T 11)) 0) (by first | rfl | simp [va_up, *])) gX2_makeStep_X1_at rfl (by decide +kernel) ⟨Nat.le_of_ble_eq_true rfl, Nat.le_of_ble_eq_true rfl⟩ rfl (by omega) (zC_s (by omega)) rfl rfl hAm hP hS rfl hl.1 rfl (Nat.le_of_ble_eq_true rfl) dX2_makeStep_59 ⟨Nat.zero_le _, Nat.zero_le _⟩ (zkn (fun H locs hP hS => ?_))
    refine W.eq (g2 := F0 m 62 ls [.long ((zsum fl (-1) (zprod (T g) (top g) (T 10) (top 10)) (T 11)) 0), .int (nI 0), .ref (F 8)]) rfl ?_
    refine lv_lload_n hx hb dX2_makeStep_62 rfl (lv_at hl 2 rfl) ?_
    refine lv_ladd hx hb dX2_makeStep_63 ?_
    refine zcallV (As := [.int (nI 0), .long (((zsum fl (-1) (zprod (T g) (top g) (T 10) (top 10)) (T 11)) 0) + c0)]) (rest := []) (q := 8) (k := 2) hx hb hml hown hts (kX1_put l D cL cI cR A F hF (va_up (va_up T 9 (zprod (T g) (top g) (T 10) (top 10))) 8 (zsum fl (-1) (zprod (T g) (top g) (T 10) (top 10)) (T 11))) (va_up (va_up top 9 (ztop (zprod (T g) (top g) (T 10) (top 10)) 48)) 8 (ztop (zsum fl (-1) (zprod (T g) (top g) (T 10) (top 10)) (T 11)) 48)) Z 8 (by omega) 0 (by omega) ((zsum fl (-1) (zprod (T g) (top g) (T 10) (top 10)) (T 11)) 0 + c0) (va_up (va_up T 9 (zprod (T g) (top g) (T 10) (top 10))) 8 (zst (zprod (T g) (top g) (T 10) (top 10)) (T 11) fl c0)) (by rw [bx_uu, va_up_eq]; rfl)) gX2_makeStep_X1_put rfl (by decide +kernel) ⟨Nat.le_of_ble_eq_true rfl, Nat.le_of_ble_eq_true rfl⟩ rfl (by omega) (zC_s (by omega)) rfl rfl hAm hP hS rfl hl.1 rfl (Nat.le_of_ble_eq_true rfl) dX2_makeStep_64 ⟨Nat.zero_le _, Nat.zero_le _⟩ (zkn (fun H locs hP hS => ?_))
    refine W.eq (g2 := F0 m 67 ls []) rfl ?_
    refine lv_aload_n hx hb dX2_makeStep_67 rfl (lv_at hl 1 rfl) ?_
    refine zget (q := 24) (k := 3) (v := .ref (F 8)) hx hb hts hinX2 hown hAm hP (by omega) (zC_o) rfl (by decide) (hts (.fieldLink RX2 27 "CosineSeries" "made" "LCosineSeries$Series;") (by decide +kernel)) (by first | rfl | simp [va_up, *]) dX2_makeStep_68 ?_
    refine zcallV (As := []) (rest := []) (q := 8) (k := 0) hx hb hml hown hts (kX1_trim l D cL cI cR A F hF (va_up (va_up T 9 (zprod (T g) (top g) (T 10) (top 10))) 8 (zst (zprod (T g) (top g) (T 10) (top 10)) (T 11) fl c0)) (va_up (va_up top 9 (ztop (zprod (T g) (top g) (T 10) (top 10)) 48)) 8 (ztop (zsum fl (-1) (zprod (T g) (top g) (T 10) (top 10)) (T 11)) 48)) Z 8 (by omega) (zst (zprod (T g) (top g) (T 10) (top 10)) (T 11) fl c0) (va_up_eq _ _ _) (va_up (va_up top 9 (ztop (zprod (T g) (top g) (T 10) (top 10)) 48)) 8 (ztop (zst (zprod (T g) (top g) (T 10) (top 10)) (T 11) fl c0) 48)) (by rw [bx_uu])) gX2_makeStep_X1_trim rfl (by decide +kernel) ⟨Nat.le_of_ble_eq_true rfl, Nat.le_of_ble_eq_true rfl⟩ rfl (by omega) (zC_s (by omega)) rfl rfl hAm hP hS rfl hl.1 rfl (Nat.le_of_ble_eq_true rfl) dX2_makeStep_71 ⟨Nat.zero_le _, Nat.zero_le _⟩ (zkn (fun H locs hP hS => ?_))
    refine W.eq (g2 := F0 m 74 ls []) rfl ?_
    refine lv_aload_n hx hb dX2_makeStep_74 rfl (lv_at hl 1 rfl) ?_
    refine zget (q := 24) (k := 3) (v := .ref (F 8)) hx hb hts hinX2 hown hAm hP (by omega) (zC_o) rfl (by decide) (hts (.fieldLink RX2 27 "CosineSeries" "made" "LCosineSeries$Series;") (by decide +kernel)) (by first | rfl | simp [va_up, *]) dX2_makeStep_75 ?_
    refine zcallV (As := []) (rest := []) (q := 8) (k := 0) hx hb hml hown hts (kX1_error l D cL cI cR A F hF (va_up (va_up T 9 (zprod (T g) (top g) (T 10) (top 10))) 8 (zst (zprod (T g) (top g) (T 10) (top 10)) (T 11) fl c0)) (va_up (va_up top 9 (ztop (zprod (T g) (top g) (T 10) (top 10)) 48)) 8 (ztop (zst (zprod (T g) (top g) (T 10) (top 10)) (T 11) fl c0) 48)) Z 8 (by omega) (zst (zprod (T g) (top g) (T 10) (top 10)) (T 11) fl c0) (va_up_eq _ _ _) (ztop (zst (zprod (T g) (top g) (T 10) (top 10)) (T 11) fl c0) 48) (va_up_eq _ _ _) (by omega)) gX2_makeStep_X1_error rfl (by decide +kernel) ⟨Nat.le_of_ble_eq_true rfl, Nat.le_of_ble_eq_true rfl⟩ rfl (by omega) (zC_s (by omega)) rfl rfl hAm hP hS rfl hl.1 rfl (Nat.le_of_ble_eq_true rfl) dX2_makeStep_78 ⟨Nat.zero_le _, Nat.zero_le _⟩ (zkn (fun H locs hP hS => ?_))
    refine W.eq (g2 := F0 m 81 ls [.long (zke (zst (zprod (T g) (top g) (T 10) (top 10)) (T 11) fl c0))]) rfl ?_
    exact zretL hx hb hr hlk hS hP dX2_makeStep_81 ⟨rfl, rfl⟩
  ·
    exact absurd he c1
