/-! the reference: composition -/
theorem zcomp_step {cf cg : Nat → Int64} {ng k : Nat} {b : Nat → Int64} {nb : Nat} {d pl f : Nat → Int64} (hpl : pl = zprod cg ng b nb) (hf : f = zst pl d (if k = 0 then 1 else 2) (cf k)) : (¬ zste pl f = 0 → zcomp cf cg ng k b nb d = (zste pl f, f)) ∧ (zste pl f = 0 → (k = 0 → zcomp cf cg ng k b nb d = (0, f)) ∧ ∀ k2, k = k2 + 1 → zcomp cf cg ng k2 f (ztop f 48) b = zcomp cf cg ng k b nb d) := by
  subst hpl
  cases k with
  | zero =>
    rw [if_pos rfl] at hf
    subst hf
    exact ⟨fun _ => rfl, fun h => ⟨fun _ => by rw [zcomp, h], fun k2 h2 => absurd h2 (by omega)⟩⟩
  | succ k =>
    rw [if_neg (Nat.succ_ne_zero k)] at hf
    subst hf
    refine ⟨fun h => by rw [zcomp, if_neg h], fun h => ⟨fun h2 => absurd h2 (Nat.succ_ne_zero k), fun k2 h2 => ?_⟩⟩
    obtain rfl : k = k2 := by omega
    rw [zcomp, if_pos h]
theorem zst_0 {cg b d : Nat → Int64} {ng nb nd : Nat} {fa c : Int64} (h1 : ng ≤ 24) (h2 : nb ≤ 24) (h3 : nd ≤ 24) (hd : ∀ j, nd < j → d j = 0) : ∀ j, 48 < j → zst (zprod cg ng b nb) d fa c j = 0 := by
  intro j hj
  unfold zst vp_updL zsum
  rw [if_neg (by omega), zprod_0 (by omega), hd j (by omega), Int64.mul_zero, Int64.mul_zero, Int64.add_zero]
theorem zst_t {cg b d f : Nat → Int64} {ng nb nd : Nat} {fa c : Int64} (h1 : ng ≤ 24) (h2 : nb ≤ 24) (h3 : nd ≤ 24) (hd : ∀ j, nd < j → d j = 0) (hf : f = zst (zprod cg ng b nb) d fa c) : ∀ j, ztop f 48 < j → f j = 0 := by
  intro j hj
  rcases Nat.lt_or_ge 48 j with h | h
  · rw [hf]; exact zst_0 h1 h2 h3 hd j h
  · exact ztop_above j hj h
theorem zcomp_end {P : Nat → Nat → Int64} {n : Nat → Nat} {t : Nat} {q : Int64 × (Nat → Int64)} {c : Nat → Int64} (h : q = (0, c)) (hk : zke c = 0) : (if q.1 = 0 then zkr q.2 else q.1) = lN (ztop c 48) ∧ (if q.1 = 0 then zkP P t q.2 else P) = va_up P t c ∧ (if q.1 = 0 then zkN n t q.2 else n) = va_up n t (ztop c 48) := by
  subst h
  simp [zkr, zkP, zkN, hk]
theorem zdecr {k : Nat} (h : k ≤ 24) : nI k + Int32.ofInt (-1) = if k = 0 then -1 else nI (k - 1) := by
  cases k with
  | zero => decide
  | succ k =>
    rw [if_neg (Nat.succ_ne_zero k)]
    have h1 : ∀ k, k < 25 → nI (k + 1) + Int32.ofInt (-1) = nI k := by decide +kernel
    exact h1 k (by omega)

set_option maxHeartbeats 4000000 in
set_option maxRecDepth 100000 in
theorem kX3_compose (l : Launch) (D : va_G) (cL cI cR : ClassId) (A : Nat → Prop) (F : Nat → Nat) (hF : zq_F A F 7) (C : Nat → Nat → Int64) (dg : Nat → Nat) (Y : zZM) (P : Nat → Nat → Int64) (n0 : Nat → Nat) (hCP : ∀ i, i < 8 → C i = P i ∧ dg i = n0 i) (h24 : ∀ i, i < 8 → n0 i ≤ 24) (hzz : ∀ i, i < 8 → ∀ j, n0 i < j → P i j = 0) (a : Nat) (ha : a ≤ 7) (b : Nat) (hb : b ≤ 7) (t : Nat) (ht : t ≤ 7) : zCt l yX3_compose wsX3_compose 4 101 D cL cI cR A F 7 (zME cL cI F C dg Y) [.ref (F 0), .int (nI a), .int (nI b), .int (nI t)] (zPM cL cI F (if (zcomp (P a) (P b) (n0 b) (n0 a) (fun _ => 0) 0 (fun _ => 0)).1 = 0 then zkr (zcomp (P a) (P b) (n0 b) (n0 a) (fun _ => 0) 0 (fun _ => 0)).2 else (zcomp (P a) (P b) (n0 b) (n0 a) (fun _ => 0) 0 (fun _ => 0)).1) (if (zcomp (P a) (P b) (n0 b) (n0 a) (fun _ => 0) 0 (fun _ => 0)).1 = 0 then zkP P t (zcomp (P a) (P b) (n0 b) (n0 a) (fun _ => 0) 0 (fun _ => 0)).2 else P) (if (zcomp (P a) (P b) (n0 b) (n0 a) (fun _ => 0) 0 (fun _ => 0)).1 = 0 then zkN n0 t (zcomp (P a) (P b) (n0 b) (n0 a) (fun _ => 0) 0 (fun _ => 0)).2 else n0) Y.1) := by
  refine zStart (cc := cX3_compose) (maxL := 7) (ret := (some .long)) (by decide +kernel) rfl (Nat.le_of_ble_eq_true rfl) ?_
  intro p e s m below meth c hx hb hr hml hlk hown hts hAm H hP hS ls hl
  have hown : s.vm.findClass RX3 = some m.cls := hown
  have hl : lv_has ls 7 [(0, .ref (F 0)), (1, .int (nI a)), (2, .int (nI b)), (3, .int (nI t))] := hl
  have hinX3 : ∀ w ∈ u_ws RX3 TX3 8, w ∈ wsX3_compose := by decide +kernel
  obtain ⟨hCa, hNa⟩ := hCP a (by omega)
  have h24a : dg a ≤ 24 := by rw [hNa]; exact h24 a (by omega)
  have hza : ∀ j, dg a < j → C a j = 0 := fun j hj => by rw [hCa]; exact hzz a (by omega) j (by rw [← hNa]; exact hj)
  obtain ⟨hCb, hNb⟩ := hCP b (by omega)
  have h24b : dg b ≤ 24 := by rw [hNb]; exact h24 b (by omega)
  have hzb : ∀ j, dg b < j → C b j = 0 := fun j hj => by rw [hCb]; exact hzz b (by omega) j (by rw [← hNb]; exact hj)
  obtain ⟨hCt, hNt⟩ := hCP t (by omega)
  have h24t : dg t ≤ 24 := by rw [hNt]; exact h24 t (by omega)
  have hzt : ∀ j, dg t < j → C t j = 0 := fun j hj => by rw [hCt]; exact hzz t (by omega) j (by rw [← hNt]; exact hj)
  have ha9 : ¬ a = 9 := by omega
  have ha10 : ¬ a = 10 := by omega
  obtain ⟨rz, hrz⟩ : ∃ q : Int64 × (Nat → Int64), q = (zcomp (C a) (C b) (dg b) (dg a) (fun _ => 0) 0 (fun _ => 0)) := ⟨_, rfl⟩
  have hrzP : rz = (zcomp (P a) (P b) (n0 b) (n0 a) (fun _ => 0) 0 (fun _ => 0)) := by rw [hrz, hCa, hCb, hNa, hNb]
  refine lv_iload_n hx hb dX3_compose_0 rfl (lv_at hl 1 rfl) ?_
  refine zcallS (As := [.int (nI a)]) (rest := []) (k := 1) hx hb hml hown hts (kX3_isSeries l D cL cI cR A F 7 (zME cL cI F C dg Y) (nI a) 1 (if_pos (zin_nI (a := 7) (by omega) (by decide))).symm) gX3_compose_X3_isSeries rfl (by decide +kernel) ⟨Nat.le_of_ble_eq_true rfl, Nat.le_of_ble_eq_true rfl⟩ hAm hP hS rfl hl.1 rfl (Nat.le_of_ble_eq_true rfl) dX3_compose_1 ⟨Nat.zero_le _, Nat.zero_le _⟩ (zkn (fun H locs hP hS => ?_))
  refine W.eq (g2 := F0 m 4 ls [.int (nI 1)]) rfl ?_
  refine zf_eq (tgt := 21) hx hb dX3_compose_4 (by decide) (by omega) (fun c1 => ?_) (fun c1 => ?_)
  ·
    exfalso; omega
  ·
    refine lv_iload_n hx hb dX3_compose_7 rfl (lv_at hl 2 rfl) ?_
    refine zcallS (As := [.int (nI b)]) (rest := []) (k := 1) hx hb hml hown hts (kX3_isSeries l D cL cI cR A F 7 (zME cL cI F C dg Y) (nI b) 1 (if_pos (zin_nI (a := 7) (by omega) (by decide))).symm) gX3_compose_X3_isSeries rfl (by decide +kernel) ⟨Nat.le_of_ble_eq_true rfl, Nat.le_of_ble_eq_true rfl⟩ hAm hP hS rfl hl.1 rfl (Nat.le_of_ble_eq_true rfl) dX3_compose_8 ⟨Nat.zero_le _, Nat.zero_le _⟩ (zkn (fun H locs hP hS => ?_))
    refine W.eq (g2 := F0 m 11 ls [.int (nI 1)]) rfl ?_
    refine zf_eq (tgt := 21) hx hb dX3_compose_11 (by decide) (by omega) (fun c2 => ?_) (fun c2 => ?_)
    ·
      exfalso; omega
    ·
      refine lv_iload_n hx hb dX3_compose_14 rfl (lv_at hl 3 rfl) ?_
      refine zcallS (As := [.int (nI t)]) (rest := []) (k := 1) hx hb hml hown hts (kX3_isSeries l D cL cI cR A F 7 (zME cL cI F C dg Y) (nI t) 1 (if_pos (zin_nI (a := 7) (by omega) (by decide))).symm) gX3_compose_X3_isSeries rfl (by decide +kernel) ⟨Nat.le_of_ble_eq_true rfl, Nat.le_of_ble_eq_true rfl⟩ hAm hP hS rfl hl.1 rfl (Nat.le_of_ble_eq_true rfl) dX3_compose_15 ⟨Nat.zero_le _, Nat.zero_le _⟩ (zkn (fun H locs hP hS => ?_))
      refine W.eq (g2 := F0 m 18 ls [.int (nI 1)]) rfl ?_
      refine zf_ne (tgt := 25) hx hb dX3_compose_18 (by decide) (by omega) (fun c3 => ?_) (fun c3 => ?_)
      ·
        refine lv_aload_n hx hb dX3_compose_25 rfl (lv_at hl 0 rfl) ?_
        refine lv_bipush (v := nI 9) hx hb dX3_compose_26 (by decide +kernel) ?_
        refine lv_iconst (v := nI 0) hx hb dX3_compose_28 (by decide +kernel) ?_
        refine zcallV (As := [.int (nI 9), .int (nI 0)]) (rest := []) (q := 0) (k := 2) hx hb hml hown hts (kX3_clears l D cL cI cR A F hF C dg Y 9 (by omega) 0 (by omega)) gX3_compose_X3_clears rfl (by decide +kernel) ⟨Nat.le_of_ble_eq_true rfl, Nat.le_of_ble_eq_true rfl⟩ rfl (by omega) (zM_o) rfl rfl hAm hP hS rfl hl.1 rfl (Nat.le_of_ble_eq_true rfl) dX3_compose_29 ⟨Nat.zero_le _, Nat.zero_le _⟩ (zkn (fun H locs hP hS => ?_))
        refine W.eq (g2 := F0 m 32 ls []) rfl ?_
        refine lv_aload_n hx hb dX3_compose_32 rfl (lv_at hl 0 rfl) ?_
        refine lv_bipush (v := nI 10) hx hb dX3_compose_33 (by decide +kernel) ?_
        refine lv_iconst (v := nI 0) hx hb dX3_compose_35 (by decide +kernel) ?_
        refine zcallV (As := [.int (nI 10), .int (nI 0)]) (rest := []) (q := 0) (k := 2) hx hb hml hown hts (kX3_clears l D cL cI cR A F hF (va_up C 9 (fun _ => 0)) (va_up dg 9 0) Y 10 (by omega) 0 (by omega)) gX3_compose_X3_clears rfl (by decide +kernel) ⟨Nat.le_of_ble_eq_true rfl, Nat.le_of_ble_eq_true rfl⟩ rfl (by omega) (zM_o) rfl rfl hAm hP hS rfl hl.1 rfl (Nat.le_of_ble_eq_true rfl) dX3_compose_36 ⟨Nat.zero_le _, Nat.zero_le _⟩ (zkn (fun H locs hP hS => ?_))
        refine W.eq (g2 := F0 m 39 ls []) rfl ?_
        refine lv_aload_n hx hb dX3_compose_39 rfl (lv_at hl 0 rfl) ?_
        refine zget (q := 0) (k := 1) (v := .ref (F 2)) hx hb hts hinX3 hown hAm hP (by omega) (zM_o) rfl (by decide) (hts (.fieldLink RX3 13 "CosineSeriesModel" "degrees" "[I") (by decide +kernel)) (by first | rfl | simp [va_up, *]) dX3_compose_40 ?_
        refine lv_iload_n hx hb dX3_compose_43 rfl (lv_at hl 1 rfl) ?_
        refine ziald (q := 2) (k := a) (v := (nI (dg a))) hx hb hAm hP (by omega) (zM_d) (by omega) (by decide) (by first | rfl | simp [va_up, *]) dX3_compose_44 ?_
        refine lv_istore (lv' := [(4, .int (nI (dg a))), (0, .ref (F 0)), (1, .int (nI a)), (2, .int (nI b)), (3, .int (nI t))]) hx hb dX3_compose_45 hl (by decide) rfl (fun ls hl => ?_)
        have L47 : ∀ (n : Nat) (k1 : Nat) (x4 : Int32) (Cc : Nat → Nat → Int64) (nc : Nat → Nat) (hk1 : k1 ≤ 25) (hx4 : x4 = if k1 = 0 then -1 else nI (k1 - 1)) (hCc : ∀ i, i < 8 → Cc i = C i ∧ nc i = dg i) (hnn : nc 9 ≤ 24 ∧ nc 10 ≤ 24) (hz : (∀ j, nc 9 < j → Cc 9 j = 0) ∧ ∀ j, nc 10 < j → Cc 10 j = 0) (h0 : k1 = 0 → rz = (0, Cc 9) ∧ zke (Cc 9) = 0 ∧ nc 9 = ztop (Cc 9) 48) (hres : ∀ k, k1 = k + 1 → zcomp (C a) (C b) (dg b) k (Cc 9) (nc 9) (Cc 10) = rz) (hn : k1 < n) (H : Heap) (locs : List Loc), va_P D vwCl (zq_wd F 7 (zME cL cI F Cc nc Y)) H → va_S A s.heap H locs → ∀ (ls : Array Slot), lv_has ls 7 [(0, .ref (F 0)), (1, .int (nI a)), (2, .int (nI b)), (3, .int (nI t)), (4, .int x4)] → W p l e ({ frames := 4, cells := 0, slots := 0, locals := 101 }) s m ([.ref (F 0), .int (nI a), .int (nI b), .int (nI t)] : List Value).toArray below meth c H locs 0 0 (zQ below D A F 7 [.ref (F 0), .int (nI a), .int (nI b), .int (nI t)] s (zPM cL cI F (if (zcomp (P a) (P b) (n0 b) (n0 a) (fun _ => 0) 0 (fun _ => 0)).1 = 0 then zkr (zcomp (P a) (P b) (n0 b) (n0 a) (fun _ => 0) 0 (fun _ => 0)).2 else (zcomp (P a) (P b) (n0 b) (n0 a) (fun _ => 0) 0 (fun _ => 0)).1) (if (zcomp (P a) (P b) (n0 b) (n0 a) (fun _ => 0) 0 (fun _ => 0)).1 = 0 then zkP P t (zcomp (P a) (P b) (n0 b) (n0 a) (fun _ => 0) 0 (fun _ => 0)).2 else P) (if (zcomp (P a) (P b) (n0 b) (n0 a) (fun _ => 0) 0 (fun _ => 0)).1 = 0 then zkN n0 t (zcomp (P a) (P b) (n0 b) (n0 a) (fun _ => 0) 0 (fun _ => 0)).2 else n0) Y.1)) (F0 m 47 ls []) := by
          intro n
          induction n with
          | zero =>
            intro k1 x4 Cc nc hk1 hx4 hCc hnn hz h0 hres hn
            exact absurd hn (Nat.not_lt_zero _)
          | succ n ih47 =>
            intro k1 x4 Cc nc hk1 hx4 hCc hnn hz h0 hres hn H locs hP hS ls hl
            refine lv_iload hx hb dX3_compose_47 (lv_at hl 4 rfl) ?_
            by_cases hk0 : k1 = 0
            ·
              have hx40 : x4 = -1 := by rw [hx4, if_pos hk0]
              obtain ⟨hrc, hzc, htc⟩ := h0 hk0
              have hend := fun P n => zcomp_end (P := P) (n := n) (t := t) hrc hzc
              refine W.eq (g2 := F0 m 49 ls [.int (-1)]) (by rw [hx40]) ?_
              have hl : lv_has ls 7 [(0, .ref (F 0)), (1, .int (nI a)), (2, .int (nI b)), (3, .int (nI t)), (4, .int (-1))] := by rw [← hx40]; exact hl
              refine lv_if_lt (tgt := 108) hx hb dX3_compose_49 (by decide) (fun c4 => ?_) (fun c4 => ?_)
              ·
                refine lv_aload_n hx hb dX3_compose_108 rfl (lv_at hl 0 rfl) ?_
                refine lv_bipush (v := nI 9) hx hb dX3_compose_109 (by decide +kernel) ?_
                refine lv_iload_n hx hb dX3_compose_111 rfl (lv_at hl 3 rfl) ?_
                refine zcallV (As := [.int (nI 9), .int (nI t)]) (rest := []) (q := 0) (k := 2) hx hb hml hown hts (kX3_copies l D cL cI cR A F hF Cc nc Y 9 (by omega) t (by omega) (Cc 9) rfl (nc 9) rfl (by omega)) gX3_compose_X3_copies rfl (by decide +kernel) ⟨Nat.le_of_ble_eq_true rfl, Nat.le_of_ble_eq_true rfl⟩ rfl (by omega) (zM_o) rfl rfl hAm hP hS rfl hl.1 rfl (Nat.le_of_ble_eq_true rfl) dX3_compose_112 ⟨Nat.zero_le _, Nat.zero_le _⟩ (zkn (fun H locs hP hS => ?_))
                refine W.eq (g2 := F0 m 115 ls []) rfl ?_
                refine lv_aload_n hx hb dX3_compose_115 rfl (lv_at hl 0 rfl) ?_
                refine zget (q := 0) (k := 1) (v := .ref (F 2)) hx hb hts hinX3 hown hAm hP (by omega) (zM_o) rfl (by decide) (hts (.fieldLink RX3 13 "CosineSeriesModel" "degrees" "[I") (by decide +kernel)) (by first | rfl | simp [va_up, *]) dX3_compose_116 ?_
                refine lv_iload_n hx hb dX3_compose_119 rfl (lv_at hl 3 rfl) ?_
                refine ziald (q := 2) (k := t) (v := (nI (nc 9))) hx hb hAm hP (by omega) (zM_d) (by omega) (by decide) (by first | rfl | simp [va_up, *]) dX3_compose_120 ?_
                refine zi2l hx hb (by omega) dX3_compose_121 ?_
                exact zretL hx hb hr hlk hS hP dX3_compose_122 ⟨_, _, _, rfl, by rw [← hrzP, (hend P n0).1, ← htc], fun i hi => by rw [← hrzP, (hend P n0).2.1, (hend P n0).2.2, ← htc]; exact zend_up (fun i hi => ⟨(hCc i hi).1.trans (hCP i hi).1, (hCc i hi).2.trans (hCP i hi).2⟩) rfl rfl i hi, fun _ _ => rfl⟩
              ·
                exact absurd (by decide) c4
            ·
              obtain ⟨k, rfl⟩ : ∃ j, k1 = j + 1 := ⟨k1 - 1, by omega⟩
              have hx41 : x4 = nI k := by rw [hx4, if_neg (by omega)]; rfl
              obtain ⟨pl, hpl⟩ : ∃ z : Nat → Int64, z = zprod (C b) (dg b) (Cc 9) (nc 9) := ⟨_, rfl⟩
              obtain ⟨f, hf⟩ : ∃ z : Nat → Int64, z = zst pl (Cc 10) (if k = 0 then 1 else 2) (C a k) := ⟨_, rfl⟩
              have hst := zcomp_step (cf := C a) hpl hf
              rw [hres k rfl] at hst
              have hfz : ∀ j, ztop f 48 < j → f j = 0 := zst_t h24b hnn.1 hnn.2 hz.2 (by rw [← hpl]; exact hf)
              refine W.eq (g2 := F0 m 49 ls [.int (nI k)]) (by rw [hx41]) ?_
              have hl : lv_has ls 7 [(0, .ref (F 0)), (1, .int (nI a)), (2, .int (nI b)), (3, .int (nI t)), (4, .int (nI k))] := by rw [← hx41]; exact hl
              refine zf_lt (tgt := 108) hx hb dX3_compose_49 (by decide) (by omega) ?_
              refine lv_aload_n hx hb dX3_compose_52 rfl (lv_at hl 0 rfl) ?_
              refine lv_iload_n hx hb dX3_compose_53 rfl (lv_at hl 2 rfl) ?_
              refine lv_iload hx hb dX3_compose_54 (lv_at hl 4 rfl) ?_
              refine zf_le (tgt := 63) hx hb dX3_compose_56 (by decide) (by omega) (fun c5 => ?_) (fun c5 => ?_)
              ·
                have hk00 : k = 0 := by have h := c5; omega
                refine lv_iconst (v := nI 1) hx hb dX3_compose_63 (by decide +kernel) ?_
                refine lv_aload_n hx hb dX3_compose_64 rfl (lv_at hl 0 rfl) ?_
                refine lv_iload_n hx hb dX3_compose_65 rfl (lv_at hl 1 rfl) ?_
                refine lv_iload hx hb dX3_compose_66 (lv_at hl 4 rfl) ?_
                refine zcallV (As := [.int (nI a), .int (nI k)]) (rest := [.int (nI 1), .int (nI b), .ref (F 0)]) (q := 0) (k := 2) hx hb hml hown hts (kX3_of l D cL cI cR A F hF Cc nc Y a (by omega) k (by omega) (C a k) (by rw [(hCc a (by omega)).1])) gX3_compose_X3_of rfl (by decide +kernel) ⟨Nat.le_of_ble_eq_true rfl, Nat.le_of_ble_eq_true rfl⟩ rfl (by omega) (zM_o) rfl rfl hAm hP hS rfl hl.1 rfl (Nat.le_of_ble_eq_true rfl) dX3_compose_68 ⟨Nat.zero_le _, Nat.zero_le _⟩ (zkn (fun H locs hP hS => ?_))
                refine W.eq (g2 := F0 m 71 ls [.long (C a k), .int (nI 1), .int (nI b), .ref (F 0)]) rfl ?_
                by_cases hke : zke pl = 0
                ·
                  have hste : zste pl f = zke f := by unfold zste; rw [if_pos hke]
                  refine zcallV (As := [.int (nI b), .int (nI 1), .long (C a k)]) (rest := []) (q := 0) (k := 3) hx hb hml hown hts (kX3_goes_ok l D cL cI cR A F hF Cc nc Y b (by omega) (nI 1) 1 (by decide) (C a k) (by rw [(hCc b (by omega)).2]; exact h24b) hnn.1 pl (by rw [(hCc b (by omega)).1, (hCc b (by omega)).2]; exact hpl) hnn.2 hz.2 hke f (by rw [hf, if_pos hk00])) gX3_compose_X3_goes rfl (by decide +kernel) ⟨Nat.le_of_ble_eq_true rfl, Nat.le_of_ble_eq_true rfl⟩ rfl (by omega) (zM_o) rfl rfl hAm hP hS rfl hl.1 rfl (Nat.le_of_ble_eq_true rfl) dX3_compose_71 ⟨Nat.zero_le _, Nat.zero_le _⟩ (zkn (fun H locs hP hS => ?_))
                  refine W.eq (g2 := F0 m 74 ls [.long (zke f)]) rfl ?_
                  refine lv_lstore (lv' := [(5, .long (zke f)), (0, .ref (F 0)), (1, .int (nI a)), (2, .int (nI b)), (3, .int (nI t)), (4, .int (nI k))]) hx hb dX3_compose_74 hl (by decide) rfl (fun ls hl => ?_)
                  refine lv_lload hx hb dX3_compose_76 (lv_at hl 0 rfl) ?_
                  refine lv_lconst (v := (0 : Int64)) hx hb dX3_compose_78 (by decide +kernel) ?_
                  refine zl_eq (tgt := 86) hx hb dX3_compose_79 dX3_compose_80 (by decide) (fun c6 => ?_) (fun c6 => ?_)
                  ·
                    have hzf : zke f = 0 := by assumption
                    obtain ⟨hs0, hsk⟩ := hst.2 (hste.trans hzf)
                    have htf := zke_24 hzf
                    refine lv_aload_n hx hb dX3_compose_86 rfl (lv_at hl 1 rfl) ?_
                    refine lv_bipush (v := nI 9) hx hb dX3_compose_87 (by decide +kernel) ?_
                    refine lv_bipush (v := nI 10) hx hb dX3_compose_89 (by decide +kernel) ?_
                    refine zcallV (As := [.int (nI 9), .int (nI 10)]) (rest := []) (q := 0) (k := 2) hx hb hml hown hts (kX3_copies l D cL cI cR A F hF (va_up (va_up Cc 8 pl) 11 f) (va_up (va_up nc 8 (ztop pl 48)) 11 (ztop f 48)) Y 9 (by omega) 10 (by omega) (Cc 9) (by simp [va_up]) (nc 9) (by simp [va_up]) (by omega)) gX3_compose_X3_copies rfl (by decide +kernel) ⟨Nat.le_of_ble_eq_true rfl, Nat.le_of_ble_eq_true rfl⟩ rfl (by omega) (zM_o) rfl rfl hAm hP hS rfl hl.1 rfl (Nat.le_of_ble_eq_true rfl) dX3_compose_91 ⟨Nat.zero_le _, Nat.zero_le _⟩ (zkn (fun H locs hP hS => ?_))
                    refine W.eq (g2 := F0 m 94 ls []) rfl ?_
                    refine lv_aload_n hx hb dX3_compose_94 rfl (lv_at hl 1 rfl) ?_
                    refine lv_bipush (v := nI 11) hx hb dX3_compose_95 (by decide +kernel) ?_
                    refine lv_bipush (v := nI 9) hx hb dX3_compose_97 (by decide +kernel) ?_
                    refine zcallV (As := [.int (nI 11), .int (nI 9)]) (rest := []) (q := 0) (k := 2) hx hb hml hown hts (kX3_copies l D cL cI cR A F hF (va_up (va_up (va_up Cc 8 pl) 11 f) 10 (Cc 9)) (va_up (va_up (va_up nc 8 (ztop pl 48)) 11 (ztop f 48)) 10 (nc 9)) Y 11 (by omega) 9 (by omega) f (by simp [va_up]) (ztop f 48) (by simp [va_up]) (by omega)) gX3_compose_X3_copies rfl (by decide +kernel) ⟨Nat.le_of_ble_eq_true rfl, Nat.le_of_ble_eq_true rfl⟩ rfl (by omega) (zM_o) rfl rfl hAm hP hS rfl hl.1 rfl (Nat.le_of_ble_eq_true rfl) dX3_compose_99 ⟨Nat.zero_le _, Nat.zero_le _⟩ (zkn (fun H locs hP hS => ?_))
                    refine W.eq (g2 := F0 m 102 ls []) rfl ?_
                    have hW9 : (va_up (va_up (va_up (va_up Cc 8 pl) 11 f) 10 (Cc 9)) 9 f) 9 = f := va_up_eq _ _ _
                    have hW10 : (va_up (va_up (va_up (va_up Cc 8 pl) 11 f) 10 (Cc 9)) 9 f) 10 = Cc 9 := by rw [zup8 _ _ (by decide), va_up_eq]
                    have hV9 : (va_up (va_up (va_up (va_up nc 8 (ztop pl 48)) 11 (ztop f 48)) 10 (nc 9)) 9 (ztop f 48)) 9 = ztop f 48 := va_up_eq _ _ _
                    have hV10 : (va_up (va_up (va_up (va_up nc 8 (ztop pl 48)) 11 (ztop f 48)) 10 (nc 9)) 9 (ztop f 48)) 10 = nc 9 := by rw [zup8 _ _ (by decide), va_up_eq]
                    have hl : lv_has ls 7 [(5, .long (zke f)), (0, .ref (F 0)), (1, .int (nI a)), (2, .int (nI b)), (3, .int (nI t)), (4, .int (nI k))] := by exact hl
                    refine lv_iinc (v := ((nI k) + Int32.ofInt (-1))) (lv' := [(4, .int ((nI k) + Int32.ofInt (-1))), (5, .long (zke f)), (0, .ref (F 0)), (1, .int (nI a)), (2, .int (nI b)), (3, .int (nI t))]) hx hb dX3_compose_102 hl (k := 5) rfl rfl (by decide) rfl (fun ls hl => ?_)
                    refine lv_goto (tgt := 47) hx hb dX3_compose_105 (by decide) ?_
                    exact ih47 k (nI k + Int32.ofInt (-1)) (va_up (va_up (va_up (va_up Cc 8 pl) 11 f) 10 (Cc 9)) 9 f) (va_up (va_up (va_up (va_up nc 8 (ztop pl 48)) 11 (ztop f 48)) 10 (nc 9)) 9 (ztop f 48)) (by omega) (zdecr (by omega)) (fun i hi => ⟨by (repeat rw [zup8 _ _ (by omega)]); exact (hCc i hi).1, by (repeat rw [zup8 _ _ (by omega)]); exact (hCc i hi).2⟩) (by rw [hV9, hV10]; exact ⟨htf, hnn.1⟩) (by rw [hV9, hV10, hW9, hW10]; exact ⟨hfz, hz.1⟩) (fun h => by rw [hW9, hV9]; exact ⟨hs0 h, hzf, rfl⟩) (fun k2 h => by rw [hW9, hV9, hW10]; exact hsk k2 h) (by omega) H _ hP hS ls (lv_sub hl [2, 3, 4, 5, 0] rfl)
                  ·
                    have hnz : ¬ zke f = 0 := by assumption
                    have hr1 : rz.1 = zke f := by rw [hst.1 (fun h => hnz (hste.symm.trans h)), hste]
                    refine lv_lload hx hb dX3_compose_83 (lv_at hl 0 rfl) ?_
                    exact zretL hx hb hr hlk hS hP dX3_compose_85 ⟨_, _, _, rfl, by rw [← hrzP, if_neg (by rw [hr1]; exact hnz), hr1], fun i hi => by rw [← hrzP, if_neg (by rw [hr1]; exact hnz), if_neg (by rw [hr1]; exact hnz)]; exact ⟨by (repeat rw [zup8 _ _ (by omega)]); exact (hCc i hi).1.trans (hCP i hi).1, by (repeat rw [zup8 _ _ (by omega)]); exact (hCc i hi).2.trans (hCP i hi).2⟩, fun _ _ => rfl⟩
                ·
                  have hste : zste pl f = zke pl := by unfold zste; rw [if_neg hke]
                  have hr1 : rz.1 = zke pl := by rw [hst.1 (fun h => hke (hste.symm.trans h)), hste]
                  refine zcallV (As := [.int (nI b), .int (nI 1), .long (C a k)]) (rest := []) (q := 0) (k := 3) hx hb hml hown hts (kX3_goes_err l D cL cI cR A F hF Cc nc Y b (by omega) (nI 1) 1 (by decide) (C a k) (by rw [(hCc b (by omega)).2]; exact h24b) hnn.1 pl (by rw [(hCc b (by omega)).1, (hCc b (by omega)).2]; exact hpl) hke) gX3_compose_X3_goes rfl (by decide +kernel) ⟨Nat.le_of_ble_eq_true rfl, Nat.le_of_ble_eq_true rfl⟩ rfl (by omega) (zM_o) rfl rfl hAm hP hS rfl hl.1 rfl (Nat.le_of_ble_eq_true rfl) dX3_compose_71 ⟨Nat.zero_le _, Nat.zero_le _⟩ (zkn (fun H locs hP hS => ?_))
                  refine W.eq (g2 := F0 m 74 ls [.long (zke pl)]) rfl ?_
                  refine lv_lstore (lv' := [(5, .long (zke pl)), (0, .ref (F 0)), (1, .int (nI a)), (2, .int (nI b)), (3, .int (nI t)), (4, .int (nI k))]) hx hb dX3_compose_74 hl (by decide) rfl (fun ls hl => ?_)
                  refine lv_lload hx hb dX3_compose_76 (lv_at hl 0 rfl) ?_
                  refine lv_lconst (v := (0 : Int64)) hx hb dX3_compose_78 (by decide +kernel) ?_
                  refine zl_eq (tgt := 86) hx hb dX3_compose_79 dX3_compose_80 (by decide) (fun c7 => ?_) (fun c7 => ?_)
                  ·
                    exact absurd (by assumption) hke
                  ·
                    refine lv_lload hx hb dX3_compose_83 (lv_at hl 0 rfl) ?_
                    exact zretL hx hb hr hlk hS hP dX3_compose_85 ⟨_, _, _, rfl, by rw [← hrzP, if_neg (by rw [hr1]; exact hke), hr1], fun i hi => by rw [← hrzP, if_neg (by rw [hr1]; exact hke), if_neg (by rw [hr1]; exact hke)]; exact ⟨by (repeat rw [zup8 _ _ (by omega)]); exact (hCc i hi).1.trans (hCP i hi).1, by (repeat rw [zup8 _ _ (by omega)]); exact (hCc i hi).2.trans (hCP i hi).2⟩, fun _ _ => rfl⟩
              ·
                have hk00 : ¬ k = 0 := by have h := c5; omega
                refine lv_iconst (v := nI 2) hx hb dX3_compose_59 (by decide +kernel) ?_
                refine lv_goto (tgt := 64) hx hb dX3_compose_60 (by decide) ?_
                refine lv_aload_n hx hb dX3_compose_64 rfl (lv_at hl 0 rfl) ?_
                refine lv_iload_n hx hb dX3_compose_65 rfl (lv_at hl 1 rfl) ?_
                refine lv_iload hx hb dX3_compose_66 (lv_at hl 4 rfl) ?_
                refine zcallV (As := [.int (nI a), .int (nI k)]) (rest := [.int (nI 2), .int (nI b), .ref (F 0)]) (q := 0) (k := 2) hx hb hml hown hts (kX3_of l D cL cI cR A F hF Cc nc Y a (by omega) k (by omega) (C a k) (by rw [(hCc a (by omega)).1])) gX3_compose_X3_of rfl (by decide +kernel) ⟨Nat.le_of_ble_eq_true rfl, Nat.le_of_ble_eq_true rfl⟩ rfl (by omega) (zM_o) rfl rfl hAm hP hS rfl hl.1 rfl (Nat.le_of_ble_eq_true rfl) dX3_compose_68 ⟨Nat.zero_le _, Nat.zero_le _⟩ (zkn (fun H locs hP hS => ?_))
                refine W.eq (g2 := F0 m 71 ls [.long (C a k), .int (nI 2), .int (nI b), .ref (F 0)]) rfl ?_
                by_cases hke : zke pl = 0
                ·
                  have hste : zste pl f = zke f := by unfold zste; rw [if_pos hke]
                  refine zcallV (As := [.int (nI b), .int (nI 2), .long (C a k)]) (rest := []) (q := 0) (k := 3) hx hb hml hown hts (kX3_goes_ok l D cL cI cR A F hF Cc nc Y b (by omega) (nI 2) 2 (by decide) (C a k) (by rw [(hCc b (by omega)).2]; exact h24b) hnn.1 pl (by rw [(hCc b (by omega)).1, (hCc b (by omega)).2]; exact hpl) hnn.2 hz.2 hke f (by rw [hf, if_neg hk00])) gX3_compose_X3_goes rfl (by decide +kernel) ⟨Nat.le_of_ble_eq_true rfl, Nat.le_of_ble_eq_true rfl⟩ rfl (by omega) (zM_o) rfl rfl hAm hP hS rfl hl.1 rfl (Nat.le_of_ble_eq_true rfl) dX3_compose_71 ⟨Nat.zero_le _, Nat.zero_le _⟩ (zkn (fun H locs hP hS => ?_))
                  refine W.eq (g2 := F0 m 74 ls [.long (zke f)]) rfl ?_
                  refine lv_lstore (lv' := [(5, .long (zke f)), (0, .ref (F 0)), (1, .int (nI a)), (2, .int (nI b)), (3, .int (nI t)), (4, .int (nI k))]) hx hb dX3_compose_74 hl (by decide) rfl (fun ls hl => ?_)
                  refine lv_lload hx hb dX3_compose_76 (lv_at hl 0 rfl) ?_
                  refine lv_lconst (v := (0 : Int64)) hx hb dX3_compose_78 (by decide +kernel) ?_
                  refine zl_eq (tgt := 86) hx hb dX3_compose_79 dX3_compose_80 (by decide) (fun c8 => ?_) (fun c8 => ?_)
                  ·
                    have hzf : zke f = 0 := by assumption
                    obtain ⟨hs0, hsk⟩ := hst.2 (hste.trans hzf)
                    have htf := zke_24 hzf
                    refine lv_aload_n hx hb dX3_compose_86 rfl (lv_at hl 1 rfl) ?_
                    refine lv_bipush (v := nI 9) hx hb dX3_compose_87 (by decide +kernel) ?_
                    refine lv_bipush (v := nI 10) hx hb dX3_compose_89 (by decide +kernel) ?_
                    refine zcallV (As := [.int (nI 9), .int (nI 10)]) (rest := []) (q := 0) (k := 2) hx hb hml hown hts (kX3_copies l D cL cI cR A F hF (va_up (va_up Cc 8 pl) 11 f) (va_up (va_up nc 8 (ztop pl 48)) 11 (ztop f 48)) Y 9 (by omega) 10 (by omega) (Cc 9) (by simp [va_up]) (nc 9) (by simp [va_up]) (by omega)) gX3_compose_X3_copies rfl (by decide +kernel) ⟨Nat.le_of_ble_eq_true rfl, Nat.le_of_ble_eq_true rfl⟩ rfl (by omega) (zM_o) rfl rfl hAm hP hS rfl hl.1 rfl (Nat.le_of_ble_eq_true rfl) dX3_compose_91 ⟨Nat.zero_le _, Nat.zero_le _⟩ (zkn (fun H locs hP hS => ?_))
                    refine W.eq (g2 := F0 m 94 ls []) rfl ?_
                    refine lv_aload_n hx hb dX3_compose_94 rfl (lv_at hl 1 rfl) ?_
                    refine lv_bipush (v := nI 11) hx hb dX3_compose_95 (by decide +kernel) ?_
                    refine lv_bipush (v := nI 9) hx hb dX3_compose_97 (by decide +kernel) ?_
                    refine zcallV (As := [.int (nI 11), .int (nI 9)]) (rest := []) (q := 0) (k := 2) hx hb hml hown hts (kX3_copies l D cL cI cR A F hF (va_up (va_up (va_up Cc 8 pl) 11 f) 10 (Cc 9)) (va_up (va_up (va_up nc 8 (ztop pl 48)) 11 (ztop f 48)) 10 (nc 9)) Y 11 (by omega) 9 (by omega) f (by simp [va_up]) (ztop f 48) (by simp [va_up]) (by omega)) gX3_compose_X3_copies rfl (by decide +kernel) ⟨Nat.le_of_ble_eq_true rfl, Nat.le_of_ble_eq_true rfl⟩ rfl (by omega) (zM_o) rfl rfl hAm hP hS rfl hl.1 rfl (Nat.le_of_ble_eq_true rfl) dX3_compose_99 ⟨Nat.zero_le _, Nat.zero_le _⟩ (zkn (fun H locs hP hS => ?_))
                    refine W.eq (g2 := F0 m 102 ls []) rfl ?_
                    have hW9 : (va_up (va_up (va_up (va_up Cc 8 pl) 11 f) 10 (Cc 9)) 9 f) 9 = f := va_up_eq _ _ _
                    have hW10 : (va_up (va_up (va_up (va_up Cc 8 pl) 11 f) 10 (Cc 9)) 9 f) 10 = Cc 9 := by rw [zup8 _ _ (by decide), va_up_eq]
                    have hV9 : (va_up (va_up (va_up (va_up nc 8 (ztop pl 48)) 11 (ztop f 48)) 10 (nc 9)) 9 (ztop f 48)) 9 = ztop f 48 := va_up_eq _ _ _
                    have hV10 : (va_up (va_up (va_up (va_up nc 8 (ztop pl 48)) 11 (ztop f 48)) 10 (nc 9)) 9 (ztop f 48)) 10 = nc 9 := by rw [zup8 _ _ (by decide), va_up_eq]
                    have hl : lv_has ls 7 [(5, .long (zke f)), (0, .ref (F 0)), (1, .int (nI a)), (2, .int (nI b)), (3, .int (nI t)), (4, .int (nI k))] := by exact hl
                    refine lv_iinc (v := ((nI k) + Int32.ofInt (-1))) (lv' := [(4, .int ((nI k) + Int32.ofInt (-1))), (5, .long (zke f)), (0, .ref (F 0)), (1, .int (nI a)), (2, .int (nI b)), (3, .int (nI t))]) hx hb dX3_compose_102 hl (k := 5) rfl rfl (by decide) rfl (fun ls hl => ?_)
                    refine lv_goto (tgt := 47) hx hb dX3_compose_105 (by decide) ?_
                    exact ih47 k (nI k + Int32.ofInt (-1)) (va_up (va_up (va_up (va_up Cc 8 pl) 11 f) 10 (Cc 9)) 9 f) (va_up (va_up (va_up (va_up nc 8 (ztop pl 48)) 11 (ztop f 48)) 10 (nc 9)) 9 (ztop f 48)) (by omega) (zdecr (by omega)) (fun i hi => ⟨by (repeat rw [zup8 _ _ (by omega)]); exact (hCc i hi).1, by (repeat rw [zup8 _ _ (by omega)]); exact (hCc i hi).2⟩) (by rw [hV9, hV10]; exact ⟨htf, hnn.1⟩) (by rw [hV9, hV10, hW9, hW10]; exact ⟨hfz, hz.1⟩) (fun h => by rw [hW9, hV9]; exact ⟨hs0 h, hzf, rfl⟩) (fun k2 h => by rw [hW9, hV9, hW10]; exact hsk k2 h) (by omega) H _ hP hS ls (lv_sub hl [2, 3, 4, 5, 0] rfl)
                  ·
                    have hnz : ¬ zke f = 0 := by assumption
                    have hr1 : rz.1 = zke f := by rw [hst.1 (fun h => hnz (hste.symm.trans h)), hste]
                    refine lv_lload hx hb dX3_compose_83 (lv_at hl 0 rfl) ?_
                    exact zretL hx hb hr hlk hS hP dX3_compose_85 ⟨_, _, _, rfl, by rw [← hrzP, if_neg (by rw [hr1]; exact hnz), hr1], fun i hi => by rw [← hrzP, if_neg (by rw [hr1]; exact hnz), if_neg (by rw [hr1]; exact hnz)]; exact ⟨by (repeat rw [zup8 _ _ (by omega)]); exact (hCc i hi).1.trans (hCP i hi).1, by (repeat rw [zup8 _ _ (by omega)]); exact (hCc i hi).2.trans (hCP i hi).2⟩, fun _ _ => rfl⟩
                ·
                  have hste : zste pl f = zke pl := by unfold zste; rw [if_neg hke]
                  have hr1 : rz.1 = zke pl := by rw [hst.1 (fun h => hke (hste.symm.trans h)), hste]
                  refine zcallV (As := [.int (nI b), .int (nI 2), .long (C a k)]) (rest := []) (q := 0) (k := 3) hx hb hml hown hts (kX3_goes_err l D cL cI cR A F hF Cc nc Y b (by omega) (nI 2) 2 (by decide) (C a k) (by rw [(hCc b (by omega)).2]; exact h24b) hnn.1 pl (by rw [(hCc b (by omega)).1, (hCc b (by omega)).2]; exact hpl) hke) gX3_compose_X3_goes rfl (by decide +kernel) ⟨Nat.le_of_ble_eq_true rfl, Nat.le_of_ble_eq_true rfl⟩ rfl (by omega) (zM_o) rfl rfl hAm hP hS rfl hl.1 rfl (Nat.le_of_ble_eq_true rfl) dX3_compose_71 ⟨Nat.zero_le _, Nat.zero_le _⟩ (zkn (fun H locs hP hS => ?_))
                  refine W.eq (g2 := F0 m 74 ls [.long (zke pl)]) rfl ?_
                  refine lv_lstore (lv' := [(5, .long (zke pl)), (0, .ref (F 0)), (1, .int (nI a)), (2, .int (nI b)), (3, .int (nI t)), (4, .int (nI k))]) hx hb dX3_compose_74 hl (by decide) rfl (fun ls hl => ?_)
                  refine lv_lload hx hb dX3_compose_76 (lv_at hl 0 rfl) ?_
                  refine lv_lconst (v := (0 : Int64)) hx hb dX3_compose_78 (by decide +kernel) ?_
                  refine zl_eq (tgt := 86) hx hb dX3_compose_79 dX3_compose_80 (by decide) (fun c9 => ?_) (fun c9 => ?_)
                  ·
                    exact absurd (by assumption) hke
                  ·
                    refine lv_lload hx hb dX3_compose_83 (lv_at hl 0 rfl) ?_
                    exact zretL hx hb hr hlk hS hP dX3_compose_85 ⟨_, _, _, rfl, by rw [← hrzP, if_neg (by rw [hr1]; exact hke), hr1], fun i hi => by rw [← hrzP, if_neg (by rw [hr1]; exact hke), if_neg (by rw [hr1]; exact hke)]; exact ⟨by (repeat rw [zup8 _ _ (by omega)]); exact (hCc i hi).1.trans (hCP i hi).1, by (repeat rw [zup8 _ _ (by omega)]); exact (hCc i hi).2.trans (hCP i hi).2⟩, fun _ _ => rfl⟩
        exact L47 _ (dg a + 1) (nI (dg a)) (va_up (va_up C 9 (fun _ => 0)) 10 (fun _ => 0)) (va_up (va_up dg 9 0) 10 0) (by omega) (by rw [if_neg (by omega)]; rfl) (fun i hi => ⟨by (repeat rw [zup8 _ _ (by omega)]), by (repeat rw [zup8 _ _ (by omega)])⟩) (by simp [va_up]) ⟨fun j _ => by simp [va_up], fun j _ => by simp [va_up]⟩ (fun h => absurd h (by omega)) (fun k h => by rw [show k = dg a by omega, hrz]; simp [va_up]) (Nat.lt_succ_self _) H _ hP hS ls (lv_sub hl [1, 2, 3, 4, 0] rfl)
      ·
        exfalso; omega
