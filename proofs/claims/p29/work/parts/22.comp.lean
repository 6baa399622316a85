set_option maxHeartbeats 4000000 in
set_option maxRecDepth 100000 in
theorem kX2_makeComposition (l : Launch) (D : va_G) (cL cI cR : ClassId) (A : Nat → Prop) (F : Nat → Nat) (hF : zq_F A F 30) (T : Nat → Nat → Int64) (top : Nat → Nat) (Z : zZC) (a : Nat) (ha : a < 8) (g : Nat) (hg : g < 8) (hna : top a ≤ 24) (hng : top g ≤ 24) : zCt l yX2_makeComposition wsX2_makeComposition 4 105 D cL cI cR A F 30 (zCE cL cR F T top Z) [.ref (F 24), .ref (F a), .ref (F g)] (fun v2 E2 => ∃ (T2 : Nat → Nat → Int64) (top2 : Nat → Nat), v2 = some (.long (zcomp (T a) (T g) (top g) (top a) (fun _ => 0) 0 (fun _ => 0)).1) ∧ E2 = zCE cL cR F T2 top2 Z ∧ (∀ i, i < 8 → T2 i = T i ∧ top2 i = top i) ∧ ((zcomp (T a) (T g) (top g) (top a) (fun _ => 0) 0 (fun _ => 0)).1 = 0 → T2 8 = (zcomp (T a) (T g) (top g) (top a) (fun _ => 0) 0 (fun _ => 0)).2 ∧ top2 8 = ztop (zcomp (T a) (T g) (top g) (top a) (fun _ => 0) 0 (fun _ => 0)).2 48)) := by
  refine zStart (cc := cX2_makeComposition) (maxL := 6) (ret := (some .long)) (by decide +kernel) rfl (Nat.le_of_ble_eq_true rfl) ?_
  intro p e s m below meth c hx hb hr hml hlk hown hts hAm H hP hS ls hl
  have hown : s.vm.findClass RX2 = some m.cls := hown
  have hl : lv_has ls 6 [(0, .ref (F 24)), (1, .ref (F a)), (2, .ref (F g))] := hl
  have hinX2 : ∀ w ∈ u_ws RX2 TX2 7, w ∈ wsX2_makeComposition := by decide +kernel
  refine lv_aload_n hx hb dX2_makeComposition_0 rfl (lv_at hl 0 rfl) ?_
  refine zget (q := 24) (k := 5) (v := .ref (F 10)) hx hb hts hinX2 hown hAm hP (by omega) (zC_o) rfl (by decide) (hts (.fieldLink RX2 34 "CosineSeries" "last" "LCosineSeries$Series;") (by decide +kernel)) (by first | rfl | simp [va_up, *]) dX2_makeComposition_1 ?_
  refine zcallV (As := []) (rest := []) (q := 10) (k := 0) hx hb hml hown hts (kX1_clear l D cL cI cR A F hF T top Z 10 (by omega)) gX2_makeComposition_X1_clear rfl (by decide +kernel) ⟨Nat.le_of_ble_eq_true rfl, Nat.le_of_ble_eq_true rfl⟩ rfl (by omega) (zC_s (by omega)) rfl rfl hAm hP hS rfl hl.1 rfl (Nat.le_of_ble_eq_true rfl) dX2_makeComposition_4 ⟨Nat.zero_le _, Nat.zero_le _⟩ (zkn (fun H locs hP hS => ?_))
  refine W.eq (g2 := F0 m 7 ls []) rfl ?_
  refine lv_aload_n hx hb dX2_makeComposition_7 rfl (lv_at hl 0 rfl) ?_
  refine zget (q := 24) (k := 6) (v := .ref (F 11)) hx hb hts hinX2 hown hAm hP (by omega) (zC_o) rfl (by decide) (hts (.fieldLink RX2 37 "CosineSeries" "lastButOne" "LCosineSeries$Series;") (by decide +kernel)) (by first | rfl | simp [va_up, *]) dX2_makeComposition_8 ?_
  refine zcallV (As := []) (rest := []) (q := 11) (k := 0) hx hb hml hown hts (kX1_clear l D cL cI cR A F hF (va_up T 10 (fun _ => 0)) (va_up top 10 0) Z 11 (by omega)) gX2_makeComposition_X1_clear rfl (by decide +kernel) ⟨Nat.le_of_ble_eq_true rfl, Nat.le_of_ble_eq_true rfl⟩ rfl (by omega) (zC_s (by omega)) rfl rfl hAm hP hS rfl hl.1 rfl (Nat.le_of_ble_eq_true rfl) dX2_makeComposition_11 ⟨Nat.zero_le _, Nat.zero_le _⟩ (zkn (fun H locs hP hS => ?_))
  refine W.eq (g2 := F0 m 14 ls []) rfl ?_
  refine lv_aload_n hx hb dX2_makeComposition_14 rfl (lv_at hl 1 rfl) ?_
  refine zcallV (As := []) (rest := []) (q := a) (k := 0) hx hb hml hown hts (kX1_top l D cL cI cR A F hF (va_up (va_up T 10 (fun _ => 0)) 11 (fun _ => 0)) (va_up (va_up top 10 0) 11 0) Z a (by omega) (top a) (by rw [zup8 _ _ (by omega), zup8 _ _ (by omega)])) gX2_makeComposition_X1_top rfl (by decide +kernel) ⟨Nat.le_of_ble_eq_true rfl, Nat.le_of_ble_eq_true rfl⟩ rfl (by omega) (zC_s (by omega)) rfl rfl hAm hP hS rfl hl.1 rfl (Nat.le_of_ble_eq_true rfl) dX2_makeComposition_15 ⟨Nat.zero_le _, Nat.zero_le _⟩ (zkn (fun H locs hP hS => ?_))
  refine W.eq (g2 := F0 m 18 ls [.int (nI (top a))]) rfl ?_
  refine lv_istore_n (lv' := [(3, .int (nI (top a))), (0, .ref (F 24)), (1, .ref (F a)), (2, .ref (F g))]) hx hb dX2_makeComposition_18 rfl hl (by decide) rfl (fun ls hl => ?_)
  have L19 : ∀ (n : Nat) (k : Nat) (Tc : Nat → Nat → Int64) (nc : Nat → Nat) (hk : k ≤ 24) (hTc : ∀ i, i < 8 → Tc i = T i ∧ nc i = top i) (hnc : nc 10 ≤ 24) (hres : zcomp (T a) (T g) (top g) k (Tc 10) (nc 10) (Tc 11) = (zcomp (T a) (T g) (top g) (top a) (fun _ => 0) 0 (fun _ => 0))) (hn : k < n) (H : Heap) (locs : List Loc), va_P D vwCl (zq_wd F 30 (zCE cL cR F Tc nc Z)) H → va_S A s.heap H locs → ∀ (ls : Array Slot), lv_has ls 6 [(0, .ref (F 24)), (1, .ref (F a)), (2, .ref (F g)), (3, .int (nI k))] → W p l e ({ frames := 4, cells := 0, slots := 0, locals := 105 }) s m ([.ref (F 24), .ref (F a), .ref (F g)] : List Value).toArray below meth c H locs 0 0 (zQ below D A F 30 [.ref (F 24), .ref (F a), .ref (F g)] s (fun v2 E2 => ∃ (T2 : Nat → Nat → Int64) (top2 : Nat → Nat), v2 = some (.long (zcomp (T a) (T g) (top g) (top a) (fun _ => 0) 0 (fun _ => 0)).1) ∧ E2 = zCE cL cR F T2 top2 Z ∧ (∀ i, i < 8 → T2 i = T i ∧ top2 i = top i) ∧ ((zcomp (T a) (T g) (top g) (top a) (fun _ => 0) 0 (fun _ => 0)).1 = 0 → T2 8 = (zcomp (T a) (T g) (top g) (top a) (fun _ => 0) 0 (fun _ => 0)).2 ∧ top2 8 = ztop (zcomp (T a) (T g) (top g) (top a) (fun _ => 0) 0 (fun _ => 0)).2 48))) (F0 m 19 ls []) := by
    intro n
    induction n with
    | zero =>
      intro k Tc nc hk hTc hnc hres hn
      exact absurd hn (Nat.not_lt_zero _)
    | succ n ih19 =>
      intro k Tc nc hk hTc hnc hres hn H locs hP hS ls hl
      have hres2 : zcomp (T a) (Tc g) (nc g) k (Tc 10) (nc 10) (Tc 11) = (zcomp (T a) (T g) (top g) (top a) (fun _ => 0) 0 (fun _ => 0)) := by rw [(hTc g hg).1, (hTc g hg).2]; exact hres
      have hTa := (hTc a ha).1
      have hna2 : nc a ≤ 24 := by rw [(hTc a ha).2]; exact hna
      have hng2 : nc g ≤ 24 := by rw [(hTc g hg).2]; exact hng
      refine lv_iload_n hx hb dX2_makeComposition_19 rfl (lv_at hl 3 rfl) ?_
      refine lv_iconst (v := nI 1) hx hb dX2_makeComposition_20 (by decide +kernel) ?_
      refine zi_lt (tgt := 75) hx hb dX2_makeComposition_21 (by decide) (by omega) (by omega) (fun c1 => ?_) (fun c1 => ?_)
      ·
        obtain rfl : k = 0 := by omega
        have hl : lv_has ls 6 [(0, .ref (F 24)), (1, .ref (F a)), (2, .ref (F g)), (3, .int (nI 0))] := by exact hl
        refine lv_aload_n hx hb dX2_makeComposition_75 rfl (lv_at hl 0 rfl) ?_
        refine lv_aload_n hx hb dX2_makeComposition_76 rfl (lv_at hl 1 rfl) ?_
        refine lv_iconst (v := nI 0) hx hb dX2_makeComposition_77 (by decide +kernel) ?_
        refine zcallV (As := [.int (nI 0)]) (rest := [.ref (F 24)]) (q := a) (k := 1) hx hb hml hown hts (kX1_at l D cL cI cR A F hF Tc nc Z a (by omega) 0 (by omega) (T a 0) (by rw [hTa])) gX2_makeComposition_X1_at rfl (by decide +kernel) ⟨Nat.le_of_ble_eq_true rfl, Nat.le_of_ble_eq_true rfl⟩ rfl (by omega) (zC_s (by omega)) rfl rfl hAm hP hS rfl hl.1 rfl (Nat.le_of_ble_eq_true rfl) dX2_makeComposition_78 ⟨Nat.zero_le _, Nat.zero_le _⟩ (zkn (fun H locs hP hS => ?_))
        refine W.eq (g2 := F0 m 81 ls [.long (T a 0), .ref (F 24)]) rfl ?_
        refine lv_iconst (v := nI 1) hx hb dX2_makeComposition_81 (by decide +kernel) ?_
        refine lv_aload_n hx hb dX2_makeComposition_82 rfl (lv_at hl 2 rfl) ?_
        by_cases hpe : zke (zprod (Tc g) (nc g) (Tc 10) (nc 10)) = 0
        ·
          have hste : zste (zprod (Tc g) (nc g) (Tc 10) (nc 10)) (zst (zprod (Tc g) (nc g) (Tc 10) (nc 10)) (Tc 11) 1 (T a 0)) = zke (zst (zprod (Tc g) (nc g) (Tc 10) (nc 10)) (Tc 11) 1 (T a 0)) := by unfold zste; rw [if_pos hpe]
          refine zcallV (As := [.long (T a 0), .int (nI 1), .ref (F g)]) (rest := []) (q := 24) (k := 3) hx hb hml hown hts (kX2_makeStep_ok l D cL cI cR A F hF Tc nc Z (T a 0) (nI 1) 1 rfl g hg (by omega) (by omega) hpe) gX2_makeComposition_X2_makeStep rfl (by decide +kernel) ⟨Nat.le_of_ble_eq_true rfl, Nat.le_of_ble_eq_true rfl⟩ rfl (by omega) (zC_o) rfl rfl hAm hP hS rfl hl.1 rfl (Nat.le_of_ble_eq_true rfl) dX2_makeComposition_83 ⟨Nat.zero_le _, Nat.zero_le _⟩ (zkn (fun H locs hP hS => ?_))
          refine W.eq (g2 := F0 m 86 ls [.long (zke (zst (zprod (Tc g) (nc g) (Tc 10) (nc 10)) (Tc 11) 1 (T a 0)))]) rfl ?_
          exact zretL hx hb hr hlk hS hP dX2_makeComposition_86 ⟨_, _, by rw [← hres2, zcomp, hste], rfl, (fun i hi => by simp only [zup8 _ _ (show ¬ i = 8 by omega), zup8 _ _ (show ¬ i = 9 by omega), zup8 _ _ (show ¬ i = 10 by omega), zup8 _ _ (show ¬ i = 11 by omega)]; exact hTc i hi), fun _ => by rw [← hres2, zcomp]; exact ⟨va_up_eq _ _ _, va_up_eq _ _ _⟩⟩
        ·
          have hste : zste (zprod (Tc g) (nc g) (Tc 10) (nc 10)) (zst (zprod (Tc g) (nc g) (Tc 10) (nc 10)) (Tc 11) 1 (T a 0)) = zke (zprod (Tc g) (nc g) (Tc 10) (nc 10)) := by unfold zste; rw [if_neg hpe]
          refine zcallV (As := [.long (T a 0), .int (nI 1), .ref (F g)]) (rest := []) (q := 24) (k := 3) hx hb hml hown hts (kX2_makeStep_err l D cL cI cR A F hF Tc nc Z (T a 0) (nI 1) 1 rfl g hg (by omega) (by omega) hpe) gX2_makeComposition_X2_makeStep rfl (by decide +kernel) ⟨Nat.le_of_ble_eq_true rfl, Nat.le_of_ble_eq_true rfl⟩ rfl (by omega) (zC_o) rfl rfl hAm hP hS rfl hl.1 rfl (Nat.le_of_ble_eq_true rfl) dX2_makeComposition_83 ⟨Nat.zero_le _, Nat.zero_le _⟩ (zkn (fun H locs hP hS => ?_))
          refine W.eq (g2 := F0 m 86 ls [.long (zke (zprod (Tc g) (nc g) (Tc 10) (nc 10)))]) rfl ?_
          exact zretL hx hb hr hlk hS hP dX2_makeComposition_86 ⟨_, _, by rw [← hres2, zcomp, hste], rfl, (fun i hi => by simp only [zup8 _ _ (show ¬ i = 8 by omega), zup8 _ _ (show ¬ i = 9 by omega), zup8 _ _ (show ¬ i = 10 by omega), zup8 _ _ (show ¬ i = 11 by omega)]; exact hTc i hi), fun h => absurd h (by rw [← hres2, zcomp]; exact (fun h => hpe (hste.symm.trans h)))⟩
      ·
        obtain ⟨k, rfl⟩ : ∃ j, k = j + 1 := ⟨k - 1, by omega⟩
        have hl : lv_has ls 6 [(0, .ref (F 24)), (1, .ref (F a)), (2, .ref (F g)), (3, .int (nI (k + 1)))] := by exact hl
        refine lv_aload_n hx hb dX2_makeComposition_24 rfl (lv_at hl 0 rfl) ?_
        refine lv_aload_n hx hb dX2_makeComposition_25 rfl (lv_at hl 1 rfl) ?_
        refine lv_iload_n hx hb dX2_makeComposition_26 rfl (lv_at hl 3 rfl) ?_
        refine zcallV (As := [.int (nI (k + 1))]) (rest := [.ref (F 24)]) (q := a) (k := 1) hx hb hml hown hts (kX1_at l D cL cI cR A F hF Tc nc Z a (by omega) (k + 1) (by omega) (T a (k + 1)) (by rw [hTa])) gX2_makeComposition_X1_at rfl (by decide +kernel) ⟨Nat.le_of_ble_eq_true rfl, Nat.le_of_ble_eq_true rfl⟩ rfl (by omega) (zC_s (by omega)) rfl rfl hAm hP hS rfl hl.1 rfl (Nat.le_of_ble_eq_true rfl) dX2_makeComposition_27 ⟨Nat.zero_le _, Nat.zero_le _⟩ (zkn (fun H locs hP hS => ?_))
        refine W.eq (g2 := F0 m 30 ls [.long (T a (k + 1)), .ref (F 24)]) rfl ?_
        refine lv_iconst (v := nI 2) hx hb dX2_makeComposition_30 (by decide +kernel) ?_
        refine lv_aload_n hx hb dX2_makeComposition_31 rfl (lv_at hl 2 rfl) ?_
        by_cases hpe : zke (zprod (Tc g) (nc g) (Tc 10) (nc 10)) = 0
        ·
          have hste : zste (zprod (Tc g) (nc g) (Tc 10) (nc 10)) (zst (zprod (Tc g) (nc g) (Tc 10) (nc 10)) (Tc 11) 2 (T a (k + 1))) = zke (zst (zprod (Tc g) (nc g) (Tc 10) (nc 10)) (Tc 11) 2 (T a (k + 1))) := by unfold zste; rw [if_pos hpe]
          refine zcallV (As := [.long (T a (k + 1)), .int (nI 2), .ref (F g)]) (rest := []) (q := 24) (k := 3) hx hb hml hown hts (kX2_makeStep_ok l D cL cI cR A F hF Tc nc Z (T a (k + 1)) (nI 2) 2 rfl g hg (by omega) (by omega) hpe) gX2_makeComposition_X2_makeStep rfl (by decide +kernel) ⟨Nat.le_of_ble_eq_true rfl, Nat.le_of_ble_eq_true rfl⟩ rfl (by omega) (zC_o) rfl rfl hAm hP hS rfl hl.1 rfl (Nat.le_of_ble_eq_true rfl) dX2_makeComposition_32 ⟨Nat.zero_le _, Nat.zero_le _⟩ (zkn (fun H locs hP hS => ?_))
          refine W.eq (g2 := F0 m 35 ls [.long (zke (zst (zprod (Tc g) (nc g) (Tc 10) (nc 10)) (Tc 11) 2 (T a (k + 1))))]) rfl ?_
          refine lv_lstore (lv' := [(4, .long (zke (zst (zprod (Tc g) (nc g) (Tc 10) (nc 10)) (Tc 11) 2 (T a (k + 1))))), (0, .ref (F 24)), (1, .ref (F a)), (2, .ref (F g)), (3, .int (nI (k + 1)))]) hx hb dX2_makeComposition_35 hl (by decide) rfl (fun ls hl => ?_)
          refine lv_lload hx hb dX2_makeComposition_37 (lv_at hl 0 rfl) ?_
          refine lv_lconst (v := (0 : Int64)) hx hb dX2_makeComposition_39 (by decide +kernel) ?_
          refine zl_eq (tgt := 47) hx hb dX2_makeComposition_40 dX2_makeComposition_41 (by decide) (fun c2 => ?_) (fun c2 => ?_)
          ·
            have hs0z := hste.trans c2
            have hs0 := c2
            refine lv_aload_n hx hb dX2_makeComposition_47 rfl (lv_at hl 1 rfl) ?_
            refine zget (q := 24) (k := 6) (v := .ref (F 11)) hx hb hts hinX2 hown hAm hP (by omega) (zC_o) rfl (by decide) (hts (.fieldLink RX2 37 "CosineSeries" "lastButOne" "LCosineSeries$Series;") (by decide +kernel)) (by first | rfl | simp [va_up, *]) dX2_makeComposition_48 ?_
            refine lv_aload_n hx hb dX2_makeComposition_51 rfl (lv_at hl 1 rfl) ?_
            refine zget (q := 24) (k := 5) (v := .ref (F 10)) hx hb hts hinX2 hown hAm hP (by omega) (zC_o) rfl (by decide) (hts (.fieldLink RX2 34 "CosineSeries" "last" "LCosineSeries$Series;") (by decide +kernel)) (by first | rfl | simp [va_up, *]) dX2_makeComposition_52 ?_
            refine zcallV (As := [.ref (F 10)]) (rest := []) (q := 11) (k := 1) hx hb hml hown hts (kX1_take l D cL cI cR A F hF (va_up (va_up Tc 9 (zprod (Tc g) (nc g) (Tc 10) (nc 10))) 8 (zst (zprod (Tc g) (nc g) (Tc 10) (nc 10)) (Tc 11) 2 (T a (k + 1)))) (va_up (va_up nc 9 (ztop (zprod (Tc g) (nc g) (Tc 10) (nc 10)) 48)) 8 (ztop (zst (zprod (Tc g) (nc g) (Tc 10) (nc 10)) (Tc 11) 2 (T a (k + 1))) 48)) Z 11 (by omega) 10 (by omega) (Tc 10) (by simp [va_up]) (nc 10) (by simp [va_up])) gX2_makeComposition_X1_take rfl (by decide +kernel) ⟨Nat.le_of_ble_eq_true rfl, Nat.le_of_ble_eq_true rfl⟩ rfl (by omega) (zC_s (by omega)) rfl rfl hAm hP hS rfl hl.1 rfl (Nat.le_of_ble_eq_true rfl) dX2_makeComposition_55 ⟨Nat.zero_le _, Nat.zero_le _⟩ (zkn (fun H locs hP hS => ?_))
            refine W.eq (g2 := F0 m 58 ls []) rfl ?_
            refine lv_aload_n hx hb dX2_makeComposition_58 rfl (lv_at hl 1 rfl) ?_
            refine zget (q := 24) (k := 5) (v := .ref (F 10)) hx hb hts hinX2 hown hAm hP (by omega) (zC_o) rfl (by decide) (hts (.fieldLink RX2 34 "CosineSeries" "last" "LCosineSeries$Series;") (by decide +kernel)) (by first | rfl | simp [va_up, *]) dX2_makeComposition_59 ?_
            refine lv_aload_n hx hb dX2_makeComposition_62 rfl (lv_at hl 1 rfl) ?_
            refine zget (q := 24) (k := 3) (v := .ref (F 8)) hx hb hts hinX2 hown hAm hP (by omega) (zC_o) rfl (by decide) (hts (.fieldLink RX2 27 "CosineSeries" "made" "LCosineSeries$Series;") (by decide +kernel)) (by first | rfl | simp [va_up, *]) dX2_makeComposition_63 ?_
            refine zcallV (As := [.ref (F 8)]) (rest := []) (q := 10) (k := 1) hx hb hml hown hts (kX1_take l D cL cI cR A F hF (va_up (va_up (va_up Tc 9 (zprod (Tc g) (nc g) (Tc 10) (nc 10))) 8 (zst (zprod (Tc g) (nc g) (Tc 10) (nc 10)) (Tc 11) 2 (T a (k + 1)))) 11 (Tc 10)) (va_up (va_up (va_up nc 9 (ztop (zprod (Tc g) (nc g) (Tc 10) (nc 10)) 48)) 8 (ztop (zst (zprod (Tc g) (nc g) (Tc 10) (nc 10)) (Tc 11) 2 (T a (k + 1))) 48)) 11 (nc 10)) Z 10 (by omega) 8 (by omega) (zst (zprod (Tc g) (nc g) (Tc 10) (nc 10)) (Tc 11) 2 (T a (k + 1))) (by simp [va_up]) (ztop (zst (zprod (Tc g) (nc g) (Tc 10) (nc 10)) (Tc 11) 2 (T a (k + 1))) 48) (by simp [va_up])) gX2_makeComposition_X1_take rfl (by decide +kernel) ⟨Nat.le_of_ble_eq_true rfl, Nat.le_of_ble_eq_true rfl⟩ rfl (by omega) (zC_s (by omega)) rfl rfl hAm hP hS rfl hl.1 rfl (Nat.le_of_ble_eq_true rfl) dX2_makeComposition_66 ⟨Nat.zero_le _, Nat.zero_le _⟩ (zkn (fun H locs hP hS => ?_))
            refine W.eq (g2 := F0 m 69 ls []) rfl ?_
            refine lv_iinc (v := (nI k)) (lv' := [(3, .int (nI k)), (4, .long (zke (zst (zprod (Tc g) (nc g) (Tc 10) (nc 10)) (Tc 11) 2 (T a (k + 1))))), (0, .ref (F 24)), (1, .ref (F a)), (2, .ref (F g))]) hx hb dX2_makeComposition_69 hl (k := 4) rfl (zinc (by omega)) (by decide) rfl (fun ls hl => ?_)
            refine lv_goto (tgt := 19) hx hb dX2_makeComposition_72 (by decide) ?_
            exact ih19 k (va_up (va_up (va_up (va_up Tc 9 (zprod (Tc g) (nc g) (Tc 10) (nc 10))) 8 (zst (zprod (Tc g) (nc g) (Tc 10) (nc 10)) (Tc 11) 2 (T a (k + 1)))) 11 (Tc 10)) 10 (zst (zprod (Tc g) (nc g) (Tc 10) (nc 10)) (Tc 11) 2 (T a (k + 1)))) (va_up (va_up (va_up (va_up nc 9 (ztop (zprod (Tc g) (nc g) (Tc 10) (nc 10)) 48)) 8 (ztop (zst (zprod (Tc g) (nc g) (Tc 10) (nc 10)) (Tc 11) 2 (T a (k + 1))) 48)) 11 (nc 10)) 10 (ztop (zst (zprod (Tc g) (nc g) (Tc 10) (nc 10)) (Tc 11) 2 (T a (k + 1))) 48)) (by omega) (fun i hi => by simp only [zup8 _ _ (show ¬ i = 8 by omega), zup8 _ _ (show ¬ i = 9 by omega), zup8 _ _ (show ¬ i = 10 by omega), zup8 _ _ (show ¬ i = 11 by omega)]; exact hTc i hi) (by simp only [va_up_eq]; exact zke_24 hs0) (by rw [← hres2, zcomp, if_pos hs0z, (hTc g hg).1, (hTc g hg).2]; simp [va_up]) (by omega) H _ hP hS ls (lv_sub hl [2, 3, 4, 0] rfl)
          ·
            have hne := (fun h => c2 (hste.symm.trans h) : ¬ zste (zprod (Tc g) (nc g) (Tc 10) (nc 10)) (zst (zprod (Tc g) (nc g) (Tc 10) (nc 10)) (Tc 11) 2 (T a (k + 1))) = 0)
            refine lv_lload hx hb dX2_makeComposition_44 (lv_at hl 0 rfl) ?_
            exact zretL hx hb hr hlk hS hP dX2_makeComposition_46 ⟨_, _, by rw [← hres2, zcomp, if_neg hne, hste], rfl, (fun i hi => by simp only [zup8 _ _ (show ¬ i = 8 by omega), zup8 _ _ (show ¬ i = 9 by omega), zup8 _ _ (show ¬ i = 10 by omega), zup8 _ _ (show ¬ i = 11 by omega)]; exact hTc i hi), fun h => absurd h (by rw [← hres2, zcomp, if_neg hne]; exact hne)⟩
        ·
          have hste : zste (zprod (Tc g) (nc g) (Tc 10) (nc 10)) (zst (zprod (Tc g) (nc g) (Tc 10) (nc 10)) (Tc 11) 2 (T a (k + 1))) = zke (zprod (Tc g) (nc g) (Tc 10) (nc 10)) := by unfold zste; rw [if_neg hpe]
          refine zcallV (As := [.long (T a (k + 1)), .int (nI 2), .ref (F g)]) (rest := []) (q := 24) (k := 3) hx hb hml hown hts (kX2_makeStep_err l D cL cI cR A F hF Tc nc Z (T a (k + 1)) (nI 2) 2 rfl g hg (by omega) (by omega) hpe) gX2_makeComposition_X2_makeStep rfl (by decide +kernel) ⟨Nat.le_of_ble_eq_true rfl, Nat.le_of_ble_eq_true rfl⟩ rfl (by omega) (zC_o) rfl rfl hAm hP hS rfl hl.1 rfl (Nat.le_of_ble_eq_true rfl) dX2_makeComposition_32 ⟨Nat.zero_le _, Nat.zero_le _⟩ (zkn (fun H locs hP hS => ?_))
          refine W.eq (g2 := F0 m 35 ls [.long (zke (zprod (Tc g) (nc g) (Tc 10) (nc 10)))]) rfl ?_
          refine lv_lstore (lv' := [(4, .long (zke (zprod (Tc g) (nc g) (Tc 10) (nc 10)))), (0, .ref (F 24)), (1, .ref (F a)), (2, .ref (F g)), (3, .int (nI (k + 1)))]) hx hb dX2_makeComposition_35 hl (by decide) rfl (fun ls hl => ?_)
          refine lv_lload hx hb dX2_makeComposition_37 (lv_at hl 0 rfl) ?_
          refine lv_lconst (v := (0 : Int64)) hx hb dX2_makeComposition_39 (by decide +kernel) ?_
          refine zl_eq (tgt := 47) hx hb dX2_makeComposition_40 dX2_makeComposition_41 (by decide) (fun c3 => ?_) (fun c3 => ?_)
          ·
            exact absurd c3 hpe
          ·
            have hne := (fun h => c3 (hste.symm.trans h) : ¬ zste (zprod (Tc g) (nc g) (Tc 10) (nc 10)) (zst (zprod (Tc g) (nc g) (Tc 10) (nc 10)) (Tc 11) 2 (T a (k + 1))) = 0)
            refine lv_lload hx hb dX2_makeComposition_44 (lv_at hl 0 rfl) ?_
            exact zretL hx hb hr hlk hS hP dX2_makeComposition_46 ⟨_, _, by rw [← hres2, zcomp, if_neg hne, hste], rfl, (fun i hi => by simp only [zup8 _ _ (show ¬ i = 8 by omega), zup8 _ _ (show ¬ i = 9 by omega), zup8 _ _ (show ¬ i = 10 by omega), zup8 _ _ (show ¬ i = 11 by omega)]; exact hTc i hi), fun h => absurd h (by rw [← hres2, zcomp, if_neg hne]; exact hne)⟩
  exact L19 _ (top a) (va_up (va_up T 10 (fun _ => 0)) 11 (fun _ => 0)) (va_up (va_up top 10 0) 11 0) (by omega) (fun i hi => ⟨by rw [zup8 _ _ (by omega), zup8 _ _ (by omega)], by rw [zup8 _ _ (by omega), zup8 _ _ (by omega)]⟩) (by simp [va_up]) (by simp [va_up]) (Nat.lt_succ_self _) H _ hP hS ls (lv_sub hl [1, 2, 3, 0] rfl)
