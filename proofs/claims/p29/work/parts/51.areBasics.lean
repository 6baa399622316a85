/-! the law: products and compositions of basis functions -/
set_option maxHeartbeats 4000000 in
set_option maxRecDepth 100000 in
theorem kL_areBasics (l : Launch) (D : va_G) (cL cI cR : ClassId) (A : Nat → Prop) (F : Nat → Nat) (hF : zq_F A F 30) (T0 : Nat → Nat → Int64) (top0 : Nat → Nat) (Z0 : zZC) (P0 : Nat → Nat → Int64) (dg0 : Nat → Nat) (hTP0 : ∀ i, i < 8 → T0 i = P0 i ∧ top0 i = dg0 i) (hI0 : zInv P0 dg0) (j : Nat) (hj : j ≤ 24) (k : Nat) (hk : k ≤ 24) : zCt l yL_areBasics wsL_areBasics 6 158 D cL cI cR A F 30 (zCE cL cR F T0 top0 Z0) [.ref (F 24), .int (nI j), .int (nI k)] (zLo cL cR F (fun _ _ => True)) := by
  refine zStart (cc := cL_areBasics) (maxL := 5) (ret := (some .boolean)) (by decide +kernel) rfl (Nat.le_of_ble_eq_true rfl) ?_
  intro p e s m below meth c hx hb hr hml hlk hown hts hAm H hP hS ls hl
  have hown : s.vm.findClass RL = some m.cls := hown
  have hl : lv_has ls 5 [(0, .ref (F 24)), (1, .int (nI j)), (2, .int (nI k))] := hl
  have hjk : j * k ≤ 24 * 24 := Nat.mul_le_mul hj hk
  refine lv_aload_n hx hb dL_areBasics_0 rfl (lv_at hl 0 rfl) ?_
  refine lv_iload_n hx hb dL_areBasics_1 rfl (lv_at hl 1 rfl) ?_
  refine lv_iconst (v := nI 0) hx hb dL_areBasics_2 (by decide +kernel) ?_
  refine zcallV (As := [.int (nI j), .int (nI 0)]) (rest := []) (q := 24) (k := 2) hx hb hml hown hts (kX2_basis l D cL cI cR A F hF T0 top0 Z0 P0 dg0 hTP0 (zh24 hI0) 0 (by decide) j (by omega)) gL_areBasics_X2_basis rfl (by decide +kernel) ⟨Nat.le_of_ble_eq_true rfl, Nat.le_of_ble_eq_true rfl⟩ rfl (by decide) (zC_o) rfl rfl hAm hP hS rfl hl.1 rfl (Nat.le_of_ble_eq_true rfl) dL_areBasics_3 ⟨Nat.zero_le _, Nat.zero_le _⟩ (zkC (fun T1 top1 Z1 H locs hP hT1 hZ1 hS => ?_))
  refine W.eq (g2 := F0 m 6 ls [.long (lN j)]) rfl ?_
  obtain ⟨P1, dg1, hTP1, hI1, hs1_0, hk1⟩ := zo_basis hI0 (by omega) hT1
  refine lv_iload_n hx hb dL_areBasics_6 rfl (lv_at hl 1 rfl) ?_
  refine zi2l hx hb (by omega) dL_areBasics_7 ?_
  refine zl_ne (tgt := 79) hx hb dL_areBasics_8 dL_areBasics_9 (by decide) (fun c1 => ?_) (fun c1 => ?_)
  ·
    exact absurd rfl c1
  ·
    refine lv_aload_n hx hb dL_areBasics_12 rfl (lv_at hl 0 rfl) ?_
    refine lv_iload_n hx hb dL_areBasics_13 rfl (lv_at hl 2 rfl) ?_
    refine lv_iconst (v := nI 1) hx hb dL_areBasics_14 (by decide +kernel) ?_
    refine zcallV (As := [.int (nI k), .int (nI 1)]) (rest := []) (q := 24) (k := 2) hx hb hml hown hts (kX2_basis l D cL cI cR A F hF T1 top1 Z1 P1 dg1 hTP1 (zh24 hI1) 1 (by decide) k (by omega)) gL_areBasics_X2_basis rfl (by decide +kernel) ⟨Nat.le_of_ble_eq_true rfl, Nat.le_of_ble_eq_true rfl⟩ rfl (by decide) (zC_o) rfl rfl hAm hP hS rfl hl.1 rfl (Nat.le_of_ble_eq_true rfl) dL_areBasics_15 ⟨Nat.zero_le _, Nat.zero_le _⟩ (zkC (fun T2 top2 Z2 H locs hP hT2 hZ2 hS => ?_))
    refine W.eq (g2 := F0 m 18 ls [.long (lN k)]) rfl ?_
    obtain ⟨P2, dg2, hTP2, hI2, hs2_1, hk2⟩ := zo_basis hI1 (by omega) hT2
    have hs2_0 := hk2 0 _ _ (by decide) hs1_0
    refine lv_iload_n hx hb dL_areBasics_18 rfl (lv_at hl 2 rfl) ?_
    refine zi2l hx hb (by omega) dL_areBasics_19 ?_
    refine zl_ne (tgt := 79) hx hb dL_areBasics_20 dL_areBasics_21 (by decide) (fun c2 => ?_) (fun c2 => ?_)
    ·
      exact absurd rfl c2
    ·
      refine lv_aload_n hx hb dL_areBasics_24 rfl (lv_at hl 0 rfl) ?_
      refine lv_iconst (v := nI 0) hx hb dL_areBasics_25 (by decide +kernel) ?_
      refine zcallV (As := [.int (nI 0)]) (rest := []) (q := 24) (k := 1) hx hb hml hown hts (kX2_degree l D cL cI cR A F hF T2 top2 Z2 P2 dg2 hTP2 (zh24 hI2) 0 (by decide)) gL_areBasics_X2_degree rfl (by decide +kernel) ⟨Nat.le_of_ble_eq_true rfl, Nat.le_of_ble_eq_true rfl⟩ rfl (by decide) (zC_o) rfl rfl hAm hP hS rfl hl.1 rfl (Nat.le_of_ble_eq_true rfl) dL_areBasics_26 ⟨Nat.zero_le _, Nat.zero_le _⟩ (zkC (fun T3 top3 Z3 H locs hP hT3 hZ3 hS => ?_))
      refine W.eq (g2 := F0 m 29 ls [.long (lN (dg2 0))]) rfl ?_
      refine W.eq (g2 := F0 m 29 ls [.long (lN j)]) (by rw [hs2_0.2]) ?_
      refine lv_iload_n hx hb dL_areBasics_29 rfl (lv_at hl 1 rfl) ?_
      refine zi2l hx hb (by omega) dL_areBasics_30 ?_
      refine zl_ne (tgt := 79) hx hb dL_areBasics_31 dL_areBasics_32 (by decide) (fun c3 => ?_) (fun c3 => ?_)
      ·
        exact absurd rfl c3
      ·
        refine lv_aload_n hx hb dL_areBasics_35 rfl (lv_at hl 0 rfl) ?_
        refine lv_iconst (v := nI 0) hx hb dL_areBasics_36 (by decide +kernel) ?_
        refine lv_ldc hx hb hown (hts (.constant RL 24 (1048576)) (by decide +kernel)) dL_areBasics_37 ?_
        refine zcallV (As := [.int (nI 0), .int (1048576 : Int32)]) (rest := []) (q := 24) (k := 2) hx hb hml hown hts (kX2_value l D cL cI cR A F hF T3 top3 Z3 P2 dg2 hT3 (zh24 hI2) 0 (by decide) (1048576 : Int32) (by unfold zin; decide)) gL_areBasics_X2_value rfl (by decide +kernel) ⟨Nat.le_of_ble_eq_true rfl, Nat.le_of_ble_eq_true rfl⟩ rfl (by decide) (zC_o) rfl rfl hAm hP hS rfl hl.1 rfl (Nat.le_of_ble_eq_true rfl) dL_areBasics_39 ⟨Nat.zero_le _, Nat.zero_le _⟩ (zkC (fun T4 top4 Z4 H locs hP hT4 hZ4 hS => ?_))
        refine W.eq (g2 := F0 m 42 ls [.long (zval (P2 0) (dg2 0) (1048576 : Int32).toInt64)]) rfl ?_
        refine W.eq (g2 := F0 m 42 ls [.long (1048576 : Int64)]) (by rw [hs2_0.1, hs2_0.2, show ((1048576 : Int32)).toInt64 = 1048576 from rfl, zbv_p j (by omega)]) ?_
        refine lv_ldc2 hx hb hown (hts (.constantLong RL 28 (1048576)) (by decide +kernel)) dL_areBasics_42 ?_
        refine zl_ne (tgt := 79) hx hb dL_areBasics_45 dL_areBasics_46 (by decide) (fun c4 => ?_) (fun c4 => ?_)
        ·
          exact absurd rfl c4
        ·
          refine lv_aload_n hx hb dL_areBasics_49 rfl (lv_at hl 0 rfl) ?_
          refine lv_iconst (v := nI 0) hx hb dL_areBasics_50 (by decide +kernel) ?_
          refine lv_ldc hx hb hown (hts (.constant RL 30 (-1048576)) (by decide +kernel)) dL_areBasics_51 ?_
          refine zcallV (As := [.int (nI 0), .int (-1048576 : Int32)]) (rest := []) (q := 24) (k := 2) hx hb hml hown hts (kX2_value l D cL cI cR A F hF T4 top4 Z4 P2 dg2 hT4 (zh24 hI2) 0 (by decide) (-1048576 : Int32) (by unfold zin; decide)) gL_areBasics_X2_value rfl (by decide +kernel) ⟨Nat.le_of_ble_eq_true rfl, Nat.le_of_ble_eq_true rfl⟩ rfl (by decide) (zC_o) rfl rfl hAm hP hS rfl hl.1 rfl (Nat.le_of_ble_eq_true rfl) dL_areBasics_53 ⟨Nat.zero_le _, Nat.zero_le _⟩ (zkC (fun T5 top5 Z5 H locs hP hT5 hZ5 hS => ?_))
          refine W.eq (g2 := F0 m 56 ls [.long (zval (P2 0) (dg2 0) (-1048576 : Int32).toInt64)]) rfl ?_
          refine W.eq (g2 := F0 m 56 ls [.long (if j % 2 = 0 then 1048576 else -1048576)]) (by rw [hs2_0.1, hs2_0.2, show ((-1048576 : Int32)).toInt64 = -1048576 from rfl, zbv_m j (by omega)]) ?_
          have J71 : ∀ (v : Int64) (hv : v = (if j % 2 = 0 then 1048576 else -1048576)) (H : Heap) (locs : List Loc), va_P D vwCl (zq_wd F 30 (zCE cL cR F T5 top5 Z5)) H → va_S A s.heap H locs → ∀ (ls : Array Slot), lv_has ls 5 [(0, .ref (F 24)), (1, .int (nI j)), (2, .int (nI k))] → W p l e ({ frames := 6, cells := 0, slots := 0, locals := 158 }) s m ([.ref (F 24), .int (nI j), .int (nI k)] : List Value).toArray below meth c H locs 0 0 (zQ below D A F 30 [.ref (F 24), .int (nI j), .int (nI k)] s (zLo cL cR F (fun _ _ => True))) (F0 m 71 ls [.long v, .long (if j % 2 = 0 then 1048576 else -1048576)]) := by
            intro v hv H locs hP hS ls hl
            refine zl_ne (tgt := 79) hx hb dL_areBasics_71 dL_areBasics_72 (by decide) (fun c5 => ?_) (fun c5 => ?_)
            ·
              exact absurd hv.symm c5
            ·
              refine lv_iconst (v := nI 1) hx hb dL_areBasics_75 (by decide +kernel) ?_
              refine lv_goto (tgt := 80) hx hb dL_areBasics_76 (by decide) ?_
              refine lv_istore_n (lv' := [(3, .int (nI 1)), (0, .ref (F 24)), (1, .int (nI j)), (2, .int (nI k))]) hx hb dL_areBasics_80 rfl hl (by decide) rfl (fun ls hl => ?_)
              have J95 : ∀ (off : Nat) (hoff : off = j - k + (k - j)) (H : Heap) (locs : List Loc), va_P D vwCl (zq_wd F 30 (zCE cL cR F T5 top5 Z5)) H → va_S A s.heap H locs → ∀ (ls : Array Slot), lv_has ls 5 [(3, .int (nI 1)), (0, .ref (F 24)), (1, .int (nI j)), (2, .int (nI k))] → W p l e ({ frames := 6, cells := 0, slots := 0, locals := 158 }) s m ([.ref (F 24), .int (nI j), .int (nI k)] : List Value).toArray below meth c H locs 0 0 (zQ below D A F 30 [.ref (F 24), .int (nI j), .int (nI k)] s (zLo cL cR F (fun _ _ => True))) (F0 m 95 ls [.int (nI off)]) := by
                intro off hoff H locs hP hS ls hl
                refine lv_istore (lv' := [(4, .int (nI off)), (3, .int (nI 1)), (0, .ref (F 24)), (1, .int (nI j)), (2, .int (nI k))]) hx hb dL_areBasics_95 hl (by decide) rfl (fun ls hl => ?_)
                refine lv_iload_n hx hb dL_areBasics_97 rfl (lv_at hl 3 rfl) ?_
                refine lv_iload_n hx hb dL_areBasics_98 rfl (lv_at hl 4 rfl) ?_
                refine ziadd (d := (j + k)) hx hb (by omega) dL_areBasics_99 ?_
                refine lv_bipush (v := nI 24) hx hb dL_areBasics_100 (by decide +kernel) ?_
                refine zi_le (tgt := 129) hx hb dL_areBasics_102 (by decide) (by omega) (by omega) (fun c6 => ?_) (fun c6 => ?_)
                ·
                  refine lv_iload_n hx hb dL_areBasics_129 rfl (lv_at hl 1 rfl) ?_
                  refine zf_eq (tgt := 209) hx hb dL_areBasics_130 (by decide) (by omega) (fun c7 => ?_) (fun c7 => ?_)
                  ·
                    exfalso; omega
                  ·
                    refine lv_aload_n hx hb dL_areBasics_133 rfl (lv_at hl 2 rfl) ?_
                    refine lv_iconst (v := nI 0) hx hb dL_areBasics_134 (by decide +kernel) ?_
                    refine lv_iconst (v := nI 1) hx hb dL_areBasics_135 (by decide +kernel) ?_
                    refine lv_iconst (v := nI 2) hx hb dL_areBasics_136 (by decide +kernel) ?_
                    refine zcallV (As := [.int (nI 0), .int (nI 1), .int (nI 2)]) (rest := []) (q := 24) (k := 3) hx hb hml hown hts (kX2_multiply l D cL cI cR A F hF T5 top5 Z5 P2 dg2 hT5 (zh24 hI2) 0 (by decide) 1 (by decide) 2 (by decide)) gL_areBasics_X2_multiply rfl (by decide +kernel) ⟨Nat.le_of_ble_eq_true rfl, Nat.le_of_ble_eq_true rfl⟩ rfl (by decide) (zC_o) rfl rfl hAm hP hS rfl hl.1 rfl (Nat.le_of_ble_eq_true rfl) dL_areBasics_137 ⟨Nat.zero_le _, Nat.zero_le _⟩ (zkC (fun T6 top6 Z6 H locs hP hT6 hZ6 hS => ?_))
                    refine W.eq (g2 := F0 m 140 ls [.long (zkr (zprod (P2 0) (dg2 0) (P2 1) (dg2 1)))]) rfl ?_
                    refine W.eq (g2 := F0 m 140 ls [.long (lN (j + k))]) (by rw [hs2_0.1, hs2_0.2, hs2_1.1, hs2_1.2, zkr_ok (zprod_bb_ok (by omega)) (zprod_bb_top (by omega))]) ?_
                    obtain ⟨P6, dg6, hTP6, hI6, hs6_2, hk6⟩ := zo_mul hI2 (by decide) (by decide) hs2_0 hs2_1 (zprod_bb_ok (by omega)) (zprod_bb_top (by omega)) hT6
                    have hs6_0 := hk6 0 _ _ (by decide) hs2_0
                    have hs6_1 := hk6 1 _ _ (by decide) hs2_1
                    refine lv_iload_n hx hb dL_areBasics_140 rfl (lv_at hl 3 rfl) ?_
                    refine lv_iload_n hx hb dL_areBasics_141 rfl (lv_at hl 4 rfl) ?_
                    refine ziadd (d := (j + k)) hx hb (by omega) dL_areBasics_142 ?_
                    refine zi2l hx hb (by omega) dL_areBasics_143 ?_
                    refine zl_ne (tgt := 209) hx hb dL_areBasics_144 dL_areBasics_145 (by decide) (fun c8 => ?_) (fun c8 => ?_)
                    ·
                      exact absurd rfl c8
                    ·
                      refine lv_aload_n hx hb dL_areBasics_148 rfl (lv_at hl 2 rfl) ?_
                      refine lv_iconst (v := nI 2) hx hb dL_areBasics_149 (by decide +kernel) ?_
                      refine lv_iload_n hx hb dL_areBasics_150 rfl (lv_at hl 3 rfl) ?_
                      refine lv_iload_n hx hb dL_areBasics_151 rfl (lv_at hl 4 rfl) ?_
                      refine ziadd (d := (j + k)) hx hb (by omega) dL_areBasics_152 ?_
                      refine zcallV (As := [.int (nI 2), .int (nI (j + k))]) (rest := []) (q := 24) (k := 2) hx hb hml hown hts (kX2_coefficient l D cL cI cR A F hF T6 top6 Z6 P6 dg6 hTP6 (zh24 hI6) 2 (by decide) (j + k) (by omega)) gL_areBasics_X2_coefficient rfl (by decide +kernel) ⟨Nat.le_of_ble_eq_true rfl, Nat.le_of_ble_eq_true rfl⟩ rfl (by decide) (zC_o) rfl rfl hAm hP hS rfl hl.1 rfl (Nat.le_of_ble_eq_true rfl) dL_areBasics_153 ⟨Nat.zero_le _, Nat.zero_le _⟩ (zkC (fun T7 top7 Z7 H locs hP hT7 hZ7 hS => ?_))
                      refine W.eq (g2 := F0 m 156 ls [.long (P6 2 (j + k))]) rfl ?_
                      refine W.eq (g2 := F0 m 156 ls [.long (if off = j + k then 1048576 else 524288)]) (by rw [hs6_2.1, zbb_hi hoff]) ?_
                      have J173 : ∀ (v : Int64) (hv1 : v = (if off = j + k then 1048576 else 524288)) (H : Heap) (locs : List Loc), va_P D vwCl (zq_wd F 30 (zCE cL cR F T7 top7 Z7)) H → va_S A s.heap H locs → ∀ (ls : Array Slot), lv_has ls 5 [(4, .int (nI off)), (3, .int (nI 1)), (0, .ref (F 24)), (1, .int (nI j)), (2, .int (nI k))] → W p l e ({ frames := 6, cells := 0, slots := 0, locals := 158 }) s m ([.ref (F 24), .int (nI j), .int (nI k)] : List Value).toArray below meth c H locs 0 0 (zQ below D A F 30 [.ref (F 24), .int (nI j), .int (nI k)] s (zLo cL cR F (fun _ _ => True))) (F0 m 173 ls [.long v, .long (if off = j + k then 1048576 else 524288)]) := by
                        intro v hv1 H locs hP hS ls hl
                        refine zl_ne (tgt := 209) hx hb dL_areBasics_173 dL_areBasics_174 (by decide) (fun c9 => ?_) (fun c9 => ?_)
                        ·
                          exact absurd hv1.symm c9
                        ·
                          refine lv_aload_n hx hb dL_areBasics_177 rfl (lv_at hl 2 rfl) ?_
                          refine lv_iconst (v := nI 2) hx hb dL_areBasics_178 (by decide +kernel) ?_
                          refine lv_iload hx hb dL_areBasics_179 (lv_at hl 0 rfl) ?_
                          refine zcallV (As := [.int (nI 2), .int (nI off)]) (rest := []) (q := 24) (k := 2) hx hb hml hown hts (kX2_coefficient l D cL cI cR A F hF T7 top7 Z7 P6 dg6 hT7 (zh24 hI6) 2 (by decide) off (by omega)) gL_areBasics_X2_coefficient rfl (by decide +kernel) ⟨Nat.le_of_ble_eq_true rfl, Nat.le_of_ble_eq_true rfl⟩ rfl (by decide) (zC_o) rfl rfl hAm hP hS rfl hl.1 rfl (Nat.le_of_ble_eq_true rfl) dL_areBasics_181 ⟨Nat.zero_le _, Nat.zero_le _⟩ (zkC (fun T8 top8 Z8 H locs hP hT8 hZ8 hS => ?_))
                          refine W.eq (g2 := F0 m 184 ls [.long (P6 2 off)]) rfl ?_
                          refine W.eq (g2 := F0 m 184 ls [.long (if off = j + k then 1048576 else 524288)]) (by rw [hs6_2.1, zbb_lo hoff]) ?_
                          have J201 : ∀ (v : Int64) (hv2 : v = (if off = j + k then 1048576 else 524288)) (H : Heap) (locs : List Loc), va_P D vwCl (zq_wd F 30 (zCE cL cR F T8 top8 Z8)) H → va_S A s.heap H locs → ∀ (ls : Array Slot), lv_has ls 5 [(4, .int (nI off)), (3, .int (nI 1)), (0, .ref (F 24)), (1, .int (nI j)), (2, .int (nI k))] → W p l e ({ frames := 6, cells := 0, slots := 0, locals := 158 }) s m ([.ref (F 24), .int (nI j), .int (nI k)] : List Value).toArray below meth c H locs 0 0 (zQ below D A F 30 [.ref (F 24), .int (nI j), .int (nI k)] s (zLo cL cR F (fun _ _ => True))) (F0 m 201 ls [.long v, .long (if off = j + k then 1048576 else 524288)]) := by
                            intro v hv2 H locs hP hS ls hl
                            refine zl_ne (tgt := 209) hx hb dL_areBasics_201 dL_areBasics_202 (by decide) (fun c10 => ?_) (fun c10 => ?_)
                            ·
                              exact absurd hv2.symm c10
                            ·
                              refine lv_iconst (v := nI 1) hx hb dL_areBasics_205 (by decide +kernel) ?_
                              refine lv_goto (tgt := 210) hx hb dL_areBasics_206 (by decide) ?_
                              refine lv_istore_n (lv' := [(3, .int (nI 1)), (4, .int (nI off)), (0, .ref (F 24)), (1, .int (nI j)), (2, .int (nI k))]) hx hb dL_areBasics_210 rfl hl (by decide) rfl (fun ls hl => ?_)
                              refine lv_iload_n hx hb dL_areBasics_211 rfl (lv_at hl 0 rfl) ?_
                              refine zf_eq (tgt := 317) hx hb dL_areBasics_212 (by decide) (by omega) (fun c11 => ?_) (fun c11 => ?_)
                              ·
                                exfalso; omega
                              ·
                                have J265 : ∀ (T9a : Nat → Nat → Int64) (top9a : Nat → Nat) (Z9a : zZC) (P9a : Nat → Nat → Int64) (dg9a : Nat → Nat) (hTP9a : ∀ i, i < 8 → T9a i = P9a i ∧ top9a i = dg9a i) (hI9a : zInv P9a dg9a) (hs9a_0 : P9a 0 = ztb j ∧ dg9a 0 = j) (hs9a_1 : P9a 1 = ztb k ∧ dg9a 1 = k) (H : Heap) (locs : List Loc), va_P D vwCl (zq_wd F 30 (zCE cL cR F T9a top9a Z9a)) H → va_S A s.heap H locs → ∀ (ls : Array Slot), lv_has ls 5 [(3, .int (nI 1)), (4, .int (nI off)), (0, .ref (F 24)), (1, .int (nI j)), (2, .int (nI k))] → W p l e ({ frames := 6, cells := 0, slots := 0, locals := 158 }) s m ([.ref (F 24), .int (nI j), .int (nI k)] : List Value).toArray below meth c H locs 0 0 (zQ below D A F 30 [.ref (F 24), .int (nI j), .int (nI k)] s (zLo cL cR F (fun _ _ => True))) (F0 m 265 ls []) := by
                                  intro T9a top9a Z9a P9a dg9a hTP9a hI9a hs9a_0 hs9a_1 H locs hP hS ls hl
                                  refine lv_aload_n hx hb dL_areBasics_265 rfl (lv_at hl 2 rfl) ?_
                                  refine lv_iconst (v := nI 0) hx hb dL_areBasics_266 (by decide +kernel) ?_
                                  refine lv_iconst (v := nI 1) hx hb dL_areBasics_267 (by decide +kernel) ?_
                                  refine zcallV (As := [.int (nI 0), .int (nI 1)]) (rest := []) (q := 24) (k := 2) hx hb hml hown hts (kX2_inner l D cL cI cR A F hF T9a top9a Z9a P9a dg9a hTP9a (zh24 hI9a) 0 (by decide) 1 (by decide)) gL_areBasics_X2_inner rfl (by decide +kernel) ⟨Nat.le_of_ble_eq_true rfl, Nat.le_of_ble_eq_true rfl⟩ rfl (by decide) (zC_o) rfl rfl hAm hP hS rfl hl.1 rfl (Nat.le_of_ble_eq_true rfl) dL_areBasics_268 ⟨Nat.zero_le _, Nat.zero_le _⟩ (zkC (fun T9 top9 Z9 H locs hP hT9 hZ9 hS => ?_))
                                  refine W.eq (g2 := F0 m 271 ls [.long (zR (zinn (P9a 0) (P9a 1) 24) 1048576)]) rfl ?_
                                  refine W.eq (g2 := F0 m 271 ls [.long (if j = k then (if j = 0 then 2097152 else 1048576) else 0)]) (by rw [hs9a_0.1, hs9a_1.1, zinn_all hj]) ?_
                                  have J293 : ∀ (v : Int64) (hv3 : v = (if j = k then (if j = 0 then 2097152 else 1048576) else 0)) (H : Heap) (locs : List Loc), va_P D vwCl (zq_wd F 30 (zCE cL cR F T9 top9 Z9)) H → va_S A s.heap H locs → ∀ (ls : Array Slot), lv_has ls 5 [(3, .int (nI 1)), (4, .int (nI off)), (0, .ref (F 24)), (1, .int (nI j)), (2, .int (nI k))] → W p l e ({ frames := 6, cells := 0, slots := 0, locals := 158 }) s m ([.ref (F 24), .int (nI j), .int (nI k)] : List Value).toArray below meth c H locs 0 0 (zQ below D A F 30 [.ref (F 24), .int (nI j), .int (nI k)] s (zLo cL cR F (fun _ _ => True))) (F0 m 293 ls [.long v, .long (if j = k then (if j = 0 then 2097152 else 1048576) else 0)]) := by
                                    intro v hv3 H locs hP hS ls hl
                                    refine zl_ne (tgt := 317) hx hb dL_areBasics_293 dL_areBasics_294 (by decide) (fun c12 => ?_) (fun c12 => ?_)
                                    ·
                                      exact absurd hv3.symm c12
                                    ·
                                      refine lv_iload_n hx hb dL_areBasics_297 rfl (lv_at hl 3 rfl) ?_
                                      refine lv_iload_n hx hb dL_areBasics_298 rfl (lv_at hl 4 rfl) ?_
                                      refine zi_eq (tgt := 313) hx hb dL_areBasics_299 (by decide) (by omega) (by omega) (fun c13 => ?_) (fun c13 => ?_)
                                      ·
                                        refine lv_iconst (v := nI 1) hx hb dL_areBasics_313 (by decide +kernel) ?_
                                        refine lv_goto (tgt := 318) hx hb dL_areBasics_314 (by decide) ?_
                                        exact zretZ hx hb hr hlk hS hP (by first | rfl | (rw [hv]; unfold zbN; split <;> rfl)) dL_areBasics_318 ⟨_, _, _, _, _, rfl, rfl, hT9, hI9a, trivial⟩
                                      ·
                                        refine lv_aload_n hx hb dL_areBasics_302 rfl (lv_at hl 2 rfl) ?_
                                        refine lv_iconst (v := nI 0) hx hb dL_areBasics_303 (by decide +kernel) ?_
                                        refine lv_iconst (v := nI 1) hx hb dL_areBasics_304 (by decide +kernel) ?_
                                        refine zcallV (As := [.int (nI 0), .int (nI 1)]) (rest := []) (q := 24) (k := 2) hx hb hml hown hts (kX2_inner l D cL cI cR A F hF T9 top9 Z9 P9a dg9a hT9 (zh24 hI9a) 0 (by decide) 1 (by decide)) gL_areBasics_X2_inner rfl (by decide +kernel) ⟨Nat.le_of_ble_eq_true rfl, Nat.le_of_ble_eq_true rfl⟩ rfl (by decide) (zC_o) rfl rfl hAm hP hS rfl hl.1 rfl (Nat.le_of_ble_eq_true rfl) dL_areBasics_305 ⟨Nat.zero_le _, Nat.zero_le _⟩ (zkC (fun T10 top10 Z10 H locs hP hT10 hZ10 hS => ?_))
                                        refine W.eq (g2 := F0 m 308 ls [.long (zR (zinn (P9a 0) (P9a 1) 24) 1048576)]) rfl ?_
                                        refine W.eq (g2 := F0 m 308 ls [.long (0 : Int64)]) (by rw [hs9a_0.1, hs9a_1.1, zinn_all hj, if_neg (by omega)]) ?_
                                        refine lv_lconst (v := (0 : Int64)) hx hb dL_areBasics_308 (by decide +kernel) ?_
                                        refine zl_ne (tgt := 317) hx hb dL_areBasics_309 dL_areBasics_310 (by decide) (fun c14 => ?_) (fun c14 => ?_)
                                        ·
                                          exact absurd rfl c14
                                        ·
                                          refine lv_iconst (v := nI 1) hx hb dL_areBasics_313 (by decide +kernel) ?_
                                          refine lv_goto (tgt := 318) hx hb dL_areBasics_314 (by decide) ?_
                                          exact zretZ hx hb hr hlk hS hP (by first | rfl | (rw [hv]; unfold zbN; split <;> rfl)) dL_areBasics_318 ⟨_, _, _, _, _, rfl, rfl, hT10, hI9a, trivial⟩
                                  refine lv_iload_n hx hb dL_areBasics_271 rfl (lv_at hl 3 rfl) ?_
                                  refine lv_iload_n hx hb dL_areBasics_272 rfl (lv_at hl 4 rfl) ?_
                                  refine zi_eq (tgt := 280) hx hb dL_areBasics_273 (by decide) (by omega) (by omega) (fun c15 => ?_) (fun c15 => ?_)
                                  ·
                                    refine lv_iload_n hx hb dL_areBasics_280 rfl (lv_at hl 3 rfl) ?_
                                    refine zf_ne (tgt := 290) hx hb dL_areBasics_281 (by decide) (by omega) (fun c16 => ?_) (fun c16 => ?_)
                                    ·
                                      refine lv_ldc2 hx hb hown (hts (.constantLong RL 28 (1048576)) (by decide +kernel)) dL_areBasics_290 ?_
                                      exact J293 1048576 (by rw [if_pos (by omega), if_neg (by omega)]) H _ hP hS ls (lv_sub hl [0, 1, 2, 3, 4] rfl)
                                    ·
                                      refine lv_ldc2 hx hb hown (hts (.constantLong RL 52 (2097152)) (by decide +kernel)) dL_areBasics_284 ?_
                                      refine lv_goto (tgt := 293) hx hb dL_areBasics_287 (by decide) ?_
                                      exact J293 2097152 (by rw [if_pos (by omega), if_pos (by omega)]) H _ hP hS ls (lv_sub hl [0, 1, 2, 3, 4] rfl)
                                  ·
                                    refine lv_lconst (v := (0 : Int64)) hx hb dL_areBasics_276 (by decide +kernel) ?_
                                    refine lv_goto (tgt := 293) hx hb dL_areBasics_277 (by decide) ?_
                                    exact J293 0 (by rw [if_neg (by omega)]) H _ hP hS ls (lv_sub hl [0, 1, 2, 3, 4] rfl)
                                refine lv_iload_n hx hb dL_areBasics_215 rfl (lv_at hl 3 rfl) ?_
                                refine lv_iload_n hx hb dL_areBasics_216 rfl (lv_at hl 4 rfl) ?_
                                refine zimul (d := (j * k)) hx hb rfl dL_areBasics_217 ?_
                                refine lv_bipush (v := nI 24) hx hb dL_areBasics_218 (by decide +kernel) ?_
                                refine zi_gt (tgt := 265) hx hb dL_areBasics_220 (by decide) (by omega) (by omega) (fun c17 => ?_) (fun c17 => ?_)
                                ·
                                  exact J265 T8 top8 Z8 P6 dg6 hT8 hI6 hs6_0 hs6_1 H _ hP hS ls (lv_sub hl [0, 1, 2, 3, 4] rfl)
                                ·
                                  refine lv_aload_n hx hb dL_areBasics_223 rfl (lv_at hl 2 rfl) ?_
                                  refine lv_iconst (v := nI 0) hx hb dL_areBasics_224 (by decide +kernel) ?_
                                  refine lv_iconst (v := nI 1) hx hb dL_areBasics_225 (by decide +kernel) ?_
                                  refine lv_iconst (v := nI 2) hx hb dL_areBasics_226 (by decide +kernel) ?_
                                  refine zcallV (As := [.int (nI 0), .int (nI 1), .int (nI 2)]) (rest := []) (q := 24) (k := 3) hx hb hml hown hts (kX2_compose l D cL cI cR A F hF T8 top8 Z8 P6 dg6 hT8 (zh24 hI6) 0 (by decide) 1 (by decide) 2 (by decide)) gL_areBasics_X2_compose rfl (by decide +kernel) ⟨Nat.le_of_ble_eq_true rfl, Nat.le_of_ble_eq_true rfl⟩ rfl (by decide) (zC_o) rfl rfl hAm hP hS rfl hl.1 rfl (Nat.le_of_ble_eq_true rfl) dL_areBasics_227 ⟨Nat.zero_le _, Nat.zero_le _⟩ (zkC (fun T11 top11 Z11 H locs hP hT11 hZ11 hS => ?_))
                                  refine W.eq (g2 := F0 m 230 ls [.long (if (zcomp (P6 0) (P6 1) (dg6 1) (dg6 0) (fun _ => 0) 0 (fun _ => 0)).1 = 0 then zkr (zcomp (P6 0) (P6 1) (dg6 1) (dg6 0) (fun _ => 0) 0 (fun _ => 0)).2 else (zcomp (P6 0) (P6 1) (dg6 1) (dg6 0) (fun _ => 0) 0 (fun _ => 0)).1)]) rfl ?_
                                  refine W.eq (g2 := F0 m 230 ls [.long (lN (j * k))]) (by rw [hs6_0.1, hs6_1.1, hs6_0.2, hs6_1.2, (zcomp_bb hj hk (by omega)), if_pos rfl, zkr_ok (zke_ztb (by omega)) (zbas_top (by omega))]) ?_
                                  obtain ⟨P11, dg11, hTP11, hI11, hs11_2, hk11⟩ := zo_comp hI6 (by decide) (by decide) hs6_0 hs6_1 (zcomp_bb hj hk (by omega)) (zke_ztb (by omega)) (zbas_top (by omega)) hT11
                                  have hs11_0 := hk11 0 _ _ (by decide) hs6_0
                                  have hs11_1 := hk11 1 _ _ (by decide) hs6_1
                                  refine lv_iload_n hx hb dL_areBasics_230 rfl (lv_at hl 3 rfl) ?_
                                  refine lv_iload_n hx hb dL_areBasics_231 rfl (lv_at hl 4 rfl) ?_
                                  refine zimul (d := (j * k)) hx hb rfl dL_areBasics_232 ?_
                                  refine zi2l hx hb (by omega) dL_areBasics_233 ?_
                                  refine zl_ne (tgt := 317) hx hb dL_areBasics_234 dL_areBasics_235 (by decide) (fun c18 => ?_) (fun c18 => ?_)
                                  ·
                                    exact absurd rfl c18
                                  ·
                                    refine lv_aload_n hx hb dL_areBasics_238 rfl (lv_at hl 2 rfl) ?_
                                    refine lv_iconst (v := nI 2) hx hb dL_areBasics_239 (by decide +kernel) ?_
                                    refine lv_iload_n hx hb dL_areBasics_240 rfl (lv_at hl 3 rfl) ?_
                                    refine lv_iload_n hx hb dL_areBasics_241 rfl (lv_at hl 4 rfl) ?_
                                    refine zimul (d := (j * k)) hx hb rfl dL_areBasics_242 ?_
                                    refine zcallV (As := [.int (nI 2), .int (nI (j * k))]) (rest := []) (q := 24) (k := 2) hx hb hml hown hts (kX2_coefficient l D cL cI cR A F hF T11 top11 Z11 P11 dg11 hTP11 (zh24 hI11) 2 (by decide) (j * k) (by omega)) gL_areBasics_X2_coefficient rfl (by decide +kernel) ⟨Nat.le_of_ble_eq_true rfl, Nat.le_of_ble_eq_true rfl⟩ rfl (by decide) (zC_o) rfl rfl hAm hP hS rfl hl.1 rfl (Nat.le_of_ble_eq_true rfl) dL_areBasics_243 ⟨Nat.zero_le _, Nat.zero_le _⟩ (zkC (fun T12 top12 Z12 H locs hP hT12 hZ12 hS => ?_))
                                    refine W.eq (g2 := F0 m 246 ls [.long (P11 2 (j * k))]) rfl ?_
                                    refine W.eq (g2 := F0 m 246 ls [.long (1048576 : Int64)]) (by rw [hs11_2.1, ztb_at]) ?_
                                    refine lv_ldc2 hx hb hown (hts (.constantLong RL 28 (1048576)) (by decide +kernel)) dL_areBasics_246 ?_
                                    refine zl_ne (tgt := 317) hx hb dL_areBasics_249 dL_areBasics_250 (by decide) (fun c19 => ?_) (fun c19 => ?_)
                                    ·
                                      exact absurd rfl c19
                                    ·
                                      refine lv_aload_n hx hb dL_areBasics_253 rfl (lv_at hl 2 rfl) ?_
                                      refine lv_iconst (v := nI 2) hx hb dL_areBasics_254 (by decide +kernel) ?_
                                      refine zcallV (As := [.int (nI 2)]) (rest := []) (q := 24) (k := 1) hx hb hml hown hts (kX2_bound l D cL cI cR A F hF T12 top12 Z12 P11 dg11 hT12 (zh24 hI11) 2 (by decide)) gL_areBasics_X2_bound rfl (by decide +kernel) ⟨Nat.le_of_ble_eq_true rfl, Nat.le_of_ble_eq_true rfl⟩ rfl (by decide) (zC_o) rfl rfl hAm hP hS rfl hl.1 rfl (Nat.le_of_ble_eq_true rfl) dL_areBasics_255 ⟨Nat.zero_le _, Nat.zero_le _⟩ (zkC (fun T13 top13 Z13 H locs hP hT13 hZ13 hS => ?_))
                                      refine W.eq (g2 := F0 m 258 ls [.long (zbd (P11 2) 25)]) rfl ?_
                                      refine W.eq (g2 := F0 m 258 ls [.long (1048576 : Int64)]) (by rw [hs11_2.1, zbb (j * k) (by omega)]) ?_
                                      refine lv_ldc2 hx hb hown (hts (.constantLong RL 28 (1048576)) (by decide +kernel)) dL_areBasics_258 ?_
                                      refine zl_ne (tgt := 317) hx hb dL_areBasics_261 dL_areBasics_262 (by decide) (fun c20 => ?_) (fun c20 => ?_)
                                      ·
                                        exact absurd rfl c20
                                      ·
                                        exact J265 T13 top13 Z13 P11 dg11 hT13 hI11 hs11_0 hs11_1 H _ hP hS ls (lv_sub hl [0, 1, 2, 3, 4] rfl)
                          refine lv_iload hx hb dL_areBasics_184 (lv_at hl 0 rfl) ?_
                          refine lv_iload_n hx hb dL_areBasics_186 rfl (lv_at hl 3 rfl) ?_
                          refine lv_iload_n hx hb dL_areBasics_187 rfl (lv_at hl 4 rfl) ?_
                          refine ziadd (d := (j + k)) hx hb (by omega) dL_areBasics_188 ?_
                          refine zi_ne (tgt := 198) hx hb dL_areBasics_189 (by decide) (by omega) (by omega) (fun c21 => ?_) (fun c21 => ?_)
                          ·
                            refine lv_ldc2 hx hb hown (hts (.constantLong RL 41 (524288)) (by decide +kernel)) dL_areBasics_198 ?_
                            exact J201 524288 (by rw [if_neg (by omega)]) H _ hP hS ls (lv_sub hl [0, 1, 2, 3, 4] rfl)
                          ·
                            refine lv_ldc2 hx hb hown (hts (.constantLong RL 28 (1048576)) (by decide +kernel)) dL_areBasics_192 ?_
                            refine lv_goto (tgt := 201) hx hb dL_areBasics_195 (by decide) ?_
                            exact J201 1048576 (by rw [if_pos (by omega)]) H _ hP hS ls (lv_sub hl [0, 1, 2, 3, 4] rfl)
                      refine lv_iload hx hb dL_areBasics_156 (lv_at hl 0 rfl) ?_
                      refine lv_iload_n hx hb dL_areBasics_158 rfl (lv_at hl 3 rfl) ?_
                      refine lv_iload_n hx hb dL_areBasics_159 rfl (lv_at hl 4 rfl) ?_
                      refine ziadd (d := (j + k)) hx hb (by omega) dL_areBasics_160 ?_
                      refine zi_ne (tgt := 170) hx hb dL_areBasics_161 (by decide) (by omega) (by omega) (fun c22 => ?_) (fun c22 => ?_)
                      ·
                        refine lv_ldc2 hx hb hown (hts (.constantLong RL 41 (524288)) (by decide +kernel)) dL_areBasics_170 ?_
                        exact J173 524288 (by rw [if_neg (by omega)]) H _ hP hS ls (lv_sub hl [0, 1, 2, 3, 4] rfl)
                      ·
                        refine lv_ldc2 hx hb hown (hts (.constantLong RL 28 (1048576)) (by decide +kernel)) dL_areBasics_164 ?_
                        refine lv_goto (tgt := 173) hx hb dL_areBasics_167 (by decide) ?_
                        exact J173 1048576 (by rw [if_pos (by omega)]) H _ hP hS ls (lv_sub hl [0, 1, 2, 3, 4] rfl)
                ·
                  refine lv_iload_n hx hb dL_areBasics_105 rfl (lv_at hl 1 rfl) ?_
                  refine zf_eq (tgt := 127) hx hb dL_areBasics_106 (by decide) (by omega) (fun c23 => ?_) (fun c23 => ?_)
                  ·
                    exfalso; omega
                  ·
                    refine lv_aload_n hx hb dL_areBasics_109 rfl (lv_at hl 2 rfl) ?_
                    refine lv_iconst (v := nI 0) hx hb dL_areBasics_110 (by decide +kernel) ?_
                    refine lv_iconst (v := nI 1) hx hb dL_areBasics_111 (by decide +kernel) ?_
                    refine lv_iconst (v := nI 2) hx hb dL_areBasics_112 (by decide +kernel) ?_
                    refine zcallV (As := [.int (nI 0), .int (nI 1), .int (nI 2)]) (rest := []) (q := 24) (k := 3) hx hb hml hown hts (kX2_multiply l D cL cI cR A F hF T5 top5 Z5 P2 dg2 hT5 (zh24 hI2) 0 (by decide) 1 (by decide) 2 (by decide)) gL_areBasics_X2_multiply rfl (by decide +kernel) ⟨Nat.le_of_ble_eq_true rfl, Nat.le_of_ble_eq_true rfl⟩ rfl (by decide) (zC_o) rfl rfl hAm hP hS rfl hl.1 rfl (Nat.le_of_ble_eq_true rfl) dL_areBasics_113 ⟨Nat.zero_le _, Nat.zero_le _⟩ (zkC (fun T14 top14 Z14 H locs hP hT14 hZ14 hS => ?_))
                    refine W.eq (g2 := F0 m 116 ls [.long (zkr (zprod (P2 0) (dg2 0) (P2 1) (dg2 1)))]) rfl ?_
                    refine W.eq (g2 := F0 m 116 ls [.long (-9000000000000000002 : Int64)]) (by rw [hs2_0.1, hs2_0.2, hs2_1.1, hs2_1.2, show zkr (zprod (ztb j) j (ztb k) k) = -9000000000000000002 from by unfold zkr; rw [zprod_bb_no hj hk (by omega)]; rfl]) ?_
                    refine lv_ldc2 hx hb hown (hts (.constantLong RL 36 (-9000000000000000002)) (by decide +kernel)) dL_areBasics_116 ?_
                    refine zl_ne (tgt := 127) hx hb dL_areBasics_119 dL_areBasics_120 (by decide) (fun c24 => ?_) (fun c24 => ?_)
                    ·
                      exact absurd rfl c24
                    ·
                      refine lv_iconst (v := nI 1) hx hb dL_areBasics_123 (by decide +kernel) ?_
                      refine lv_goto (tgt := 128) hx hb dL_areBasics_124 (by decide) ?_
                      exact zretZ hx hb hr hlk hS hP (by first | rfl | (rw [hv]; unfold zbN; split <;> rfl)) dL_areBasics_128 ⟨_, _, _, _, _, rfl, rfl, hT14, (zI_mul hI2 2 (by decide) (by decide)), trivial⟩
              refine lv_iload_n hx hb dL_areBasics_81 rfl (lv_at hl 2 rfl) ?_
              refine lv_iload_n hx hb dL_areBasics_82 rfl (lv_at hl 3 rfl) ?_
              refine zi_le (tgt := 92) hx hb dL_areBasics_83 (by decide) (by omega) (by omega) (fun c25 => ?_) (fun c25 => ?_)
              ·
                refine lv_iload_n hx hb dL_areBasics_92 rfl (lv_at hl 3 rfl) ?_
                refine lv_iload_n hx hb dL_areBasics_93 rfl (lv_at hl 2 rfl) ?_
                refine zisub (d := (k - j)) hx hb (by omega) dL_areBasics_94 ?_
                exact J95 (k - j) (by omega) H _ hP hS ls (lv_sub hl [0, 1, 2, 3] rfl)
              ·
                refine lv_iload_n hx hb dL_areBasics_86 rfl (lv_at hl 2 rfl) ?_
                refine lv_iload_n hx hb dL_areBasics_87 rfl (lv_at hl 3 rfl) ?_
                refine zisub (d := (j - k)) hx hb (by omega) dL_areBasics_88 ?_
                refine lv_goto (tgt := 95) hx hb dL_areBasics_89 (by decide) ?_
                exact J95 (j - k) (by omega) H _ hP hS ls (lv_sub hl [0, 1, 2, 3] rfl)
          refine lv_iload_n hx hb dL_areBasics_56 rfl (lv_at hl 1 rfl) ?_
          refine lv_iconst (v := nI 2) hx hb dL_areBasics_57 (by decide +kernel) ?_
          refine lv_irem hx hb dL_areBasics_58 (znI_ne (by omega) (by omega)) ?_
          refine W.eq (g2 := F0 m 59 ls [.int (nI (j % 2)), .long (if j % 2 = 0 then 1048576 else -1048576)]) (by rw [zrem_n (by omega) (by omega) (by omega)]) ?_
          refine zf_ne (tgt := 68) hx hb dL_areBasics_59 (by decide) (by omega) (fun c26 => ?_) (fun c26 => ?_)
          ·
            refine lv_ldc2 hx hb hown (hts (.constantLong RL 31 (-1048576)) (by decide +kernel)) dL_areBasics_68 ?_
            exact J71 (-1048576) (by rw [if_neg (by omega)]) H _ hP hS ls (lv_sub hl [0, 1, 2] rfl)
          ·
            refine lv_ldc2 hx hb hown (hts (.constantLong RL 28 (1048576)) (by decide +kernel)) dL_areBasics_62 ?_
            refine lv_goto (tgt := 71) hx hb dL_areBasics_65 (by decide) ?_
            exact J71 1048576 (by rw [if_pos (by omega)]) H _ hP hS ls (lv_sub hl [0, 1, 2] rfl)
