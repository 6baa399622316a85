/-! the law: antiderivatives and derivatives -/
set_option maxHeartbeats 4000000 in
set_option maxRecDepth 100000 in
theorem kL_isInverse (l : Launch) (D : va_G) (cL cI cR : ClassId) (A : Nat → Prop) (F : Nat → Nat) (hF : zq_F A F 30) (T0 : Nat → Nat → Int64) (top0 : Nat → Nat) (Z0 : zZC) (P0 : Nat → Nat → Int64) (dg0 : Nat → Nat) (hTP0 : ∀ i, i < 8 → T0 i = P0 i ∧ top0 i = dg0 i) (hI0 : zInv P0 dg0) (nv : Nat) (hnv : nv ≤ 11) (cv : Nat) (hc : cv < 2147483648) : zCt l yL_isInverse wsL_isInverse 4 104 D cL cI cR A F 30 (zCE cL cR F T0 top0 Z0) [.ref (F 24), .int (nI nv), .int (nI cv)] (zLo cL cR F (fun _ _ => True)) := by
  refine zStart (cc := cL_isInverse) (maxL := 7) (ret := (some .boolean)) (by decide +kernel) rfl (Nat.le_of_ble_eq_true rfl) ?_
  intro p e s m below meth c hx hb hr hml hlk hown hts hAm H hP hS ls hl
  have hown : s.vm.findClass RL = some m.cls := hown
  have hl : lv_has ls 7 [(0, .ref (F 24)), (1, .int (nI nv)), (2, .int (nI cv))] := hl
  refine lv_aload_n hx hb dL_isInverse_0 rfl (lv_at hl 0 rfl) ?_
  refine lv_iconst (v := nI 0) hx hb dL_isInverse_1 (by decide +kernel) ?_
  refine lv_iload_n hx hb dL_isInverse_2 rfl (lv_at hl 1 rfl) ?_
  refine lv_ldc hx hb hown (hts (.constant RL 54 (400000)) (by decide +kernel)) dL_isInverse_3 ?_
  refine W.eq (g2 := F0 m 5 ls [.int (nI 400000), .int (nI nv), .int (nI 0), .ref (F 24)]) rfl ?_
  refine lv_iload_n hx hb dL_isInverse_5 rfl (lv_at hl 2 rfl) ?_
  refine zcallS (As := [.ref (F 24), .int (nI 0), .int (nI nv), .int (nI 400000), .int (nI cv)]) (rest := []) (k := 5) hx hb hml hown hts (kL_draws l D cL cI cR A F hF T0 top0 Z0 P0 dg0 hTP0 hI0 0 (by decide) nv (by omega) 400000 (by decide) (by decide) cv (by omega)) gL_isInverse_L_draws rfl (by decide +kernel) ⟨Nat.le_of_ble_eq_true rfl, Nat.le_of_ble_eq_true rfl⟩ hAm hP hS rfl hl.1 rfl (Nat.le_of_ble_eq_true rfl) dL_isInverse_6 ⟨Nat.zero_le _, Nat.zero_le _⟩ (zkLo (fun T5 top5 Z5 P5 dg5 H locs hP hTP5 hI5 hR5 hS => ?_))
  refine W.eq (g2 := F0 m 9 ls [.int (nI 1)]) rfl ?_
  obtain ⟨f5, hs5_0, hfb5, hfz5, hfl5, hkp5⟩ := hR5
  refine zf_eq (tgt := 66) hx hb dL_isInverse_9 (by decide) (by omega) (fun c1 => ?_) (fun c1 => ?_)
  ·
    exfalso; omega
  ·
    refine lv_aload_n hx hb dL_isInverse_12 rfl (lv_at hl 0 rfl) ?_
    refine lv_iconst (v := nI 0) hx hb dL_isInverse_13 (by decide +kernel) ?_
    refine lv_iconst (v := nI 1) hx hb dL_isInverse_14 (by decide +kernel) ?_
    refine zcallV (As := [.int (nI 0), .int (nI 1)]) (rest := []) (q := 24) (k := 2) hx hb hml hown hts (kX2_antidifferentiate l D cL cI cR A F hF T5 top5 Z5 P5 dg5 hTP5 (zh24 hI5) 0 (by decide) 1 (by decide)) gL_isInverse_X2_antidifferentiate rfl (by decide +kernel) ⟨Nat.le_of_ble_eq_true rfl, Nat.le_of_ble_eq_true rfl⟩ rfl (by decide) (zC_o) rfl rfl hAm hP hS rfl hl.1 rfl (Nat.le_of_ble_eq_true rfl) dL_isInverse_15 ⟨Nat.zero_le _, Nat.zero_le _⟩ (zkC (fun T6 top6 Z6 H locs hP hT6 hZ6 hS => ?_))
    refine W.eq (g2 := F0 m 18 ls [.long (zkr (zant (P5 0) (dg5 0)))]) rfl ?_
    refine W.eq (g2 := F0 m 18 ls [.long (lN (ztop (zant f5 nv) 48))]) (by rw [hs5_0.1, hs5_0.2, zkr_ok (zke_good (zant_good hfb5 hnv hfz5).1 (Nat.le_trans zant_top (by omega))) rfl]) ?_
    obtain ⟨P6, dg6, hTP6, hI6, hs6_1, hk6⟩ := zo_ant hI5 (by decide) hs5_0 (zke_good (zant_good hfb5 hnv hfz5).1 (Nat.le_trans zant_top (by omega))) rfl hT6
    have hs6_0 := hk6 0 _ _ (by decide) hs5_0
    refine lv_lconst (v := (0 : Int64)) hx hb dL_isInverse_18 (by decide +kernel) ?_
    refine zl_lt (tgt := 66) hx hb dL_isInverse_19 dL_isInverse_20 (by decide) (fun c2 => ?_) (fun c2 => ?_)
    ·
      exact absurd c2 (zlN_t _ rfl)
    ·
      refine lv_aload_n hx hb dL_isInverse_23 rfl (lv_at hl 0 rfl) ?_
      refine lv_iconst (v := nI 1) hx hb dL_isInverse_24 (by decide +kernel) ?_
      refine lv_iconst (v := nI 2) hx hb dL_isInverse_25 (by decide +kernel) ?_
      refine zcallV (As := [.int (nI 1), .int (nI 2)]) (rest := []) (q := 24) (k := 2) hx hb hml hown hts (kX2_differentiate l D cL cI cR A F hF T6 top6 Z6 P6 dg6 hTP6 (zh24 hI6) 1 (by decide) 2 (by decide)) gL_isInverse_X2_differentiate rfl (by decide +kernel) ⟨Nat.le_of_ble_eq_true rfl, Nat.le_of_ble_eq_true rfl⟩ rfl (by decide) (zC_o) rfl rfl hAm hP hS rfl hl.1 rfl (Nat.le_of_ble_eq_true rfl) dL_isInverse_26 ⟨Nat.zero_le _, Nat.zero_le _⟩ (zkC (fun T7 top7 Z7 H locs hP hT7 hZ7 hS => ?_))
      refine W.eq (g2 := F0 m 29 ls [.long (zkr (zder (P6 1) (dg6 1)))]) rfl ?_
      refine W.eq (g2 := F0 m 29 ls [.long (lN (ztop (zder (zant f5 nv) (ztop (zant f5 nv) 48)) 48))]) (by rw [hs6_1.1, hs6_1.2, zkr_ok (zke_good (zder_good hfb5 hnv hfz5) (Nat.le_trans zder_top (by omega))) rfl]) ?_
      obtain ⟨P7, dg7, hTP7, hI7, hs7_2, hk7⟩ := zo_der hI6 (by decide) hs6_1 (zke_good (zder_good hfb5 hnv hfz5) (Nat.le_trans zder_top (by omega))) rfl hT7
      have hs7_0 := hk7 0 _ _ (by decide) hs6_0
      have hs7_1 := hk7 1 _ _ (by decide) hs6_1
      refine lv_lconst (v := (0 : Int64)) hx hb dL_isInverse_29 (by decide +kernel) ?_
      refine zl_lt (tgt := 66) hx hb dL_isInverse_30 dL_isInverse_31 (by decide) (fun c3 => ?_) (fun c3 => ?_)
      ·
        exact absurd c3 (zlN_t _ rfl)
      ·
        refine lv_aload_n hx hb dL_isInverse_34 rfl (lv_at hl 0 rfl) ?_
        refine lv_iconst (v := nI 1) hx hb dL_isInverse_35 (by decide +kernel) ?_
        refine lv_ldc hx hb hown (hts (.constant RL 30 (-1048576)) (by decide +kernel)) dL_isInverse_36 ?_
        refine zcallV (As := [.int (nI 1), .int (-1048576 : Int32)]) (rest := []) (q := 24) (k := 2) hx hb hml hown hts (kX2_value l D cL cI cR A F hF T7 top7 Z7 P7 dg7 hTP7 (zh24 hI7) 1 (by decide) (-1048576 : Int32) (by unfold zin; decide)) gL_isInverse_X2_value rfl (by decide +kernel) ⟨Nat.le_of_ble_eq_true rfl, Nat.le_of_ble_eq_true rfl⟩ rfl (by decide) (zC_o) rfl rfl hAm hP hS rfl hl.1 rfl (Nat.le_of_ble_eq_true rfl) dL_isInverse_38 ⟨Nat.zero_le _, Nat.zero_le _⟩ (zkC (fun T8 top8 Z8 H locs hP hT8 hZ8 hS => ?_))
        refine W.eq (g2 := F0 m 41 ls [.long (zval (P7 1) (dg7 1) (-1048576 : Int32).toInt64)]) rfl ?_
        refine W.eq (g2 := F0 m 41 ls [.long (zval (zant f5 nv) (ztop (zant f5 nv) 48) (-1048576))]) (by rw [hs7_1.1, hs7_1.2, show ((-1048576 : Int32)).toInt64 = -1048576 from rfl]) ?_
        refine lv_ldc2 hx hb hown (hts (.constantLong RL 67 (-60)) (by decide +kernel)) dL_isInverse_41 ?_
        refine zl_lt (tgt := 66) hx hb dL_isInverse_44 dL_isInverse_45 (by decide) (fun c4 => ?_) (fun c4 => ?_)
        ·
          exact absurd c4 (zle_m (zant_m hfb5 hnv hfz5)).1
        ·
          refine lv_aload_n hx hb dL_isInverse_48 rfl (lv_at hl 0 rfl) ?_
          refine lv_iconst (v := nI 1) hx hb dL_isInverse_49 (by decide +kernel) ?_
          refine lv_ldc hx hb hown (hts (.constant RL 30 (-1048576)) (by decide +kernel)) dL_isInverse_50 ?_
          refine zcallV (As := [.int (nI 1), .int (-1048576 : Int32)]) (rest := []) (q := 24) (k := 2) hx hb hml hown hts (kX2_value l D cL cI cR A F hF T8 top8 Z8 P7 dg7 hT8 (zh24 hI7) 1 (by decide) (-1048576 : Int32) (by unfold zin; decide)) gL_isInverse_X2_value rfl (by decide +kernel) ⟨Nat.le_of_ble_eq_true rfl, Nat.le_of_ble_eq_true rfl⟩ rfl (by decide) (zC_o) rfl rfl hAm hP hS rfl hl.1 rfl (Nat.le_of_ble_eq_true rfl) dL_isInverse_52 ⟨Nat.zero_le _, Nat.zero_le _⟩ (zkC (fun T9 top9 Z9 H locs hP hT9 hZ9 hS => ?_))
          refine W.eq (g2 := F0 m 55 ls [.long (zval (P7 1) (dg7 1) (-1048576 : Int32).toInt64)]) rfl ?_
          refine W.eq (g2 := F0 m 55 ls [.long (zval (zant f5 nv) (ztop (zant f5 nv) 48) (-1048576))]) (by rw [hs7_1.1, hs7_1.2, show ((-1048576 : Int32)).toInt64 = -1048576 from rfl]) ?_
          refine lv_ldc2 hx hb hown (hts (.constantLong RL 69 (60)) (by decide +kernel)) dL_isInverse_55 ?_
          refine zl_gt (tgt := 66) hx hb dL_isInverse_58 dL_isInverse_59 (by decide) (fun c5 => ?_) (fun c5 => ?_)
          ·
            exact absurd c5 (zle_m (zant_m hfb5 hnv hfz5)).2
          ·
            refine lv_iconst (v := nI 1) hx hb dL_isInverse_62 (by decide +kernel) ?_
            refine lv_goto (tgt := 67) hx hb dL_isInverse_63 (by decide) ?_
            refine lv_istore_n (lv' := [(3, .int (nI 1)), (0, .ref (F 24)), (1, .int (nI nv)), (2, .int (nI cv))]) hx hb dL_isInverse_67 rfl hl (by decide) rfl (fun ls hl => ?_)
            refine lv_iconst (v := nI 0) hx hb dL_isInverse_68 (by decide +kernel) ?_
            refine lv_istore (lv' := [(4, .int (nI 0)), (3, .int (nI 1)), (0, .ref (F 24)), (1, .int (nI nv)), (2, .int (nI cv))]) hx hb dL_isInverse_69 hl (by decide) rfl (fun ls hl => ?_)
            have L71 : ∀ (n : Nat) (T7 : Nat → Nat → Int64) (top7 : Nat → Nat) (Z7 : zZC) (jv : Nat) (hTP7 : ∀ i, i < 8 → T7 i = P7 i ∧ top7 i = dg7 i) (hjv : jv ≤ 25) (hn : 25 - jv < n) (H : Heap) (locs : List Loc), va_P D vwCl (zq_wd F 30 (zCE cL cR F T7 top7 Z7)) H → va_S A s.heap H locs → ∀ (ls : Array Slot), lv_has ls 7 [(4, .int (nI jv)), (3, .int (nI 1)), (0, .ref (F 24)), (1, .int (nI nv)), (2, .int (nI cv))] → W p l e ({ frames := 4, cells := 0, slots := 0, locals := 104 }) s m ([.ref (F 24), .int (nI nv), .int (nI cv)] : List Value).toArray below meth c H locs 0 0 (zQ below D A F 30 [.ref (F 24), .int (nI nv), .int (nI cv)] s (zLo cL cR F (fun _ _ => True))) (F0 m 71 ls []) := by
              intro n
              induction n with
              | zero =>
                intro T7 top7 Z7 jv hTP7 hjv hn
                exact absurd hn (Nat.not_lt_zero _)
              | succ n ih71 =>
                intro T7 top7 Z7 jv hTP7 hjv hn H locs hP hS ls hl
                refine lv_iload hx hb dL_isInverse_71 (lv_at hl 0 rfl) ?_
                refine lv_bipush (v := nI 24) hx hb dL_isInverse_73 (by decide +kernel) ?_
                refine zi_gt (tgt := 129) hx hb dL_isInverse_75 (by decide) (by omega) (by omega) (fun c6 => ?_) (fun c6 => ?_)
                ·
                  refine lv_aload_n hx hb dL_isInverse_129 rfl (lv_at hl 2 rfl) ?_
                  refine lv_iconst (v := nI 1) hx hb dL_isInverse_130 (by decide +kernel) ?_
                  refine lv_ldc hx hb hown (hts (.constant RL 24 (1048576)) (by decide +kernel)) dL_isInverse_131 ?_
                  refine zcallV (As := [.int (nI 1), .int (1048576 : Int32)]) (rest := []) (q := 24) (k := 2) hx hb hml hown hts (kX2_value l D cL cI cR A F hF T7 top7 Z7 P7 dg7 hTP7 (zh24 hI7) 1 (by decide) (1048576 : Int32) (by unfold zin; decide)) gL_isInverse_X2_value rfl (by decide +kernel) ⟨Nat.le_of_ble_eq_true rfl, Nat.le_of_ble_eq_true rfl⟩ rfl (by decide) (zC_o) rfl rfl hAm hP hS rfl hl.1 rfl (Nat.le_of_ble_eq_true rfl) dL_isInverse_133 ⟨Nat.zero_le _, Nat.zero_le _⟩ (zkC (fun T10 top10 Z10 H locs hP hT10 hZ10 hS => ?_))
                  refine W.eq (g2 := F0 m 136 ls [.long (zval (P7 1) (dg7 1) (1048576 : Int32).toInt64)]) rfl ?_
                  refine W.eq (g2 := F0 m 136 ls [.long (zval (zant f5 nv) (ztop (zant f5 nv) 48) 1048576)]) (by rw [hs7_1.1, hs7_1.2, show ((1048576 : Int32)).toInt64 = 1048576 from rfl]) ?_
                  refine lv_aload_n hx hb dL_isInverse_136 rfl (lv_at hl 2 rfl) ?_
                  refine lv_iconst (v := nI 0) hx hb dL_isInverse_137 (by decide +kernel) ?_
                  refine zcallV (As := [.int (nI 0)]) (rest := [.long (zval (zant f5 nv) (ztop (zant f5 nv) 48) 1048576)]) (q := 24) (k := 1) hx hb hml hown hts (kX2_integral l D cL cI cR A F hF T10 top10 Z10 P7 dg7 hT10 (zh24 hI7) 0 (by decide)) gL_isInverse_X2_integral rfl (by decide +kernel) ⟨Nat.le_of_ble_eq_true rfl, Nat.le_of_ble_eq_true rfl⟩ rfl (by decide) (zC_o) rfl rfl hAm hP hS rfl hl.1 rfl (Nat.le_of_ble_eq_true rfl) dL_isInverse_138 ⟨Nat.zero_le _, Nat.zero_le _⟩ (zkC (fun T11 top11 Z11 H locs hP hT11 hZ11 hS => ?_))
                  refine W.eq (g2 := F0 m 141 ls [.long (zig (P7 0) (dg7 0 / 2)), .long (zval (zant f5 nv) (ztop (zant f5 nv) 48) 1048576)]) rfl ?_
                  refine W.eq (g2 := F0 m 141 ls [.long (zig f5 (nv / 2)), .long (zval (zant f5 nv) (ztop (zant f5 nv) 48) 1048576)]) (by rw [hs7_0.1, hs7_0.2]) ?_
                  refine lv_lsub hx hb dL_isInverse_141 ?_
                  refine lv_lstore (lv' := [(4, .long ((zval (zant f5 nv) (ztop (zant f5 nv) 48) 1048576) - (zig f5 (nv / 2)))), (3, .int (nI 1)), (0, .ref (F 24)), (1, .int (nI nv)), (2, .int (nI cv))]) hx hb dL_isInverse_142 hl (by decide) rfl (fun ls hl => ?_)
                  refine lv_iload_n hx hb dL_isInverse_144 rfl (lv_at hl 1 rfl) ?_
                  refine zf_eq (tgt := 183) hx hb dL_isInverse_145 (by decide) (by omega) (fun c7 => ?_) (fun c7 => ?_)
                  ·
                    exfalso; omega
                  ·
                    refine lv_lload hx hb dL_isInverse_148 (lv_at hl 0 rfl) ?_
                    refine lv_ldc2 hx hb hown (hts (.constantLong RL 78 (100)) (by decide +kernel)) dL_isInverse_150 ?_
                    refine zl_ge (tgt := 183) hx hb dL_isInverse_153 dL_isInverse_154 (by decide) (fun c8 => ?_) (fun c8 => ?_)
                    ·
                      exact absurd c8 (zoff1 (zant_int hfb5 hnv hfz5)).1
                    ·
                      refine lv_lload hx hb dL_isInverse_157 (lv_at hl 0 rfl) ?_
                      refine lv_ldc2 hx hb hown (hts (.constantLong RL 80 (-100)) (by decide +kernel)) dL_isInverse_159 ?_
                      refine zl_le (tgt := 183) hx hb dL_isInverse_162 dL_isInverse_163 (by decide) (fun c9 => ?_) (fun c9 => ?_)
                      ·
                        exact absurd c9 (zoff1 (zant_int hfb5 hnv hfz5)).2
                      ·
                        refine lv_aload_n hx hb dL_isInverse_166 rfl (lv_at hl 2 rfl) ?_
                        refine lv_iconst (v := nI 2) hx hb dL_isInverse_167 (by decide +kernel) ?_
                        refine zcallV (As := [.int (nI 2)]) (rest := []) (q := 24) (k := 1) hx hb hml hown hts (kX2_degree l D cL cI cR A F hF T11 top11 Z11 P7 dg7 hT11 (zh24 hI7) 2 (by decide)) gL_isInverse_X2_degree rfl (by decide +kernel) ⟨Nat.le_of_ble_eq_true rfl, Nat.le_of_ble_eq_true rfl⟩ rfl (by decide) (zC_o) rfl rfl hAm hP hS rfl hl.1 rfl (Nat.le_of_ble_eq_true rfl) dL_isInverse_168 ⟨Nat.zero_le _, Nat.zero_le _⟩ (zkC (fun T12 top12 Z12 H locs hP hT12 hZ12 hS => ?_))
                        refine W.eq (g2 := F0 m 171 ls [.long (lN (dg7 2))]) rfl ?_
                        refine W.eq (g2 := F0 m 171 ls [.long (lN (ztop (zder (zant f5 nv) (ztop (zant f5 nv) 48)) 48))]) (by rw [hs7_2.2]) ?_
                        refine lv_iload_n hx hb dL_isInverse_171 rfl (lv_at hl 3 rfl) ?_
                        refine lv_iconst (v := nI 1) hx hb dL_isInverse_172 (by decide +kernel) ?_
                        refine ziadd (d := (nv + 1)) hx hb (by omega) dL_isInverse_173 ?_
                        refine zi2l hx hb (by omega) dL_isInverse_174 ?_
                        refine zl_gt (tgt := 183) hx hb dL_isInverse_175 dL_isInverse_176 (by decide) (fun c10 => ?_) (fun c10 => ?_)
                        ·
                          exact absurd c10 (zlN_le zder_top (by omega))
                        ·
                          refine lv_iconst (v := nI 1) hx hb dL_isInverse_179 (by decide +kernel) ?_
                          refine lv_goto (tgt := 184) hx hb dL_isInverse_180 (by decide) ?_
                          exact zretZ hx hb hr hlk hS hP (by first | rfl | (rw [hv]; unfold zbN; split <;> rfl)) dL_isInverse_184 ⟨_, _, _, _, _, rfl, rfl, hT12, hI7, trivial⟩
                ·
                  refine lv_iload_n hx hb dL_isInverse_78 rfl (lv_at hl 1 rfl) ?_
                  refine zf_eq (tgt := 129) hx hb dL_isInverse_79 (by decide) (by omega) (fun c11 => ?_) (fun c11 => ?_)
                  ·
                    exfalso; omega
                  ·
                    refine lv_aload_n hx hb dL_isInverse_82 rfl (lv_at hl 2 rfl) ?_
                    refine lv_iconst (v := nI 2) hx hb dL_isInverse_83 (by decide +kernel) ?_
                    refine lv_iload hx hb dL_isInverse_84 (lv_at hl 0 rfl) ?_
                    refine zcallV (As := [.int (nI 2), .int (nI jv)]) (rest := []) (q := 24) (k := 2) hx hb hml hown hts (kX2_coefficient l D cL cI cR A F hF T7 top7 Z7 P7 dg7 hTP7 (zh24 hI7) 2 (by decide) jv (by omega)) gL_isInverse_X2_coefficient rfl (by decide +kernel) ⟨Nat.le_of_ble_eq_true rfl, Nat.le_of_ble_eq_true rfl⟩ rfl (by decide) (zC_o) rfl rfl hAm hP hS rfl hl.1 rfl (Nat.le_of_ble_eq_true rfl) dL_isInverse_86 ⟨Nat.zero_le _, Nat.zero_le _⟩ (zkC (fun T13 top13 Z13 H locs hP hT13 hZ13 hS => ?_))
                    refine W.eq (g2 := F0 m 89 ls [.long (P7 2 jv)]) rfl ?_
                    refine W.eq (g2 := F0 m 89 ls [.long ((zder (zant f5 nv) (ztop (zant f5 nv) 48)) jv)]) (by rw [hs7_2.1]) ?_
                    refine lv_aload_n hx hb dL_isInverse_89 rfl (lv_at hl 2 rfl) ?_
                    refine lv_iconst (v := nI 0) hx hb dL_isInverse_90 (by decide +kernel) ?_
                    refine lv_iload hx hb dL_isInverse_91 (lv_at hl 0 rfl) ?_
                    refine zcallV (As := [.int (nI 0), .int (nI jv)]) (rest := [.long ((zder (zant f5 nv) (ztop (zant f5 nv) 48)) jv)]) (q := 24) (k := 2) hx hb hml hown hts (kX2_coefficient l D cL cI cR A F hF T13 top13 Z13 P7 dg7 hT13 (zh24 hI7) 0 (by decide) jv (by omega)) gL_isInverse_X2_coefficient rfl (by decide +kernel) ⟨Nat.le_of_ble_eq_true rfl, Nat.le_of_ble_eq_true rfl⟩ rfl (by decide) (zC_o) rfl rfl hAm hP hS rfl hl.1 rfl (Nat.le_of_ble_eq_true rfl) dL_isInverse_93 ⟨Nat.zero_le _, Nat.zero_le _⟩ (zkC (fun T14 top14 Z14 H locs hP hT14 hZ14 hS => ?_))
                    refine W.eq (g2 := F0 m 96 ls [.long (P7 0 jv), .long ((zder (zant f5 nv) (ztop (zant f5 nv) 48)) jv)]) rfl ?_
                    refine W.eq (g2 := F0 m 96 ls [.long (f5 jv), .long ((zder (zant f5 nv) (ztop (zant f5 nv) 48)) jv)]) (by rw [hs7_0.1]) ?_
                    refine lv_lsub hx hb dL_isInverse_96 ?_
                    refine lv_lstore (lv' := [(5, .long (((zder (zant f5 nv) (ztop (zant f5 nv) 48)) jv) - (f5 jv))), (4, .int (nI jv)), (3, .int (nI 1)), (0, .ref (F 24)), (1, .int (nI nv)), (2, .int (nI cv))]) hx hb dL_isInverse_97 hl (by decide) rfl (fun ls hl => ?_)
                    refine lv_lload hx hb dL_isInverse_99 (lv_at hl 0 rfl) ?_
                    refine lv_ldc2 hx hb hown (hts (.constantLong RL 71 (700)) (by decide +kernel)) dL_isInverse_101 ?_
                    refine zl_ge (tgt := 121) hx hb dL_isInverse_104 dL_isInverse_105 (by decide) (fun c12 => ?_) (fun c12 => ?_)
                    ·
                      exact absurd c12 (zoff (zder_near hfb5 hnv hfz5 jv)).1
                    ·
                      refine lv_lload hx hb dL_isInverse_108 (lv_at hl 0 rfl) ?_
                      refine lv_ldc2 hx hb hown (hts (.constantLong RL 73 (-700)) (by decide +kernel)) dL_isInverse_110 ?_
                      refine zl_le (tgt := 121) hx hb dL_isInverse_113 dL_isInverse_114 (by decide) (fun c13 => ?_) (fun c13 => ?_)
                      ·
                        exact absurd c13 (zoff (zder_near hfb5 hnv hfz5 jv)).2
                      ·
                        refine lv_iconst (v := nI 1) hx hb dL_isInverse_117 (by decide +kernel) ?_
                        refine lv_goto (tgt := 122) hx hb dL_isInverse_118 (by decide) ?_
                        refine lv_istore_n (lv' := [(3, .int (nI 1)), (5, .long (((zder (zant f5 nv) (ztop (zant f5 nv) 48)) jv) - (f5 jv))), (4, .int (nI jv)), (0, .ref (F 24)), (1, .int (nI nv)), (2, .int (nI cv))]) hx hb dL_isInverse_122 rfl hl (by decide) rfl (fun ls hl => ?_)
                        refine lv_iinc (v := (nI (jv + 1))) (lv' := [(4, .int (nI (jv + 1))), (3, .int (nI 1)), (5, .long (((zder (zant f5 nv) (ztop (zant f5 nv) 48)) jv) - (f5 jv))), (0, .ref (F 24)), (1, .int (nI nv)), (2, .int (nI cv))]) hx hb dL_isInverse_123 hl (k := 2) rfl (zinc (by omega)) (by decide) rfl (fun ls hl => ?_)
                        refine lv_goto (tgt := 71) hx hb dL_isInverse_126 (by decide) ?_
                        exact ih71 T14 top14 Z14 (jv + 1) hT14 (by omega) (by omega) H _ hP hS ls (lv_sub hl [0, 1, 3, 4, 5] rfl)
            exact L71 _ T9 top9 Z9 0 hT9 (by omega) (Nat.lt_succ_self _) H _ hP hS ls (lv_sub hl [0, 1, 2, 3, 4] rfl)
