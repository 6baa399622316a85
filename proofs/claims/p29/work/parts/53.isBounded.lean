/-! the law: bounds, cuts, sums -/
set_option maxHeartbeats 4000000 in
set_option maxRecDepth 100000 in
theorem kL_isBounded (l : Launch) (D : va_G) (cL cI cR : ClassId) (A : Nat → Prop) (F : Nat → Nat) (hF : zq_F A F 30) (T0 : Nat → Nat → Int64) (top0 : Nat → Nat) (Z0 : zZC) (P0 : Nat → Nat → Int64) (dg0 : Nat → Nat) (hTP0 : ∀ i, i < 8 → T0 i = P0 i ∧ top0 i = dg0 i) (hI0 : zInv P0 dg0) (nv : Nat) (hnv : nv ≤ 24) (dv : Nat) (hdv : dv < 2147483648) : zCt l yL_isBounded wsL_isBounded 4 104 D cL cI cR A F 30 (zCE cL cR F T0 top0 Z0) [.ref (F 24), .int (nI nv), .int (nI dv)] (zLo cL cR F (fun _ _ => True)) := by
  refine zStart (cc := cL_isBounded) (maxL := 14) (ret := (some .boolean)) (by decide +kernel) rfl (Nat.le_of_ble_eq_true rfl) ?_
  intro p e s m below meth c hx hb hr hml hlk hown hts hAm H hP hS ls hl
  have hown : s.vm.findClass RL = some m.cls := hown
  have hl : lv_has ls 14 [(0, .ref (F 24)), (1, .int (nI nv)), (2, .int (nI dv))] := hl
  obtain ⟨tv, htv⟩ : ∃ tv, tv = (dv / 2 ^ 5) % 900000 := ⟨_, rfl⟩
  have htv9 : tv < 900000 := by rw [htv]; exact Nat.mod_lt _ (by omega)
  obtain ⟨xv, hxv⟩ : ∃ xv, xv = (dv / 2 ^ 3) % 2097153 := ⟨_, rfl⟩
  have hxv9 : xv < 2097153 := by rw [hxv]; exact Nat.mod_lt _ (by omega)
  refine lv_aload_n hx hb dL_isBounded_0 rfl (lv_at hl 0 rfl) ?_
  refine lv_iconst (v := nI 0) hx hb dL_isBounded_1 (by decide +kernel) ?_
  refine lv_iload_n hx hb dL_isBounded_2 rfl (lv_at hl 1 rfl) ?_
  refine lv_ldc hx hb hown (hts (.constant RL 82 (300000)) (by decide +kernel)) dL_isBounded_3 ?_
  refine W.eq (g2 := F0 m 5 ls [.int (nI 300000), .int (nI nv), .int (nI 0), .ref (F 24)]) rfl ?_
  refine lv_iload_n hx hb dL_isBounded_5 rfl (lv_at hl 2 rfl) ?_
  refine zcallS (As := [.ref (F 24), .int (nI 0), .int (nI nv), .int (nI 300000), .int (nI dv)]) (rest := []) (k := 5) hx hb hml hown hts (kL_draws l D cL cI cR A F hF T0 top0 Z0 P0 dg0 hTP0 hI0 0 (by decide) nv (by omega) 300000 (by decide) (by decide) dv (by omega)) gL_isBounded_L_draws rfl (by decide +kernel) ⟨Nat.le_of_ble_eq_true rfl, Nat.le_of_ble_eq_true rfl⟩ hAm hP hS rfl hl.1 rfl (Nat.le_of_ble_eq_true rfl) dL_isBounded_6 ⟨Nat.zero_le _, Nat.zero_le _⟩ (zkLo (fun T5 top5 Z5 P5 dg5 H locs hP hTP5 hI5 hR5 hS => ?_))
  refine W.eq (g2 := F0 m 9 ls [.int (nI 1)]) rfl ?_
  obtain ⟨f5, hs5_0, hfb5, hfz5, hfl5, hkp5⟩ := hR5
  refine zf_eq (tgt := 35) hx hb dL_isBounded_9 (by decide) (by omega) (fun c1 => ?_) (fun c1 => ?_)
  ·
    exfalso; omega
  ·
    refine lv_aload_n hx hb dL_isBounded_12 rfl (lv_at hl 0 rfl) ?_
    refine lv_iconst (v := nI 1) hx hb dL_isBounded_13 (by decide +kernel) ?_
    refine lv_iload_n hx hb dL_isBounded_14 rfl (lv_at hl 2 rfl) ?_
    refine lv_iconst (v := nI 4) hx hb dL_isBounded_15 (by decide +kernel) ?_
    refine lv_ishr hx hb dL_isBounded_16 ?_
    refine W.eq (g2 := F0 m 17 ls [.int (nI (dv / 2 ^ 4)), .int (nI 1), .ref (F 24)]) (by rw [zshr_n (by omega) (by decide)]) ?_
    refine lv_bipush (v := nI 25) hx hb dL_isBounded_17 (by decide +kernel) ?_
    refine lv_irem hx hb dL_isBounded_19 (znI_ne (by omega) (by omega)) ?_
    refine W.eq (g2 := F0 m 20 ls [.int (nI ((dv / 2 ^ 4) % 25)), .int (nI 1), .ref (F 24)]) (by rw [zrem_n (by omega) (by omega) (by omega)]) ?_
    refine lv_ldc hx hb hown (hts (.constant RL 83 (200000)) (by decide +kernel)) dL_isBounded_20 ?_
    refine W.eq (g2 := F0 m 22 ls [.int (nI 200000), .int (nI ((dv / 2 ^ 4) % 25)), .int (nI 1), .ref (F 24)]) rfl ?_
    refine lv_iload_n hx hb dL_isBounded_22 rfl (lv_at hl 2 rfl) ?_
    refine lv_iconst (v := nI 2) hx hb dL_isBounded_23 (by decide +kernel) ?_
    refine lv_ishr hx hb dL_isBounded_24 ?_
    refine W.eq (g2 := F0 m 25 ls [.int (nI (dv / 2 ^ 2)), .int (nI 200000), .int (nI ((dv / 2 ^ 4) % 25)), .int (nI 1), .ref (F 24)]) (by rw [zshr_n (by omega) (by decide)]) ?_
    refine zcallS (As := [.ref (F 24), .int (nI 1), .int (nI ((dv / 2 ^ 4) % 25)), .int (nI 200000), .int (nI (dv / 2 ^ 2))]) (rest := []) (k := 5) hx hb hml hown hts (kL_draws l D cL cI cR A F hF T5 top5 Z5 P5 dg5 hTP5 hI5 1 (by decide) ((dv / 2 ^ 4) % 25) (by omega) 200000 (by decide) (by decide) (dv / 2 ^ 2) (by omega)) gL_isBounded_L_draws rfl (by decide +kernel) ⟨Nat.le_of_ble_eq_true rfl, Nat.le_of_ble_eq_true rfl⟩ hAm hP hS rfl hl.1 rfl (Nat.le_of_ble_eq_true rfl) dL_isBounded_25 ⟨Nat.zero_le _, Nat.zero_le _⟩ (zkLo (fun T6 top6 Z6 P6 dg6 H locs hP hTP6 hI6 hR6 hS => ?_))
    refine W.eq (g2 := F0 m 28 ls [.int (nI 1)]) rfl ?_
    obtain ⟨f6, hs6_1, hfb6, hfz6, hfl6, hkp6⟩ := hR6
    have hs6_0 := hkp6 0 _ _ (by decide) hs5_0
    refine zf_eq (tgt := 35) hx hb dL_isBounded_28 (by decide) (by omega) (fun c2 => ?_) (fun c2 => ?_)
    ·
      exfalso; omega
    ·
      refine lv_iconst (v := nI 1) hx hb dL_isBounded_31 (by decide +kernel) ?_
      refine lv_goto (tgt := 36) hx hb dL_isBounded_32 (by decide) ?_
      refine lv_istore_n (lv' := [(3, .int (nI 1)), (0, .ref (F 24)), (1, .int (nI nv)), (2, .int (nI dv))]) hx hb dL_isBounded_36 rfl hl (by decide) rfl (fun ls hl => ?_)
      refine lv_iload_n hx hb dL_isBounded_37 rfl (lv_at hl 3 rfl) ?_
      refine lv_iconst (v := nI 5) hx hb dL_isBounded_38 (by decide +kernel) ?_
      refine lv_ishr hx hb dL_isBounded_39 ?_
      refine W.eq (g2 := F0 m 40 ls [.int (nI (dv / 2 ^ 5))]) (by rw [zshr_n (by omega) (by decide)]) ?_
      refine lv_ldc hx hb hown (hts (.constant RL 84 (900000)) (by decide +kernel)) dL_isBounded_40 ?_
      refine W.eq (g2 := F0 m 42 ls [.int (nI 900000), .int (nI (dv / 2 ^ 5))]) rfl ?_
      refine lv_irem hx hb dL_isBounded_42 (znI_ne (by omega) (by omega)) ?_
      refine W.eq (g2 := F0 m 43 ls [.int (nI ((dv / 2 ^ 5) % 900000))]) (by rw [zrem_n (by omega) (by omega) (by omega)]) ?_
      refine W.eq (g2 := F0 m 43 ls [.int (nI tv)]) (by rw [← htv]) ?_
      refine lv_istore (lv' := [(4, .int (nI tv)), (3, .int (nI 1)), (0, .ref (F 24)), (1, .int (nI nv)), (2, .int (nI dv))]) hx hb dL_isBounded_43 hl (by decide) rfl (fun ls hl => ?_)
      refine lv_aload_n hx hb dL_isBounded_45 rfl (lv_at hl 2 rfl) ?_
      refine lv_iconst (v := nI 0) hx hb dL_isBounded_46 (by decide +kernel) ?_
      refine zcallV (As := [.int (nI 0)]) (rest := []) (q := 24) (k := 1) hx hb hml hown hts (kX2_bound l D cL cI cR A F hF T6 top6 Z6 P6 dg6 hTP6 (zh24 hI6) 0 (by decide)) gL_isBounded_X2_bound rfl (by decide +kernel) ⟨Nat.le_of_ble_eq_true rfl, Nat.le_of_ble_eq_true rfl⟩ rfl (by decide) (zC_o) rfl rfl hAm hP hS rfl hl.1 rfl (Nat.le_of_ble_eq_true rfl) dL_isBounded_47 ⟨Nat.zero_le _, Nat.zero_le _⟩ (zkC (fun T7 top7 Z7 H locs hP hT7 hZ7 hS => ?_))
      refine W.eq (g2 := F0 m 50 ls [.long (zbd (P6 0) 25)]) rfl ?_
      refine W.eq (g2 := F0 m 50 ls [.long (zbd f5 25)]) (by rw [hs6_0.1]) ?_
      refine lv_lstore (lv' := [(5, .long (zbd f5 25)), (4, .int (nI tv)), (3, .int (nI 1)), (0, .ref (F 24)), (1, .int (nI nv)), (2, .int (nI dv))]) hx hb dL_isBounded_50 hl (by decide) rfl (fun ls hl => ?_)
      refine lv_iload_n hx hb dL_isBounded_52 rfl (lv_at hl 5 rfl) ?_
      refine lv_iconst (v := nI 3) hx hb dL_isBounded_53 (by decide +kernel) ?_
      refine lv_ishr hx hb dL_isBounded_54 ?_
      refine W.eq (g2 := F0 m 55 ls [.int (nI (dv / 2 ^ 3))]) (by rw [zshr_n (by omega) (by decide)]) ?_
      refine lv_ldc hx hb hown (hts (.constant RL 85 (2097153)) (by decide +kernel)) dL_isBounded_55 ?_
      refine W.eq (g2 := F0 m 57 ls [.int (nI 2097153), .int (nI (dv / 2 ^ 3))]) rfl ?_
      refine lv_irem hx hb dL_isBounded_57 (znI_ne (by omega) (by omega)) ?_
      refine W.eq (g2 := F0 m 58 ls [.int (nI ((dv / 2 ^ 3) % 2097153))]) (by rw [zrem_n (by omega) (by omega) (by omega)]) ?_
      refine W.eq (g2 := F0 m 58 ls [.int (nI xv)]) (by rw [← hxv]) ?_
      refine lv_ldc hx hb hown (hts (.constant RL 24 (1048576)) (by decide +kernel)) dL_isBounded_58 ?_
      refine W.eq (g2 := F0 m 60 ls [.int (nI 1048576), .int (nI xv)]) rfl ?_
      refine lv_isub hx hb dL_isBounded_60 ?_
      refine lv_istore (lv' := [(7, .int ((nI xv) - (nI 1048576))), (5, .long (zbd f5 25)), (4, .int (nI tv)), (3, .int (nI 1)), (0, .ref (F 24)), (1, .int (nI nv)), (2, .int (nI dv))]) hx hb dL_isBounded_61 hl (by decide) rfl (fun ls hl => ?_)
      refine lv_aload_n hx hb dL_isBounded_63 rfl (lv_at hl 4 rfl) ?_
      refine lv_iconst (v := nI 0) hx hb dL_isBounded_64 (by decide +kernel) ?_
      refine lv_iload hx hb dL_isBounded_65 (lv_at hl 0 rfl) ?_
      refine zcallV (As := [.int (nI 0), .int ((nI xv) - (nI 1048576))]) (rest := []) (q := 24) (k := 2) hx hb hml hown hts (kX2_value l D cL cI cR A F hF T7 top7 Z7 P6 dg6 hT7 (zh24 hI6) 0 (by decide) ((nI xv) - (nI 1048576)) (by unfold zin; rw [zsub_i (by omega) (by omega)]; omega)) gL_isBounded_X2_value rfl (by decide +kernel) ⟨Nat.le_of_ble_eq_true rfl, Nat.le_of_ble_eq_true rfl⟩ rfl (by decide) (zC_o) rfl rfl hAm hP hS rfl hl.1 rfl (Nat.le_of_ble_eq_true rfl) dL_isBounded_67 ⟨Nat.zero_le _, Nat.zero_le _⟩ (zkC (fun T8 top8 Z8 H locs hP hT8 hZ8 hS => ?_))
      refine W.eq (g2 := F0 m 70 ls [.long (zval (P6 0) (dg6 0) ((nI xv) - (nI 1048576)).toInt64)]) rfl ?_
      refine W.eq (g2 := F0 m 70 ls [.long (zval f5 nv ((nI xv) - (nI 1048576)).toInt64)]) (by rw [hs6_0.1, hs6_0.2]) ?_
      refine lv_lstore (lv' := [(8, .long (zval f5 nv ((nI xv) - (nI 1048576)).toInt64)), (7, .int ((nI xv) - (nI 1048576))), (5, .long (zbd f5 25)), (4, .int (nI tv)), (3, .int (nI 1)), (0, .ref (F 24)), (1, .int (nI nv)), (2, .int (nI dv))]) hx hb dL_isBounded_70 hl (by decide) rfl (fun ls hl => ?_)
      refine lv_ldc2 hx hb hown (hts (.constantLong RL 69 (60)) (by decide +kernel)) dL_isBounded_72 ?_
      refine lv_iload_n hx hb dL_isBounded_75 rfl (lv_at hl 6 rfl) ?_
      refine lv_iconst (v := nI 1) hx hb dL_isBounded_76 (by decide +kernel) ?_
      refine ziadd (d := (nv + 1)) hx hb (by omega) dL_isBounded_77 ?_
      refine zi2l hx hb (by omega) dL_isBounded_78 ?_
      refine lv_lmul hx hb dL_isBounded_79 ?_
      refine lv_lstore (lv' := [(10, .long ((60 : Int64) * (lN (nv + 1)))), (8, .long (zval f5 nv ((nI xv) - (nI 1048576)).toInt64)), (7, .int ((nI xv) - (nI 1048576))), (5, .long (zbd f5 25)), (4, .int (nI tv)), (3, .int (nI 1)), (0, .ref (F 24)), (1, .int (nI nv)), (2, .int (nI dv))]) hx hb dL_isBounded_80 hl (by decide) rfl (fun ls hl => ?_)
      have hgd : zgood f5 := fun j => zb_le (hfb5 j) (by decide)
      have hxb : zb (nI xv - nI 1048576).toInt64 1048576 := (zb_nIs (a := xv) (b := 1048576) (A := 1048576) (by omega) (by omega) (by omega) (by omega))
      have hbb := zval_bb hfb5 hnv hfz5 hxb
      have hcl := zcut_law hfb5 hnv hfz5 hxb htv9
      refine lv_iload_n hx hb dL_isBounded_82 rfl (lv_at hl 5 rfl) ?_
      refine zf_eq (tgt := 176) hx hb dL_isBounded_83 (by decide) (by omega) (fun c3 => ?_) (fun c3 => ?_)
      ·
        exfalso; omega
      ·
        refine lv_lload hx hb dL_isBounded_86 (lv_at hl 1 rfl) ?_
        refine lv_lload hx hb dL_isBounded_88 (lv_at hl 3 rfl) ?_
        refine lv_lload hx hb dL_isBounded_90 (lv_at hl 0 rfl) ?_
        refine lv_ladd hx hb dL_isBounded_92 ?_
        refine zl_gt (tgt := 176) hx hb dL_isBounded_93 dL_isBounded_94 (by decide) (fun c4 => ?_) (fun c4 => ?_)
        ·
          exact absurd c4 (znlt hbb.1)
        ·
          refine lv_lload hx hb dL_isBounded_97 (lv_at hl 1 rfl) ?_
          refine lv_lneg hx hb dL_isBounded_99 ?_
          refine lv_lload hx hb dL_isBounded_100 (lv_at hl 3 rfl) ?_
          refine lv_lload hx hb dL_isBounded_102 (lv_at hl 0 rfl) ?_
          refine lv_ladd hx hb dL_isBounded_104 ?_
          refine zl_gt (tgt := 176) hx hb dL_isBounded_105 dL_isBounded_106 (by decide) (fun c5 => ?_) (fun c5 => ?_)
          ·
            exact absurd c5 (znlt hbb.2.1)
          ·
            refine lv_aload_n hx hb dL_isBounded_109 rfl (lv_at hl 6 rfl) ?_
            refine lv_iconst (v := nI 0) hx hb dL_isBounded_110 (by decide +kernel) ?_
            refine lv_iconst (v := nI 2) hx hb dL_isBounded_111 (by decide +kernel) ?_
            refine zcallV (As := [.int (nI 0), .int (nI 2)]) (rest := []) (q := 24) (k := 2) hx hb hml hown hts (kX2_copy l D cL cI cR A F hF T8 top8 Z8 P6 dg6 hT8 (zh24 hI6) 0 (by decide) 2 (by decide)) gL_isBounded_X2_copy rfl (by decide +kernel) ⟨Nat.le_of_ble_eq_true rfl, Nat.le_of_ble_eq_true rfl⟩ rfl (by decide) (zC_o) rfl rfl hAm hP hS rfl hl.1 rfl (Nat.le_of_ble_eq_true rfl) dL_isBounded_112 ⟨Nat.zero_le _, Nat.zero_le _⟩ (zkC (fun T9 top9 Z9 H locs hP hT9 hZ9 hS => ?_))
            refine W.eq (g2 := F0 m 115 ls [.long (lN (dg6 0))]) rfl ?_
            refine W.eq (g2 := F0 m 115 ls [.long (lN nv)]) (by rw [hs6_0.2]) ?_
            obtain ⟨P9, dg9, hTP9, hI9, hs9_2, hk9⟩ := zo_copy hI6 (by decide) hs6_0 hT9
            have hs9_0 := hk9 0 _ _ (by decide) hs6_0
            have hs9_1 := hk9 1 _ _ (by decide) hs6_1
            refine lv_iload_n hx hb dL_isBounded_115 rfl (lv_at hl 7 rfl) ?_
            refine zi2l hx hb (by omega) dL_isBounded_116 ?_
            refine zl_ne (tgt := 176) hx hb dL_isBounded_117 dL_isBounded_118 (by decide) (fun c6 => ?_) (fun c6 => ?_)
            ·
              exact absurd rfl c6
            ·
              refine lv_aload_n hx hb dL_isBounded_121 rfl (lv_at hl 6 rfl) ?_
              refine lv_iconst (v := nI 2) hx hb dL_isBounded_122 (by decide +kernel) ?_
              refine lv_iload hx hb dL_isBounded_123 (lv_at hl 4 rfl) ?_
              refine zcallV (As := [.int (nI 2), .int (nI tv)]) (rest := []) (q := 24) (k := 2) hx hb hml hown hts (kX2_degreeWith l D cL cI cR A F hF T9 top9 Z9 P9 dg9 hTP9 (zh24 hI9) 2 (by decide) (nI tv) (by unfold zin; rw [nI_toInt (by omega)]; omega)) gL_isBounded_X2_degreeWith rfl (by decide +kernel) ⟨Nat.le_of_ble_eq_true rfl, Nat.le_of_ble_eq_true rfl⟩ rfl (by decide) (zC_o) rfl rfl hAm hP hS rfl hl.1 rfl (Nat.le_of_ble_eq_true rfl) dL_isBounded_125 ⟨Nat.zero_le _, Nat.zero_le _⟩ (zkC (fun T10 top10 Z10 H locs hP hT10 hZ10 hS => ?_))
              refine W.eq (g2 := F0 m 128 ls [.long (lN (ztw (P9 2) (nI tv).toInt64 (dg9 2) 0))]) rfl ?_
              refine W.eq (g2 := F0 m 128 ls [.long (lN (ztw f5 (nI tv).toInt64 nv 0))]) (by rw [hs9_2.1, hs9_2.2]) ?_
              refine lv_iload_n hx hb dL_isBounded_128 rfl (lv_at hl 7 rfl) ?_
              refine zi2l hx hb (by omega) dL_isBounded_129 ?_
              refine lv_aload_n hx hb dL_isBounded_130 rfl (lv_at hl 6 rfl) ?_
              refine lv_iconst (v := nI 2) hx hb dL_isBounded_131 (by decide +kernel) ?_
              refine lv_iload hx hb dL_isBounded_132 (lv_at hl 4 rfl) ?_
              refine zcallV (As := [.int (nI 2), .int (nI tv)]) (rest := [.long (lN nv), .long (lN (ztw f5 (nI tv).toInt64 nv 0))]) (q := 24) (k := 2) hx hb hml hown hts (kX2_cut l D cL cI cR A F hF T10 top10 Z10 P9 dg9 hT10 (zh24 hI9) 2 (by decide) (nI tv) (by unfold zin; rw [nI_toInt (by omega)]; omega)) gL_isBounded_X2_cut rfl (by decide +kernel) ⟨Nat.le_of_ble_eq_true rfl, Nat.le_of_ble_eq_true rfl⟩ rfl (by decide) (zC_o) rfl rfl hAm hP hS rfl hl.1 rfl (Nat.le_of_ble_eq_true rfl) dL_isBounded_134 ⟨Nat.zero_le _, Nat.zero_le _⟩ (zkC (fun T11 top11 Z11 H locs hP hT11 hZ11 hS => ?_))
              refine W.eq (g2 := F0 m 137 ls [.long (lN (dg9 2 - ztop (zcut (P9 2) (ztw (P9 2) (nI tv).toInt64 (dg9 2) 0)) 48)), .long (lN nv), .long (lN (ztw f5 (nI tv).toInt64 nv 0))]) rfl ?_
              refine W.eq (g2 := F0 m 137 ls [.long (lN (nv - (ztw f5 (nI tv).toInt64 nv 0))), .long (lN nv), .long (lN (ztw f5 (nI tv).toInt64 nv 0))]) (by rw [(zI_cut hI9 (a := 2) (by decide) (z0le (a := tv) (by omega))).1, hs9_2.1, hs9_2.2]) ?_
              obtain ⟨P11, dg11, hTP11, hI11, hs11_2, hk11⟩ := zo_cut hI9 (by decide) (z0le (a := tv) (by omega)) hs9_2 hT11
              have hs11_0 := hk11 0 _ _ (by decide) hs9_0
              have hs11_1 := hk11 1 _ _ (by decide) hs9_1
              refine lv_lsub hx hb dL_isBounded_137 ?_
              refine zl_ne (tgt := 176) hx hb dL_isBounded_138 dL_isBounded_139 (by decide) (fun c7 => ?_) (fun c7 => ?_)
              ·
                exact absurd (zlN_ms (ztw_le _ _ _ _)) c7
              ·
                refine lv_aload_n hx hb dL_isBounded_142 rfl (lv_at hl 6 rfl) ?_
                refine lv_iconst (v := nI 2) hx hb dL_isBounded_143 (by decide +kernel) ?_
                refine zcallV (As := [.int (nI 2)]) (rest := []) (q := 24) (k := 1) hx hb hml hown hts (kX2_bound l D cL cI cR A F hF T11 top11 Z11 P11 dg11 hTP11 (zh24 hI11) 2 (by decide)) gL_isBounded_X2_bound rfl (by decide +kernel) ⟨Nat.le_of_ble_eq_true rfl, Nat.le_of_ble_eq_true rfl⟩ rfl (by decide) (zC_o) rfl rfl hAm hP hS rfl hl.1 rfl (Nat.le_of_ble_eq_true rfl) dL_isBounded_144 ⟨Nat.zero_le _, Nat.zero_le _⟩ (zkC (fun T12 top12 Z12 H locs hP hT12 hZ12 hS => ?_))
                refine W.eq (g2 := F0 m 147 ls [.long (zbd (P11 2) 25)]) rfl ?_
                refine W.eq (g2 := F0 m 147 ls [.long (zbd (zcut f5 (ztw f5 (nI tv).toInt64 nv 0)) 25)]) (by rw [hs11_2.1]) ?_
                refine lv_iload hx hb dL_isBounded_147 (lv_at hl 4 rfl) ?_
                refine zi2l hx hb (by omega) dL_isBounded_149 ?_
                refine lv_ladd hx hb dL_isBounded_150 ?_
                refine lv_lload hx hb dL_isBounded_151 (lv_at hl 3 rfl) ?_
                refine zl_lt (tgt := 176) hx hb dL_isBounded_153 dL_isBounded_154 (by decide) (fun c8 => ?_) (fun c8 => ?_)
                ·
                  exact absurd c8 hcl.1
                ·
                  refine lv_aload_n hx hb dL_isBounded_157 rfl (lv_at hl 6 rfl) ?_
                  refine lv_iconst (v := nI 2) hx hb dL_isBounded_158 (by decide +kernel) ?_
                  refine lv_iconst (v := nI 0) hx hb dL_isBounded_159 (by decide +kernel) ?_
                  refine zcallV (As := [.int (nI 2), .int (nI 0)]) (rest := []) (q := 24) (k := 2) hx hb hml hown hts (kX2_degreeWith l D cL cI cR A F hF T12 top12 Z12 P11 dg11 hT12 (zh24 hI11) 2 (by decide) (nI 0) (by unfold zin; decide)) gL_isBounded_X2_degreeWith rfl (by decide +kernel) ⟨Nat.le_of_ble_eq_true rfl, Nat.le_of_ble_eq_true rfl⟩ rfl (by decide) (zC_o) rfl rfl hAm hP hS rfl hl.1 rfl (Nat.le_of_ble_eq_true rfl) dL_isBounded_160 ⟨Nat.zero_le _, Nat.zero_le _⟩ (zkC (fun T13 top13 Z13 H locs hP hT13 hZ13 hS => ?_))
                  refine W.eq (g2 := F0 m 163 ls [.long (lN (ztw (P11 2) (nI 0).toInt64 (dg11 2) 0))]) rfl ?_
                  refine W.eq (g2 := F0 m 163 ls [.long (lN (ztw f5 (nI tv).toInt64 nv 0))]) (by rw [hs11_2.1, hs11_2.2, show (nI 0).toInt64 = 0 from rfl, zdw0 hI11 (by decide) hs11_2]) ?_
                  refine lv_aload_n hx hb dL_isBounded_163 rfl (lv_at hl 6 rfl) ?_
                  refine lv_iconst (v := nI 2) hx hb dL_isBounded_164 (by decide +kernel) ?_
                  refine zcallV (As := [.int (nI 2)]) (rest := [.long (lN (ztw f5 (nI tv).toInt64 nv 0))]) (q := 24) (k := 1) hx hb hml hown hts (kX2_degree l D cL cI cR A F hF T13 top13 Z13 P11 dg11 hT13 (zh24 hI11) 2 (by decide)) gL_isBounded_X2_degree rfl (by decide +kernel) ⟨Nat.le_of_ble_eq_true rfl, Nat.le_of_ble_eq_true rfl⟩ rfl (by decide) (zC_o) rfl rfl hAm hP hS rfl hl.1 rfl (Nat.le_of_ble_eq_true rfl) dL_isBounded_165 ⟨Nat.zero_le _, Nat.zero_le _⟩ (zkC (fun T14 top14 Z14 H locs hP hT14 hZ14 hS => ?_))
                  refine W.eq (g2 := F0 m 168 ls [.long (lN (dg11 2)), .long (lN (ztw f5 (nI tv).toInt64 nv 0))]) rfl ?_
                  refine W.eq (g2 := F0 m 168 ls [.long (lN (ztw f5 (nI tv).toInt64 nv 0)), .long (lN (ztw f5 (nI tv).toInt64 nv 0))]) (by rw [hs11_2.2]) ?_
                  refine zl_ne (tgt := 176) hx hb dL_isBounded_168 dL_isBounded_169 (by decide) (fun c9 => ?_) (fun c9 => ?_)
                  ·
                    exact absurd rfl c9
                  ·
                    refine lv_iconst (v := nI 1) hx hb dL_isBounded_172 (by decide +kernel) ?_
                    refine lv_goto (tgt := 177) hx hb dL_isBounded_173 (by decide) ?_
                    refine lv_istore_n (lv' := [(3, .int (nI 1)), (10, .long ((60 : Int64) * (lN (nv + 1)))), (8, .long (zval f5 nv ((nI xv) - (nI 1048576)).toInt64)), (7, .int ((nI xv) - (nI 1048576))), (5, .long (zbd f5 25)), (4, .int (nI tv)), (0, .ref (F 24)), (1, .int (nI nv)), (2, .int (nI dv))]) hx hb dL_isBounded_177 rfl hl (by decide) rfl (fun ls hl => ?_)
                    refine lv_aload_n hx hb dL_isBounded_178 rfl (lv_at hl 6 rfl) ?_
                    refine lv_iconst (v := nI 2) hx hb dL_isBounded_179 (by decide +kernel) ?_
                    refine lv_iload hx hb dL_isBounded_180 (lv_at hl 3 rfl) ?_
                    refine zcallV (As := [.int (nI 2), .int ((nI xv) - (nI 1048576))]) (rest := []) (q := 24) (k := 2) hx hb hml hown hts (kX2_value l D cL cI cR A F hF T14 top14 Z14 P11 dg11 hT14 (zh24 hI11) 2 (by decide) ((nI xv) - (nI 1048576)) (by unfold zin; rw [zsub_i (by omega) (by omega)]; omega)) gL_isBounded_X2_value rfl (by decide +kernel) ⟨Nat.le_of_ble_eq_true rfl, Nat.le_of_ble_eq_true rfl⟩ rfl (by decide) (zC_o) rfl rfl hAm hP hS rfl hl.1 rfl (Nat.le_of_ble_eq_true rfl) dL_isBounded_182 ⟨Nat.zero_le _, Nat.zero_le _⟩ (zkC (fun T15 top15 Z15 H locs hP hT15 hZ15 hS => ?_))
                    refine W.eq (g2 := F0 m 185 ls [.long (zval (P11 2) (dg11 2) ((nI xv) - (nI 1048576)).toInt64)]) rfl ?_
                    refine W.eq (g2 := F0 m 185 ls [.long (zval (zcut f5 (ztw f5 (nI tv).toInt64 nv 0)) (ztw f5 (nI tv).toInt64 nv 0) ((nI xv) - (nI 1048576)).toInt64)]) (by rw [hs11_2.1, hs11_2.2]) ?_
                    refine lv_lload hx hb dL_isBounded_185 (lv_at hl 2 rfl) ?_
                    refine lv_lsub hx hb dL_isBounded_187 ?_
                    refine lv_lstore (lv' := [(12, .long ((zval (zcut f5 (ztw f5 (nI tv).toInt64 nv 0)) (ztw f5 (nI tv).toInt64 nv 0) ((nI xv) - (nI 1048576)).toInt64) - (zval f5 nv ((nI xv) - (nI 1048576)).toInt64))), (3, .int (nI 1)), (10, .long ((60 : Int64) * (lN (nv + 1)))), (8, .long (zval f5 nv ((nI xv) - (nI 1048576)).toInt64)), (7, .int ((nI xv) - (nI 1048576))), (5, .long (zbd f5 25)), (4, .int (nI tv)), (0, .ref (F 24)), (1, .int (nI nv)), (2, .int (nI dv))]) hx hb dL_isBounded_188 hl (by decide) rfl (fun ls hl => ?_)
                    refine lv_iload_n hx hb dL_isBounded_190 rfl (lv_at hl 1 rfl) ?_
                    refine zf_eq (tgt := 231) hx hb dL_isBounded_191 (by decide) (by omega) (fun c10 => ?_) (fun c10 => ?_)
                    ·
                      exfalso; omega
                    ·
                      refine lv_lload hx hb dL_isBounded_194 (lv_at hl 0 rfl) ?_
                      refine lv_iload hx hb dL_isBounded_196 (lv_at hl 6 rfl) ?_
                      refine zi2l hx hb (by omega) dL_isBounded_198 ?_
                      refine lv_ldc2 hx hb hown (hts (.constantLong RL 95 (2)) (by decide +kernel)) dL_isBounded_199 ?_
                      refine lv_lload hx hb dL_isBounded_202 (lv_at hl 2 rfl) ?_
                      refine lv_lmul hx hb dL_isBounded_204 ?_
                      refine lv_ladd hx hb dL_isBounded_205 ?_
                      refine zl_gt (tgt := 231) hx hb dL_isBounded_206 dL_isBounded_207 (by decide) (fun c11 => ?_) (fun c11 => ?_)
                      ·
                        exact absurd c11 hcl.2.1
                      ·
                        refine lv_lload hx hb dL_isBounded_210 (lv_at hl 0 rfl) ?_
                        refine lv_lneg hx hb dL_isBounded_212 ?_
                        refine lv_iload hx hb dL_isBounded_213 (lv_at hl 6 rfl) ?_
                        refine zi2l hx hb (by omega) dL_isBounded_215 ?_
                        refine lv_ldc2 hx hb hown (hts (.constantLong RL 95 (2)) (by decide +kernel)) dL_isBounded_216 ?_
                        refine lv_lload hx hb dL_isBounded_219 (lv_at hl 2 rfl) ?_
                        refine lv_lmul hx hb dL_isBounded_221 ?_
                        refine lv_ladd hx hb dL_isBounded_222 ?_
                        refine zl_gt (tgt := 231) hx hb dL_isBounded_223 dL_isBounded_224 (by decide) (fun c12 => ?_) (fun c12 => ?_)
                        ·
                          exact absurd c12 hcl.2.2
                        ·
                          refine lv_iconst (v := nI 1) hx hb dL_isBounded_227 (by decide +kernel) ?_
                          refine lv_goto (tgt := 232) hx hb dL_isBounded_228 (by decide) ?_
                          refine lv_istore_n (lv' := [(3, .int (nI 1)), (12, .long ((zval (zcut f5 (ztw f5 (nI tv).toInt64 nv 0)) (ztw f5 (nI tv).toInt64 nv 0) ((nI xv) - (nI 1048576)).toInt64) - (zval f5 nv ((nI xv) - (nI 1048576)).toInt64))), (10, .long ((60 : Int64) * (lN (nv + 1)))), (8, .long (zval f5 nv ((nI xv) - (nI 1048576)).toInt64)), (7, .int ((nI xv) - (nI 1048576))), (5, .long (zbd f5 25)), (4, .int (nI tv)), (0, .ref (F 24)), (1, .int (nI nv)), (2, .int (nI dv))]) hx hb dL_isBounded_232 rfl hl (by decide) rfl (fun ls hl => ?_)
                          refine lv_iload_n hx hb dL_isBounded_233 rfl (lv_at hl 0 rfl) ?_
                          refine zf_eq (tgt := 305) hx hb dL_isBounded_234 (by decide) (by omega) (fun c13 => ?_) (fun c13 => ?_)
                          ·
                            exfalso; omega
                          ·
                            refine lv_aload_n hx hb dL_isBounded_237 rfl (lv_at hl 7 rfl) ?_
                            refine lv_iconst (v := nI 0) hx hb dL_isBounded_238 (by decide +kernel) ?_
                            refine lv_iconst (v := nI 1) hx hb dL_isBounded_239 (by decide +kernel) ?_
                            refine lv_iconst (v := nI 1) hx hb dL_isBounded_240 (by decide +kernel) ?_
                            refine lv_iconst (v := nI 1) hx hb dL_isBounded_241 (by decide +kernel) ?_
                            refine lv_iconst (v := nI 2) hx hb dL_isBounded_242 (by decide +kernel) ?_
                            refine zcallV (As := [.int (nI 0), .int (nI 1), .int (nI 1), .int (nI 1), .int (nI 2)]) (rest := []) (q := 24) (k := 5) hx hb hml hown hts (kX2_add l D cL cI cR A F hF T15 top15 Z15 P11 dg11 hT15 (zh24 hI11) 0 (by decide) 1 (by decide) 2 (by decide) (nI 1) (nI 1) (by unfold zin; decide) (by unfold zin; decide)) gL_isBounded_X2_add rfl (by decide +kernel) ⟨Nat.le_of_ble_eq_true rfl, Nat.le_of_ble_eq_true rfl⟩ rfl (by decide) (zC_o) rfl rfl hAm hP hS rfl hl.1 rfl (Nat.le_of_ble_eq_true rfl) dL_isBounded_243 ⟨Nat.zero_le _, Nat.zero_le _⟩ (zkC (fun T16 top16 Z16 H locs hP hT16 hZ16 hS => ?_))
                            refine W.eq (g2 := F0 m 246 ls [.long (zkr (zsum (nI 1).toInt64 (nI 1).toInt64 (P11 0) (P11 1)))]) rfl ?_
                            refine W.eq (g2 := F0 m 246 ls [.long (lN (ztop (zsum 1 1 f5 f6) 48))]) (by rw [hs11_0.1, hs11_1.1, show (nI 1).toInt64 = 1 from rfl, zkr_ok (zke_good (zsum_good hfb5 hfb6) (ztop_of 48 (fun j hj _ => by rw [zsum_pp, hfz5 j (by omega), hfz6 j (by omega)]; rfl))) rfl]) ?_
                            have hJ16 := zI_add (fa := (nI 1).toInt64) (fb := (nI 1).toInt64) hI11 2 (a := 0) (b := 1) (by decide) (by decide) (by unfold zb; decide) (by unfold zb; decide)
                            rw [hs11_0.1, hs11_1.1, show (nI 1).toInt64 = 1 from rfl] at hJ16 hT16
                            obtain ⟨P16, dg16, hTP16, hI16, hs16_2, hk16⟩ := zo_k hJ16 (zke_good (zsum_good hfb5 hfb6) (ztop_of 48 (fun j hj _ => by rw [zsum_pp, hfz5 j (by omega), hfz6 j (by omega)]; rfl))) rfl hT16
                            have hs16_0 := hk16 0 _ _ (by decide) hs11_0
                            have hs16_1 := hk16 1 _ _ (by decide) hs11_1
                            refine lv_lconst (v := (0 : Int64)) hx hb dL_isBounded_246 (by decide +kernel) ?_
                            refine zl_lt (tgt := 305) hx hb dL_isBounded_247 dL_isBounded_248 (by decide) (fun c14 => ?_) (fun c14 => ?_)
                            ·
                              exact absurd c14 (zlN_t _ rfl)
                            ·
                              refine lv_aload_n hx hb dL_isBounded_251 rfl (lv_at hl 7 rfl) ?_
                              refine lv_iconst (v := nI 2) hx hb dL_isBounded_252 (by decide +kernel) ?_
                              refine lv_iconst (v := nI 1) hx hb dL_isBounded_253 (by decide +kernel) ?_
                              refine lv_iconst (v := nI 1) hx hb dL_isBounded_254 (by decide +kernel) ?_
                              refine lv_iconst (v := (-1 : Int32)) hx hb dL_isBounded_255 (by decide +kernel) ?_
                              refine lv_iconst (v := nI 2) hx hb dL_isBounded_256 (by decide +kernel) ?_
                              refine zcallV (As := [.int (nI 2), .int (nI 1), .int (nI 1), .int (-1 : Int32), .int (nI 2)]) (rest := []) (q := 24) (k := 5) hx hb hml hown hts (kX2_add l D cL cI cR A F hF T16 top16 Z16 P16 dg16 hTP16 (zh24 hI16) 2 (by decide) 1 (by decide) 2 (by decide) (nI 1) (-1 : Int32) (by unfold zin; decide) (by unfold zin; decide)) gL_isBounded_X2_add rfl (by decide +kernel) ⟨Nat.le_of_ble_eq_true rfl, Nat.le_of_ble_eq_true rfl⟩ rfl (by decide) (zC_o) rfl rfl hAm hP hS rfl hl.1 rfl (Nat.le_of_ble_eq_true rfl) dL_isBounded_257 ⟨Nat.zero_le _, Nat.zero_le _⟩ (zkC (fun T17 top17 Z17 H locs hP hT17 hZ17 hS => ?_))
                              refine W.eq (g2 := F0 m 260 ls [.long (zkr (zsum (nI 1).toInt64 (-1 : Int32).toInt64 (P16 2) (P16 1)))]) rfl ?_
                              refine W.eq (g2 := F0 m 260 ls [.long (lN nv)]) (by rw [hs16_2.1, hs16_1.1, show (nI 1).toInt64 = 1 from rfl, show (-1 : Int32).toInt64 = -1 from rfl, zsum_back, zkr_ok (zke_good hgd (by rw [ztop_is hnv hfz5 hfl5]; exact hnv)) (ztop_is hnv hfz5 hfl5)]) ?_
                              have hJ17 := zI_add (fa := (nI 1).toInt64) (fb := (-1 : Int32).toInt64) hI16 2 (a := 2) (b := 1) (by decide) (by decide) (by unfold zb; decide) (by unfold zb; decide)
                              rw [hs16_2.1, hs16_1.1, show (nI 1).toInt64 = 1 from rfl, show (-1 : Int32).toInt64 = -1 from rfl, zsum_back] at hJ17 hT17
                              obtain ⟨P17, dg17, hTP17, hI17, hs17_2, hk17⟩ := zo_k hJ17 (zke_good hgd (by rw [ztop_is hnv hfz5 hfl5]; exact hnv)) (ztop_is hnv hfz5 hfl5) hT17
                              have hs17_0 := hk17 0 _ _ (by decide) hs16_0
                              have hs17_1 := hk17 1 _ _ (by decide) hs16_1
                              refine lv_iload_n hx hb dL_isBounded_260 rfl (lv_at hl 8 rfl) ?_
                              refine zi2l hx hb (by omega) dL_isBounded_261 ?_
                              refine zl_ne (tgt := 305) hx hb dL_isBounded_262 dL_isBounded_263 (by decide) (fun c15 => ?_) (fun c15 => ?_)
                              ·
                                exact absurd rfl c15
                              ·
                                refine lv_aload_n hx hb dL_isBounded_266 rfl (lv_at hl 7 rfl) ?_
                                refine lv_iconst (v := nI 2) hx hb dL_isBounded_267 (by decide +kernel) ?_
                                refine lv_iconst (v := nI 1) hx hb dL_isBounded_268 (by decide +kernel) ?_
                                refine lv_iconst (v := nI 0) hx hb dL_isBounded_269 (by decide +kernel) ?_
                                refine lv_iconst (v := (-1 : Int32)) hx hb dL_isBounded_270 (by decide +kernel) ?_
                                refine lv_iconst (v := nI 3) hx hb dL_isBounded_271 (by decide +kernel) ?_
                                refine zcallV (As := [.int (nI 2), .int (nI 1), .int (nI 0), .int (-1 : Int32), .int (nI 3)]) (rest := []) (q := 24) (k := 5) hx hb hml hown hts (kX2_add l D cL cI cR A F hF T17 top17 Z17 P17 dg17 hTP17 (zh24 hI17) 2 (by decide) 0 (by decide) 3 (by decide) (nI 1) (-1 : Int32) (by unfold zin; decide) (by unfold zin; decide)) gL_isBounded_X2_add rfl (by decide +kernel) ⟨Nat.le_of_ble_eq_true rfl, Nat.le_of_ble_eq_true rfl⟩ rfl (by decide) (zC_o) rfl rfl hAm hP hS rfl hl.1 rfl (Nat.le_of_ble_eq_true rfl) dL_isBounded_272 ⟨Nat.zero_le _, Nat.zero_le _⟩ (zkC (fun T18 top18 Z18 H locs hP hT18 hZ18 hS => ?_))
                                refine W.eq (g2 := F0 m 275 ls [.long (zkr (zsum (nI 1).toInt64 (-1 : Int32).toInt64 (P17 2) (P17 0)))]) rfl ?_
                                refine W.eq (g2 := F0 m 275 ls [.long (lN 0)]) (by rw [hs17_2.1, hs17_0.1, show (nI 1).toInt64 = 1 from rfl, show (-1 : Int32).toInt64 = -1 from rfl, zsum_none, zkr_ok (show zke (fun _ => 0) = 0 from by decide) (show ztop (fun _ => 0) 48 = 0 from by decide)]) ?_
                                have hJ18 := zI_add (fa := (nI 1).toInt64) (fb := (-1 : Int32).toInt64) hI17 3 (a := 2) (b := 0) (by decide) (by decide) (by unfold zb; decide) (by unfold zb; decide)
                                rw [hs17_2.1, hs17_0.1, show (nI 1).toInt64 = 1 from rfl, show (-1 : Int32).toInt64 = -1 from rfl, zsum_none] at hJ18 hT18
                                obtain ⟨P18, dg18, hTP18, hI18, hs18_3, hk18⟩ := zo_k hJ18 (show zke (fun _ => 0) = 0 from by decide) (show ztop (fun _ => 0) 48 = 0 from by decide) hT18
                                have hs18_0 := hk18 0 _ _ (by decide) hs17_0
                                have hs18_1 := hk18 1 _ _ (by decide) hs17_1
                                have hs18_2 := hk18 2 _ _ (by decide) hs17_2
                                refine lv_lconst (v := (0 : Int64)) hx hb dL_isBounded_275 (by decide +kernel) ?_
                                refine zl_ne (tgt := 305) hx hb dL_isBounded_276 dL_isBounded_277 (by decide) (fun c16 => ?_) (fun c16 => ?_)
                                ·
                                  exact absurd rfl c16
                                ·
                                  refine lv_aload_n hx hb dL_isBounded_280 rfl (lv_at hl 7 rfl) ?_
                                  refine lv_iconst (v := nI 3) hx hb dL_isBounded_281 (by decide +kernel) ?_
                                  refine lv_iconst (v := nI 0) hx hb dL_isBounded_282 (by decide +kernel) ?_
                                  refine zcallV (As := [.int (nI 3), .int (nI 0)]) (rest := []) (q := 24) (k := 2) hx hb hml hown hts (kX2_coefficient l D cL cI cR A F hF T18 top18 Z18 P18 dg18 hTP18 (zh24 hI18) 3 (by decide) 0 (by omega)) gL_isBounded_X2_coefficient rfl (by decide +kernel) ⟨Nat.le_of_ble_eq_true rfl, Nat.le_of_ble_eq_true rfl⟩ rfl (by decide) (zC_o) rfl rfl hAm hP hS rfl hl.1 rfl (Nat.le_of_ble_eq_true rfl) dL_isBounded_283 ⟨Nat.zero_le _, Nat.zero_le _⟩ (zkC (fun T19 top19 Z19 H locs hP hT19 hZ19 hS => ?_))
                                  refine W.eq (g2 := F0 m 286 ls [.long (P18 3 0)]) rfl ?_
                                  refine W.eq (g2 := F0 m 286 ls [.long (0 : Int64)]) (by rw [hs18_3.1]) ?_
                                  refine lv_lconst (v := (0 : Int64)) hx hb dL_isBounded_286 (by decide +kernel) ?_
                                  refine zl_ne (tgt := 305) hx hb dL_isBounded_287 dL_isBounded_288 (by decide) (fun c17 => ?_) (fun c17 => ?_)
                                  ·
                                    exact absurd rfl c17
                                  ·
                                    refine lv_aload_n hx hb dL_isBounded_291 rfl (lv_at hl 7 rfl) ?_
                                    refine lv_iconst (v := nI 3) hx hb dL_isBounded_292 (by decide +kernel) ?_
                                    refine zcallV (As := [.int (nI 3)]) (rest := []) (q := 24) (k := 1) hx hb hml hown hts (kX2_bound l D cL cI cR A F hF T19 top19 Z19 P18 dg18 hT19 (zh24 hI18) 3 (by decide)) gL_isBounded_X2_bound rfl (by decide +kernel) ⟨Nat.le_of_ble_eq_true rfl, Nat.le_of_ble_eq_true rfl⟩ rfl (by decide) (zC_o) rfl rfl hAm hP hS rfl hl.1 rfl (Nat.le_of_ble_eq_true rfl) dL_isBounded_293 ⟨Nat.zero_le _, Nat.zero_le _⟩ (zkC (fun T20 top20 Z20 H locs hP hT20 hZ20 hS => ?_))
                                    refine W.eq (g2 := F0 m 296 ls [.long (zbd (P18 3) 25)]) rfl ?_
                                    refine W.eq (g2 := F0 m 296 ls [.long (0 : Int64)]) (by rw [hs18_3.1, show zbd (fun _ => 0) 25 = 0 from by decide]) ?_
                                    refine lv_lconst (v := (0 : Int64)) hx hb dL_isBounded_296 (by decide +kernel) ?_
                                    refine zl_ne (tgt := 305) hx hb dL_isBounded_297 dL_isBounded_298 (by decide) (fun c18 => ?_) (fun c18 => ?_)
                                    ·
                                      exact absurd rfl c18
                                    ·
                                      refine lv_iconst (v := nI 1) hx hb dL_isBounded_301 (by decide +kernel) ?_
                                      refine lv_goto (tgt := 306) hx hb dL_isBounded_302 (by decide) ?_
                                      refine lv_istore_n (lv' := [(3, .int (nI 1)), (12, .long ((zval (zcut f5 (ztw f5 (nI tv).toInt64 nv 0)) (ztw f5 (nI tv).toInt64 nv 0) ((nI xv) - (nI 1048576)).toInt64) - (zval f5 nv ((nI xv) - (nI 1048576)).toInt64))), (10, .long ((60 : Int64) * (lN (nv + 1)))), (8, .long (zval f5 nv ((nI xv) - (nI 1048576)).toInt64)), (7, .int ((nI xv) - (nI 1048576))), (5, .long (zbd f5 25)), (4, .int (nI tv)), (0, .ref (F 24)), (1, .int (nI nv)), (2, .int (nI dv))]) hx hb dL_isBounded_306 rfl hl (by decide) rfl (fun ls hl => ?_)
                                      refine lv_iload_n hx hb dL_isBounded_307 rfl (lv_at hl 0 rfl) ?_
                                      refine zf_eq (tgt := 363) hx hb dL_isBounded_308 (by decide) (by omega) (fun c19 => ?_) (fun c19 => ?_)
                                      ·
                                        exfalso; omega
                                      ·
                                        refine lv_aload_n hx hb dL_isBounded_311 rfl (lv_at hl 7 rfl) ?_
                                        refine lv_iconst (v := nI 3) hx hb dL_isBounded_312 (by decide +kernel) ?_
                                        refine lv_iconst (v := nI 0) hx hb dL_isBounded_313 (by decide +kernel) ?_
                                        refine zcallV (As := [.int (nI 3), .int (nI 0)]) (rest := []) (q := 24) (k := 2) hx hb hml hown hts (kX2_byValue l D cL cI cR A F hF T20 top20 Z20 P18 dg18 hT20 (zh24 hI18) 3 (by decide) 0 (by decide)) gL_isBounded_X2_byValue rfl (by decide +kernel) ⟨Nat.le_of_ble_eq_true rfl, Nat.le_of_ble_eq_true rfl⟩ rfl (by decide) (zC_o) rfl rfl hAm hP hS rfl hl.1 rfl (Nat.le_of_ble_eq_true rfl) dL_isBounded_314 ⟨Nat.zero_le _, Nat.zero_le _⟩ (zkC (fun T21 top21 Z21 H locs hP hT21 hZ21 hS => ?_))
                                        refine W.eq (g2 := F0 m 317 ls [.long (zbv (P18 3) (dg18 3) 0 (dg18 3 + 1) 0)]) rfl ?_
                                        refine W.eq (g2 := F0 m 317 ls [.long (0 : Int64)]) (by rw [hs18_3.1, hs18_3.2, show zbv (fun _ => 0) 0 0 (0 + 1) 0 = 0 from by decide]) ?_
                                        refine lv_lconst (v := (0 : Int64)) hx hb dL_isBounded_317 (by decide +kernel) ?_
                                        refine zl_ne (tgt := 363) hx hb dL_isBounded_318 dL_isBounded_319 (by decide) (fun c20 => ?_) (fun c20 => ?_)
                                        ·
                                          exact absurd rfl c20
                                        ·
                                          refine lv_aload_n hx hb dL_isBounded_322 rfl (lv_at hl 7 rfl) ?_
                                          refine lv_iconst (v := nI 3) hx hb dL_isBounded_323 (by decide +kernel) ?_
                                          refine lv_iconst (v := nI 1) hx hb dL_isBounded_324 (by decide +kernel) ?_
                                          refine zcallV (As := [.int (nI 3), .int (nI 1)]) (rest := []) (q := 24) (k := 2) hx hb hml hown hts (kX2_byValue l D cL cI cR A F hF T21 top21 Z21 P18 dg18 hT21 (zh24 hI18) 3 (by decide) 1 (by decide)) gL_isBounded_X2_byValue rfl (by decide +kernel) ⟨Nat.le_of_ble_eq_true rfl, Nat.le_of_ble_eq_true rfl⟩ rfl (by decide) (zC_o) rfl rfl hAm hP hS rfl hl.1 rfl (Nat.le_of_ble_eq_true rfl) dL_isBounded_325 ⟨Nat.zero_le _, Nat.zero_le _⟩ (zkC (fun T22 top22 Z22 H locs hP hT22 hZ22 hS => ?_))
                                          refine W.eq (g2 := F0 m 328 ls [.long (zbv (P18 3) (dg18 3) 1 (dg18 3 + 1) 0)]) rfl ?_
                                          refine W.eq (g2 := F0 m 328 ls [.long (-9000000000000000004 : Int64)]) (by rw [hs18_3.1, hs18_3.2, show zbv (fun _ => 0) 0 1 (0 + 1) 0 = -9000000000000000004 from by decide]) ?_
                                          refine lv_ldc2 hx hb hown (hts (.constantLong RL 104 (-9000000000000000004)) (by decide +kernel)) dL_isBounded_328 ?_
                                          refine zl_ne (tgt := 363) hx hb dL_isBounded_331 dL_isBounded_332 (by decide) (fun c21 => ?_) (fun c21 => ?_)
                                          ·
                                            exact absurd rfl c21
                                          ·
                                            refine lv_lload hx hb dL_isBounded_335 (lv_at hl 5 rfl) ?_
                                            refine lv_lconst (v := (0 : Int64)) hx hb dL_isBounded_337 (by decide +kernel) ?_
                                            refine zl_eq (tgt := 359) hx hb dL_isBounded_338 dL_isBounded_339 (by decide) (fun c22 => ?_) (fun c22 => ?_)
                                            ·
                                              refine lv_iconst (v := nI 1) hx hb dL_isBounded_359 (by decide +kernel) ?_
                                              refine lv_goto (tgt := 364) hx hb dL_isBounded_360 (by decide) ?_
                                              exact zretZ hx hb hr hlk hS hP (by first | rfl | (rw [hv]; unfold zbN; split <;> rfl)) dL_isBounded_364 ⟨_, _, _, _, _, rfl, rfl, hT22, hI18, trivial⟩
                                            ·
                                              obtain ⟨kk, hkk1, hkk2, hkk3⟩ := zbv_big hgd hnv hfz5
                                              refine lv_aload_n hx hb dL_isBounded_342 rfl (lv_at hl 7 rfl) ?_
                                              refine lv_iconst (v := nI 0) hx hb dL_isBounded_343 (by decide +kernel) ?_
                                              refine lv_aload_n hx hb dL_isBounded_344 rfl (lv_at hl 7 rfl) ?_
                                              refine lv_iconst (v := nI 0) hx hb dL_isBounded_345 (by decide +kernel) ?_
                                              refine lv_iconst (v := nI 0) hx hb dL_isBounded_346 (by decide +kernel) ?_
                                              refine zcallV (As := [.int (nI 0), .int (nI 0)]) (rest := [.int (nI 0), .ref (F 24)]) (q := 24) (k := 2) hx hb hml hown hts (kX2_byValue l D cL cI cR A F hF T22 top22 Z22 P18 dg18 hT22 (zh24 hI18) 0 (by decide) 0 (by decide)) gL_isBounded_X2_byValue rfl (by decide +kernel) ⟨Nat.le_of_ble_eq_true rfl, Nat.le_of_ble_eq_true rfl⟩ rfl (by decide) (zC_o) rfl rfl hAm hP hS rfl hl.1 rfl (Nat.le_of_ble_eq_true rfl) dL_isBounded_347 ⟨Nat.zero_le _, Nat.zero_le _⟩ (zkC (fun T23 top23 Z23 H locs hP hT23 hZ23 hS => ?_))
                                              refine W.eq (g2 := F0 m 350 ls [.long (zbv (P18 0) (dg18 0) 0 (dg18 0 + 1) 0), .int (nI 0), .ref (F 24)]) rfl ?_
                                              refine W.eq (g2 := F0 m 350 ls [.long (lN kk), .int (nI 0), .ref (F 24)]) (by rw [hs18_0.1, hs18_0.2, hkk2]) ?_
                                              refine lv_l2i (v := (lN kk).toInt32) hx hb dL_isBounded_350 rfl ?_
                                              refine W.eq (g2 := F0 m 351 ls [.int (nI kk), .int (nI 0), .ref (F 24)]) (by rw [lN_i]) ?_
                                              refine zcallV (As := [.int (nI 0), .int (nI kk)]) (rest := []) (q := 24) (k := 2) hx hb hml hown hts (kX2_coefficient l D cL cI cR A F hF T23 top23 Z23 P18 dg18 hT23 (zh24 hI18) 0 (by decide) kk (by omega)) gL_isBounded_X2_coefficient rfl (by decide +kernel) ⟨Nat.le_of_ble_eq_true rfl, Nat.le_of_ble_eq_true rfl⟩ rfl (by decide) (zC_o) rfl rfl hAm hP hS rfl hl.1 rfl (Nat.le_of_ble_eq_true rfl) dL_isBounded_351 ⟨Nat.zero_le _, Nat.zero_le _⟩ (zkC (fun T24 top24 Z24 H locs hP hT24 hZ24 hS => ?_))
                                              refine W.eq (g2 := F0 m 354 ls [.long (P18 0 kk)]) rfl ?_
                                              refine W.eq (g2 := F0 m 354 ls [.long (f5 kk)]) (by rw [hs18_0.1]) ?_
                                              refine lv_lconst (v := (0 : Int64)) hx hb dL_isBounded_354 (by decide +kernel) ?_
                                              refine zl_eq (tgt := 363) hx hb dL_isBounded_355 dL_isBounded_356 (by decide) (fun c23 => ?_) (fun c23 => ?_)
                                              ·
                                                exact absurd c23 (hkk3 (by assumption))
                                              ·
                                                refine lv_iconst (v := nI 1) hx hb dL_isBounded_359 (by decide +kernel) ?_
                                                refine lv_goto (tgt := 364) hx hb dL_isBounded_360 (by decide) ?_
                                                exact zretZ hx hb hr hlk hS hP (by first | rfl | (rw [hv]; unfold zbN; split <;> rfl)) dL_isBounded_364 ⟨_, _, _, _, _, rfl, rfl, hT24, hI18, trivial⟩
