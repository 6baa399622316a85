/-! the law: a root that was put in -/
set_option maxHeartbeats 4000000 in
set_option maxRecDepth 100000 in
theorem kL_isRooted (l : Launch) (D : va_G) (cL cI cR : ClassId) (A : Nat → Prop) (F : Nat → Nat) (hF : zq_F A F 30) (T0 : Nat → Nat → Int64) (top0 : Nat → Nat) (Z0 : zZC) (P0 : Nat → Nat → Int64) (dg0 : Nat → Nat) (hTP0 : ∀ i, i < 8 → T0 i = P0 i ∧ top0 i = dg0 i) (hI0 : zInv P0 dg0) (cv : Nat) (hcv : cv < 2147483648) : zCt l yL_isRooted wsL_isRooted 6 166 D cL cI cR A F 30 (zCE cL cR F T0 top0 Z0) [.ref (F 24), .int (nI cv)] (zLo cL cR F (fun _ _ => True)) := by
  refine zStart (cc := cL_isRooted) (maxL := 11) (ret := (some .boolean)) (by decide +kernel) rfl (Nat.le_of_ble_eq_true rfl) ?_
  intro p e s m below meth c hx hb hr hml hlk hown hts hAm H hP hS ls hl
  have hown : s.vm.findClass RL = some m.cls := hown
  have hl : lv_has ls 11 [(0, .ref (F 24)), (1, .int (nI cv))] := hl
  obtain ⟨rv, hrv⟩ : ∃ rv, rv = (cv / 2 ^ 2) % 1900001 := ⟨_, rfl⟩
  have hrv9 : rv < 1900001 := by rw [hrv]; exact Nat.mod_lt _ (by omega)
  obtain ⟨ri, hri⟩ : ∃ ri, ri = nI rv - nI 950000 := ⟨_, rfl⟩
  have hrt : ri.toInt = (rv : Int) - 950000 := by rw [hri, zsub_i (by omega) (by omega)]; omega
  have hrb : zb ri.toInt64 950000 := by rw [hri]; exact zb_nIs (by omega) (by omega) (by omega) (by omega)
  have hr1 : zb ri.toInt64 1048576 := zb_le hrb (by decide)
  have hnt := znegI (x := ri) (by omega)
  have hd0 : ztop (vp_updL (ztb 1) 0 (-ri).toInt64) 48 = 1 := by rw [hnt.2]; exact zxr_top ri.toInt64
  obtain ⟨qv, hqv⟩ : ∃ qv, qv = (cv % 500000) + 1 := ⟨_, rfl⟩
  have hqv9 : 1 ≤ qv ∧ qv ≤ 500000 := by omega
  have hqb : zb (nI qv).toInt64 500000 := zb_nI (by omega) (by omega)
  have hq1 : 1 ≤ (nI qv).toInt64.toInt := by rw [zi64, nI_toInt (by omega)]; omega
  have hq2 : (nI qv).toInt64.toInt ≤ 500000 := by rw [zi64, nI_toInt (by omega)]; omega
  obtain ⟨ln, hln⟩ : ∃ ln, ln = (zroots (zxr ri.toInt64) 1).1.length := ⟨_, rfl⟩
  have hln1 : 1 ≤ ln := by rw [hln]; exact zxr_some hrb
  have hln2 : ln ≤ 24 := by rw [hln]; exact (zroots_len _ _).1
  refine lv_iload_n hx hb dL_isRooted_0 rfl (lv_at hl 1 rfl) ?_
  refine lv_iconst (v := nI 2) hx hb dL_isRooted_1 (by decide +kernel) ?_
  refine lv_ishr hx hb dL_isRooted_2 ?_
  refine W.eq (g2 := F0 m 3 ls [.int (nI (cv / 2 ^ 2))]) (by rw [zshr_n (by omega) (by decide)]) ?_
  refine lv_ldc hx hb hown (hts (.constant RL 106 (1900001)) (by decide +kernel)) dL_isRooted_3 ?_
  refine W.eq (g2 := F0 m 5 ls [.int (nI 1900001), .int (nI (cv / 2 ^ 2))]) rfl ?_
  refine lv_irem hx hb dL_isRooted_5 (znI_ne (by omega) (by omega)) ?_
  refine W.eq (g2 := F0 m 6 ls [.int (nI ((cv / 2 ^ 2) % 1900001))]) (by rw [zrem_n (by omega) (by omega) (by omega)]) ?_
  refine W.eq (g2 := F0 m 6 ls [.int (nI rv)]) (by rw [← hrv]) ?_
  refine lv_ldc hx hb hown (hts (.constant RL 107 (950000)) (by decide +kernel)) dL_isRooted_6 ?_
  refine W.eq (g2 := F0 m 8 ls [.int (nI 950000), .int (nI rv)]) rfl ?_
  refine lv_isub hx hb dL_isRooted_8 ?_
  refine W.eq (g2 := F0 m 9 ls [.int ri]) (by rw [← hri]) ?_
  refine lv_istore_n (lv' := [(2, .int ri), (0, .ref (F 24)), (1, .int (nI cv))]) hx hb dL_isRooted_9 rfl hl (by decide) rfl (fun ls hl => ?_)
  refine lv_aload_n hx hb dL_isRooted_10 rfl (lv_at hl 1 rfl) ?_
  refine lv_iconst (v := nI 1) hx hb dL_isRooted_11 (by decide +kernel) ?_
  refine lv_iconst (v := nI 0) hx hb dL_isRooted_12 (by decide +kernel) ?_
  refine zcallV (As := [.int (nI 1), .int (nI 0)]) (rest := []) (q := 24) (k := 2) hx hb hml hown hts (kX2_basis l D cL cI cR A F hF T0 top0 Z0 P0 dg0 hTP0 (zh24 hI0) 0 (by decide) 1 (by omega)) gL_isRooted_X2_basis rfl (by decide +kernel) ⟨Nat.le_of_ble_eq_true rfl, Nat.le_of_ble_eq_true rfl⟩ rfl (by decide) (zC_o) rfl rfl hAm hP hS rfl hl.1 rfl (Nat.le_of_ble_eq_true rfl) dL_isRooted_13 ⟨Nat.zero_le _, Nat.zero_le _⟩ (zkC (fun T5 top5 Z5 H locs hP hT5 hZ5 hS => ?_))
  refine W.eq (g2 := F0 m 16 ls [.long (lN 1)]) rfl ?_
  obtain ⟨P5, dg5, hTP5, hI5, hs5_0, hk5⟩ := zo_basis hI0 (by omega) hT5
  refine lv_lconst (v := (1 : Int64)) hx hb dL_isRooted_16 (by decide +kernel) ?_
  refine zl_ne (tgt := 75) hx hb dL_isRooted_17 dL_isRooted_18 (by decide) (fun c1 => ?_) (fun c1 => ?_)
  ·
    exact absurd rfl c1
  ·
    refine lv_aload_n hx hb dL_isRooted_21 rfl (lv_at hl 1 rfl) ?_
    refine lv_iconst (v := nI 0) hx hb dL_isRooted_22 (by decide +kernel) ?_
    refine lv_iconst (v := nI 0) hx hb dL_isRooted_23 (by decide +kernel) ?_
    refine lv_iload_n hx hb dL_isRooted_24 rfl (lv_at hl 0 rfl) ?_
    refine lv_ineg hx hb dL_isRooted_25 ?_
    refine zcallV (As := [.int (nI 0), .int (nI 0), .int (-ri)]) (rest := []) (q := 24) (k := 3) hx hb hml hown hts (kX2_setCoefficient l D cL cI cR A F hF T5 top5 Z5 P5 dg5 hTP5 (zh24 hI5) 0 (by decide) 0 (by omega) (-ri) (by unfold zin; rw [hnt.1]; omega)) gL_isRooted_X2_setCoefficient rfl (by decide +kernel) ⟨Nat.le_of_ble_eq_true rfl, Nat.le_of_ble_eq_true rfl⟩ rfl (by decide) (zC_o) rfl rfl hAm hP hS rfl hl.1 rfl (Nat.le_of_ble_eq_true rfl) dL_isRooted_26 ⟨Nat.zero_le _, Nat.zero_le _⟩ (zkC (fun T6 top6 Z6 H locs hP hT6 hZ6 hS => ?_))
    refine W.eq (g2 := F0 m 29 ls [.long (lN (ztop (vp_updL (P5 0) 0 (-ri).toInt64) 48))]) rfl ?_
    refine W.eq (g2 := F0 m 29 ls [.long (lN 1)]) (by rw [hs5_0.1, hd0]) ?_
    obtain ⟨P6, dg6, hTP6, hI6, hs6_0, hk6⟩ := zo_set hI5 (by decide) (by omega) (by rw [hnt.2]; exact zb_le (zb_neg hrb (by decide)) (by decide)) hs5_0 hd0 hT6
    rw [hnt.2] at hs6_0
    have hs6_0 : P6 0 = (zxr ri.toInt64) ∧ dg6 0 = 1 := hs6_0
    refine lv_lconst (v := (1 : Int64)) hx hb dL_isRooted_29 (by decide +kernel) ?_
    refine zl_ne (tgt := 75) hx hb dL_isRooted_30 dL_isRooted_31 (by decide) (fun c2 => ?_) (fun c2 => ?_)
    ·
      exact absurd rfl c2
    ·
      refine lv_aload_n hx hb dL_isRooted_34 rfl (lv_at hl 1 rfl) ?_
      refine lv_iconst (v := nI 0) hx hb dL_isRooted_35 (by decide +kernel) ?_
      refine lv_iload_n hx hb dL_isRooted_36 rfl (lv_at hl 0 rfl) ?_
      refine zcallV (As := [.int (nI 0), .int ri]) (rest := []) (q := 24) (k := 2) hx hb hml hown hts (kX2_value l D cL cI cR A F hF T6 top6 Z6 P6 dg6 hTP6 (zh24 hI6) 0 (by decide) ri (by unfold zin; omega)) gL_isRooted_X2_value rfl (by decide +kernel) ⟨Nat.le_of_ble_eq_true rfl, Nat.le_of_ble_eq_true rfl⟩ rfl (by decide) (zC_o) rfl rfl hAm hP hS rfl hl.1 rfl (Nat.le_of_ble_eq_true rfl) dL_isRooted_37 ⟨Nat.zero_le _, Nat.zero_le _⟩ (zkC (fun T7 top7 Z7 H locs hP hT7 hZ7 hS => ?_))
      refine W.eq (g2 := F0 m 40 ls [.long (zval (P6 0) (dg6 0) ri.toInt64)]) rfl ?_
      refine W.eq (g2 := F0 m 40 ls [.long (0 : Int64)]) (by rw [hs6_0.1, hs6_0.2, zxr_v0 hrb]) ?_
      refine lv_lconst (v := (0 : Int64)) hx hb dL_isRooted_40 (by decide +kernel) ?_
      refine zl_ne (tgt := 75) hx hb dL_isRooted_41 dL_isRooted_42 (by decide) (fun c3 => ?_) (fun c3 => ?_)
      ·
        exact absurd rfl c3
      ·
        refine lv_aload_n hx hb dL_isRooted_45 rfl (lv_at hl 1 rfl) ?_
        refine lv_iconst (v := nI 0) hx hb dL_isRooted_46 (by decide +kernel) ?_
        refine lv_iconst (v := (-1 : Int32)) hx hb dL_isRooted_47 (by decide +kernel) ?_
        refine zcallV (As := [.int (nI 0), .int (-1 : Int32)]) (rest := []) (q := 24) (k := 2) hx hb hml hown hts (kX2_root l D cL cI cR A F hF T7 top7 Z7.1 Z7.2.1 Z7.2.2.1 Z7.2.2.2.1 Z7.2.2.2.2.1 Z7.2.2.2.2.2 P6 dg6 hT7 (zh24 hI6) 0 (by decide) (-1 : Int32) (by decide)) gL_isRooted_X2_root rfl (by decide +kernel) ⟨Nat.le_of_ble_eq_true rfl, Nat.le_of_ble_eq_true rfl⟩ rfl (by decide) (zC_o) rfl rfl hAm hP hS rfl hl.1 rfl (Nat.le_of_ble_eq_true rfl) dL_isRooted_48 ⟨Nat.zero_le _, Nat.zero_le _⟩ (zkC (fun T8 top8 Z8 H locs hP hT8 hZ8 hS => ?_))
        refine W.eq (g2 := F0 m 51 ls [.long (zrootr (zroots (P6 0) (dg6 0)).1 (-1 : Int32))]) rfl ?_
        refine W.eq (g2 := F0 m 51 ls [.long (lN ln)]) (by rw [hs6_0.1, hs6_0.2, zrootr_m, ← hln]) ?_
        refine lv_lconst (v := (1 : Int64)) hx hb dL_isRooted_51 (by decide +kernel) ?_
        refine zl_lt (tgt := 75) hx hb dL_isRooted_52 dL_isRooted_53 (by decide) (fun c4 => ?_) (fun c4 => ?_)
        ·
          exact absurd c4 (zlN_1 hln1 hln2)
        ·
          refine lv_aload_n hx hb dL_isRooted_56 rfl (lv_at hl 1 rfl) ?_
          refine lv_iconst (v := nI 0) hx hb dL_isRooted_57 (by decide +kernel) ?_
          refine zcallV (As := [.int (nI 0)]) (rest := []) (q := 24) (k := 1) hx hb hml hown hts (kX2_greatest l D cL cI cR A F hF T8 top8 Z8.1 Z8.2.1 Z8.2.2.1 Z8.2.2.2.1 Z8.2.2.2.2.1 Z8.2.2.2.2.2 P6 dg6 hT8 (zh24 hI6) 0 (by decide)) gL_isRooted_X2_greatest rfl (by decide +kernel) ⟨Nat.le_of_ble_eq_true rfl, Nat.le_of_ble_eq_true rfl⟩ rfl (by decide) (zC_o) rfl rfl hAm hP hS rfl hl.1 rfl (Nat.le_of_ble_eq_true rfl) dL_isRooted_58 ⟨Nat.zero_le _, Nat.zero_le _⟩ (zkC (fun T9 top9 Z9 H locs hP hT9 hZ9 hS => ?_))
          refine W.eq (g2 := F0 m 61 ls [.long (zgr (P6 0) (dg6 0))]) rfl ?_
          refine W.eq (g2 := F0 m 61 ls [.long (1048576 - ri.toInt64)]) (by rw [hs6_0.1, hs6_0.2, zxr_gr hrb]) ?_
          refine lv_ldc2 hx hb hown (hts (.constantLong RL 28 (1048576)) (by decide +kernel)) dL_isRooted_61 ?_
          refine lv_iload_n hx hb dL_isRooted_64 rfl (lv_at hl 0 rfl) ?_
          refine lv_i2l (v := ri.toInt64) hx hb dL_isRooted_65 rfl ?_
          refine lv_lsub hx hb dL_isRooted_66 ?_
          refine zl_ne (tgt := 75) hx hb dL_isRooted_67 dL_isRooted_68 (by decide) (fun c5 => ?_) (fun c5 => ?_)
          ·
            exact absurd rfl c5
          ·
            refine lv_iconst (v := nI 1) hx hb dL_isRooted_71 (by decide +kernel) ?_
            refine lv_goto (tgt := 76) hx hb dL_isRooted_72 (by decide) ?_
            refine lv_istore_n (lv' := [(3, .int (nI 1)), (2, .int ri), (0, .ref (F 24)), (1, .int (nI cv))]) hx hb dL_isRooted_76 rfl hl (by decide) rfl (fun ls hl => ?_)
            refine lv_aload_n hx hb dL_isRooted_77 rfl (lv_at hl 2 rfl) ?_
            refine lv_iconst (v := nI 0) hx hb dL_isRooted_78 (by decide +kernel) ?_
            refine lv_iconst (v := (-1 : Int32)) hx hb dL_isRooted_79 (by decide +kernel) ?_
            refine zcallV (As := [.int (nI 0), .int (-1 : Int32)]) (rest := []) (q := 24) (k := 2) hx hb hml hown hts (kX2_root l D cL cI cR A F hF T9 top9 Z9.1 Z9.2.1 Z9.2.2.1 Z9.2.2.2.1 Z9.2.2.2.2.1 Z9.2.2.2.2.2 P6 dg6 hT9 (zh24 hI6) 0 (by decide) (-1 : Int32) (by decide)) gL_isRooted_X2_root rfl (by decide +kernel) ⟨Nat.le_of_ble_eq_true rfl, Nat.le_of_ble_eq_true rfl⟩ rfl (by decide) (zC_o) rfl rfl hAm hP hS rfl hl.1 rfl (Nat.le_of_ble_eq_true rfl) dL_isRooted_80 ⟨Nat.zero_le _, Nat.zero_le _⟩ (zkC (fun T10 top10 Z10 H locs hP hT10 hZ10 hS => ?_))
            refine W.eq (g2 := F0 m 83 ls [.long (zrootr (zroots (P6 0) (dg6 0)).1 (-1 : Int32))]) rfl ?_
            refine W.eq (g2 := F0 m 83 ls [.long (lN ln)]) (by rw [hs6_0.1, hs6_0.2, zrootr_m, ← hln]) ?_
            refine lv_lstore (lv' := [(4, .long (lN ln)), (3, .int (nI 1)), (2, .int ri), (0, .ref (F 24)), (1, .int (nI cv))]) hx hb dL_isRooted_83 hl (by decide) rfl (fun ls hl => ?_)
            refine lv_iconst (v := nI 0) hx hb dL_isRooted_85 (by decide +kernel) ?_
            refine lv_istore (lv' := [(6, .int (nI 0)), (4, .long (lN ln)), (3, .int (nI 1)), (2, .int ri), (0, .ref (F 24)), (1, .int (nI cv))]) hx hb dL_isRooted_86 hl (by decide) rfl (fun ls hl => ?_)
            refine lv_iconst (v := nI 0) hx hb dL_isRooted_88 (by decide +kernel) ?_
            refine lv_istore (lv' := [(7, .int (nI 0)), (6, .int (nI 0)), (4, .long (lN ln)), (3, .int (nI 1)), (2, .int ri), (0, .ref (F 24)), (1, .int (nI cv))]) hx hb dL_isRooted_89 hl (by decide) rfl (fun ls hl => ?_)
            have L91 : ∀ (n : Nat) (T7 : Nat → Nat → Int64) (top7 : Nat → Nat) (Z7 : zZC) (kv nf : Nat) (hTP7 : ∀ i, i < 8 → T7 i = P6 i ∧ top7 i = dg6 i) (hkv : kv ≤ ln) (hnf1 : nf ≤ 1) (hnf2 : kv = 0 ∨ nf = 1) (hn : 25 - kv < n) (H : Heap) (locs : List Loc), va_P D vwCl (zq_wd F 30 (zCE cL cR F T7 top7 Z7)) H → va_S A s.heap H locs → ∀ (ls : Array Slot), lv_has ls 11 [(7, .int (nI kv)), (6, .int (nI nf)), (4, .long (lN ln)), (3, .int (nI 1)), (2, .int ri), (0, .ref (F 24)), (1, .int (nI cv))] → W p l e ({ frames := 6, cells := 0, slots := 0, locals := 166 }) s m ([.ref (F 24), .int (nI cv)] : List Value).toArray below meth c H locs 0 0 (zQ below D A F 30 [.ref (F 24), .int (nI cv)] s (zLo cL cR F (fun _ _ => True))) (F0 m 91 ls []) := by
              intro n
              induction n with
              | zero =>
                intro T7 top7 Z7 kv nf hTP7 hkv hnf1 hnf2 hn
                exact absurd hn (Nat.not_lt_zero _)
              | succ n ih91 =>
                intro T7 top7 Z7 kv nf hTP7 hkv hnf1 hnf2 hn H locs hP hS ls hl
                refine lv_iload hx hb dL_isRooted_91 (lv_at hl 0 rfl) ?_
                refine zi2l hx hb (by omega) dL_isRooted_93 ?_
                refine lv_lload hx hb dL_isRooted_94 (lv_at hl 2 rfl) ?_
                refine zl_ge (tgt := 148) hx hb dL_isRooted_96 dL_isRooted_97 (by decide) (fun c6 => ?_) (fun c6 => ?_)
                ·
                  have hge : ln ≤ kv := (zlN_ge (by omega) (by omega)).mp c6
                  refine lv_iload_n hx hb dL_isRooted_148 rfl (lv_at hl 3 rfl) ?_
                  refine zf_eq (tgt := 196) hx hb dL_isRooted_149 (by decide) (by omega) (fun c7 => ?_) (fun c7 => ?_)
                  ·
                    exfalso; omega
                  ·
                    refine lv_iload hx hb dL_isRooted_152 (lv_at hl 1 rfl) ?_
                    refine zf_eq (tgt := 196) hx hb dL_isRooted_154 (by decide) (by omega) (fun c8 => ?_) (fun c8 => ?_)
                    ·
                      exfalso; omega
                    ·
                      refine lv_aload_n hx hb dL_isRooted_157 rfl (lv_at hl 5 rfl) ?_
                      refine lv_iconst (v := nI 0) hx hb dL_isRooted_158 (by decide +kernel) ?_
                      refine lv_iload_n hx hb dL_isRooted_159 rfl (lv_at hl 4 rfl) ?_
                      refine lv_iconst (v := nI 1) hx hb dL_isRooted_160 (by decide +kernel) ?_
                      refine zcallV (As := [.int (nI 0), .int ri, .int (nI 1)]) (rest := []) (q := 24) (k := 3) hx hb hml hown hts (kX2_divide l D cL cI cR A F hF T7 top7 Z7 P6 dg6 hTP7 (zh24 hI6) 0 (by decide) 1 (by decide) ri (by unfold zin; omega)) gL_isRooted_X2_divide rfl (by decide +kernel) ⟨Nat.le_of_ble_eq_true rfl, Nat.le_of_ble_eq_true rfl⟩ rfl (by decide) (zC_o) rfl rfl hAm hP hS rfl hl.1 rfl (Nat.le_of_ble_eq_true rfl) dL_isRooted_161 ⟨Nat.zero_le _, Nat.zero_le _⟩ (zkC (fun T11 top11 Z11 H locs hP hT11 hZ11 hS => ?_))
                      refine W.eq (g2 := F0 m 164 ls [.long (if zkr (zquo (P6 0) (dg6 0) ri.toInt64) < 0 then zkr (zquo (P6 0) (dg6 0) ri.toInt64) else (zval (P6 0) (dg6 0) ri.toInt64))]) rfl ?_
                      refine W.eq (g2 := F0 m 164 ls [.long (zval (zxr ri.toInt64) 1 ri.toInt64)]) (by rw [zqr_ok hs6_0 (show zke (zquo (zxr ri.toInt64) 1 ri.toInt64) = 0 from by rw [zxr_quo]; exact zke_ztb (by decide)) (show ztop (zquo (zxr ri.toInt64) 1 ri.toInt64) 48 = 0 from by rw [zxr_quo]; exact zbas_top (by decide)) (by decide)]) ?_
                      obtain ⟨P11, dg11, hTP11, hI11, hs11_1, hk11⟩ := zo_quo hI6 (by decide) hr1 hs6_0 (show zke (zquo (zxr ri.toInt64) 1 ri.toInt64) = 0 from by rw [zxr_quo]; exact zke_ztb (by decide)) (show ztop (zquo (zxr ri.toInt64) 1 ri.toInt64) 48 = 0 from by rw [zxr_quo]; exact zbas_top (by decide)) hT11
                      have hs11_0 := hk11 0 _ _ (by decide) hs6_0
                      rw [zxr_quo] at hs11_1
                      have hs11_1 : P11 1 = (ztb 0) ∧ dg11 1 = 0 := hs11_1
                      refine lv_lconst (v := (0 : Int64)) hx hb dL_isRooted_164 (by decide +kernel) ?_
                      refine zl_ne (tgt := 196) hx hb dL_isRooted_165 dL_isRooted_166 (by decide) (fun c9 => ?_) (fun c9 => ?_)
                      ·
                        exact absurd (zxr_v0 hrb) c9
                      ·
                        refine lv_aload_n hx hb dL_isRooted_169 rfl (lv_at hl 5 rfl) ?_
                        refine lv_iconst (v := nI 1) hx hb dL_isRooted_170 (by decide +kernel) ?_
                        refine zcallV (As := [.int (nI 1)]) (rest := []) (q := 24) (k := 1) hx hb hml hown hts (kX2_degree l D cL cI cR A F hF T11 top11 Z11 P11 dg11 hTP11 (zh24 hI11) 1 (by decide)) gL_isRooted_X2_degree rfl (by decide +kernel) ⟨Nat.le_of_ble_eq_true rfl, Nat.le_of_ble_eq_true rfl⟩ rfl (by decide) (zC_o) rfl rfl hAm hP hS rfl hl.1 rfl (Nat.le_of_ble_eq_true rfl) dL_isRooted_171 ⟨Nat.zero_le _, Nat.zero_le _⟩ (zkC (fun T12 top12 Z12 H locs hP hT12 hZ12 hS => ?_))
                        refine W.eq (g2 := F0 m 174 ls [.long (lN (dg11 1))]) rfl ?_
                        refine W.eq (g2 := F0 m 174 ls [.long (lN 0)]) (by rw [hs11_1.2]) ?_
                        refine lv_lconst (v := (0 : Int64)) hx hb dL_isRooted_174 (by decide +kernel) ?_
                        refine zl_ne (tgt := 196) hx hb dL_isRooted_175 dL_isRooted_176 (by decide) (fun c10 => ?_) (fun c10 => ?_)
                        ·
                          exact absurd rfl c10
                        ·
                          refine lv_aload_n hx hb dL_isRooted_179 rfl (lv_at hl 5 rfl) ?_
                          refine lv_iconst (v := nI 1) hx hb dL_isRooted_180 (by decide +kernel) ?_
                          refine lv_iconst (v := nI 0) hx hb dL_isRooted_181 (by decide +kernel) ?_
                          refine zcallV (As := [.int (nI 1), .int (nI 0)]) (rest := []) (q := 24) (k := 2) hx hb hml hown hts (kX2_coefficient l D cL cI cR A F hF T12 top12 Z12 P11 dg11 hT12 (zh24 hI11) 1 (by decide) 0 (by omega)) gL_isRooted_X2_coefficient rfl (by decide +kernel) ⟨Nat.le_of_ble_eq_true rfl, Nat.le_of_ble_eq_true rfl⟩ rfl (by decide) (zC_o) rfl rfl hAm hP hS rfl hl.1 rfl (Nat.le_of_ble_eq_true rfl) dL_isRooted_182 ⟨Nat.zero_le _, Nat.zero_le _⟩ (zkC (fun T13 top13 Z13 H locs hP hT13 hZ13 hS => ?_))
                          refine W.eq (g2 := F0 m 185 ls [.long (P11 1 0)]) rfl ?_
                          refine W.eq (g2 := F0 m 185 ls [.long (1048576 : Int64)]) (by rw [hs11_1.1, ztb_at]) ?_
                          refine lv_ldc2 hx hb hown (hts (.constantLong RL 28 (1048576)) (by decide +kernel)) dL_isRooted_185 ?_
                          refine zl_ne (tgt := 196) hx hb dL_isRooted_188 dL_isRooted_189 (by decide) (fun c11 => ?_) (fun c11 => ?_)
                          ·
                            exact absurd rfl c11
                          ·
                            refine lv_iconst (v := nI 1) hx hb dL_isRooted_192 (by decide +kernel) ?_
                            refine lv_goto (tgt := 197) hx hb dL_isRooted_193 (by decide) ?_
                            refine lv_istore_n (lv' := [(3, .int (nI 1)), (7, .int (nI kv)), (6, .int (nI nf)), (4, .long (lN ln)), (2, .int ri), (0, .ref (F 24)), (1, .int (nI cv))]) hx hb dL_isRooted_197 rfl hl (by decide) rfl (fun ls hl => ?_)
                            refine lv_iload_n hx hb dL_isRooted_198 rfl (lv_at hl 0 rfl) ?_
                            refine zf_eq (tgt := 248) hx hb dL_isRooted_199 (by decide) (by omega) (fun c12 => ?_) (fun c12 => ?_)
                            ·
                              exfalso; omega
                            ·
                              refine lv_aload_n hx hb dL_isRooted_202 rfl (lv_at hl 5 rfl) ?_
                              refine lv_iconst (v := nI 0) hx hb dL_isRooted_203 (by decide +kernel) ?_
                              refine lv_iconst (v := nI 2) hx hb dL_isRooted_204 (by decide +kernel) ?_
                              refine zcallV (As := [.int (nI 0), .int (nI 2)]) (rest := []) (q := 24) (k := 2) hx hb hml hown hts (kX2_basis l D cL cI cR A F hF T13 top13 Z13 P11 dg11 hT13 (zh24 hI11) 2 (by decide) 0 (by omega)) gL_isRooted_X2_basis rfl (by decide +kernel) ⟨Nat.le_of_ble_eq_true rfl, Nat.le_of_ble_eq_true rfl⟩ rfl (by decide) (zC_o) rfl rfl hAm hP hS rfl hl.1 rfl (Nat.le_of_ble_eq_true rfl) dL_isRooted_205 ⟨Nat.zero_le _, Nat.zero_le _⟩ (zkC (fun T14 top14 Z14 H locs hP hT14 hZ14 hS => ?_))
                              refine W.eq (g2 := F0 m 208 ls [.long (lN 0)]) rfl ?_
                              obtain ⟨P14, dg14, hTP14, hI14, hs14_2, hk14⟩ := zo_basis hI11 (by omega) hT14
                              have hs14_0 := hk14 0 _ _ (by decide) hs11_0
                              have hs14_1 := hk14 1 _ _ (by decide) hs11_1
                              refine lv_lconst (v := (0 : Int64)) hx hb dL_isRooted_208 (by decide +kernel) ?_
                              refine zl_ne (tgt := 248) hx hb dL_isRooted_209 dL_isRooted_210 (by decide) (fun c13 => ?_) (fun c13 => ?_)
                              ·
                                exact absurd rfl c13
                              ·
                                refine lv_aload_n hx hb dL_isRooted_213 rfl (lv_at hl 5 rfl) ?_
                                refine lv_iconst (v := nI 2) hx hb dL_isRooted_214 (by decide +kernel) ?_
                                refine lv_iconst (v := nI 1) hx hb dL_isRooted_215 (by decide +kernel) ?_
                                refine lv_iconst (v := nI 1) hx hb dL_isRooted_216 (by decide +kernel) ?_
                                refine lv_iload_n hx hb dL_isRooted_217 rfl (lv_at hl 6 rfl) ?_
                                refine lv_ldc hx hb hown (hts (.constant RL 121 (500000)) (by decide +kernel)) dL_isRooted_218 ?_
                                refine W.eq (g2 := F0 m 220 ls [.int (nI 500000), .int (nI cv), .int (nI 1), .int (nI 1), .int (nI 2), .ref (F 24)]) rfl ?_
                                refine lv_irem hx hb dL_isRooted_220 (znI_ne (by omega) (by omega)) ?_
                                refine W.eq (g2 := F0 m 221 ls [.int (nI (cv % 500000)), .int (nI 1), .int (nI 1), .int (nI 2), .ref (F 24)]) (by rw [zrem_n (by omega) (by omega) (by omega)]) ?_
                                refine ziadd (d := ((cv % 500000) + 1)) hx hb (by omega) dL_isRooted_221 ?_
                                refine W.eq (g2 := F0 m 222 ls [.int (nI qv), .int (nI 1), .int (nI 2), .ref (F 24)]) (by rw [← hqv]) ?_
                                refine zcallV (As := [.int (nI 2), .int (nI 1), .int (nI qv)]) (rest := []) (q := 24) (k := 3) hx hb hml hown hts (kX2_setCoefficient l D cL cI cR A F hF T14 top14 Z14 P14 dg14 hTP14 (zh24 hI14) 2 (by decide) 1 (by omega) (nI qv) (by unfold zin; rw [nI_toInt (by omega)]; omega)) gL_isRooted_X2_setCoefficient rfl (by decide +kernel) ⟨Nat.le_of_ble_eq_true rfl, Nat.le_of_ble_eq_true rfl⟩ rfl (by decide) (zC_o) rfl rfl hAm hP hS rfl hl.1 rfl (Nat.le_of_ble_eq_true rfl) dL_isRooted_222 ⟨Nat.zero_le _, Nat.zero_le _⟩ (zkC (fun T15 top15 Z15 H locs hP hT15 hZ15 hS => ?_))
                                refine W.eq (g2 := F0 m 225 ls [.long (lN (ztop (vp_updL (P14 2) 1 (nI qv).toInt64) 48))]) rfl ?_
                                refine W.eq (g2 := F0 m 225 ls [.long (lN 1)]) (by rw [hs14_2.1, (zqx_top (znz2 (by omega) (by omega)))]) ?_
                                obtain ⟨P15, dg15, hTP15, hI15, hs15_2, hk15⟩ := zo_set hI14 (by decide) (by omega) (zb_nI (by omega) (by omega)) hs14_2 (zqx_top (znz2 (by omega) (by omega))) hT15
                                have hs15_0 := hk15 0 _ _ (by decide) hs14_0
                                have hs15_1 := hk15 1 _ _ (by decide) hs14_1
                                have hs15_2 : P15 2 = (zqx (nI qv).toInt64) ∧ dg15 2 = 1 := hs15_2
                                refine lv_lconst (v := (1 : Int64)) hx hb dL_isRooted_225 (by decide +kernel) ?_
                                refine zl_ne (tgt := 248) hx hb dL_isRooted_226 dL_isRooted_227 (by decide) (fun c14 => ?_) (fun c14 => ?_)
                                ·
                                  exact absurd rfl c14
                                ·
                                  refine lv_aload_n hx hb dL_isRooted_230 rfl (lv_at hl 5 rfl) ?_
                                  refine lv_iconst (v := nI 0) hx hb dL_isRooted_231 (by decide +kernel) ?_
                                  refine lv_iconst (v := nI 2) hx hb dL_isRooted_232 (by decide +kernel) ?_
                                  refine lv_iconst (v := nI 3) hx hb dL_isRooted_233 (by decide +kernel) ?_
                                  refine zcallV (As := [.int (nI 0), .int (nI 2), .int (nI 3)]) (rest := []) (q := 24) (k := 3) hx hb hml hown hts (kX2_multiply l D cL cI cR A F hF T15 top15 Z15 P15 dg15 hTP15 (zh24 hI15) 0 (by decide) 2 (by decide) 3 (by decide)) gL_isRooted_X2_multiply rfl (by decide +kernel) ⟨Nat.le_of_ble_eq_true rfl, Nat.le_of_ble_eq_true rfl⟩ rfl (by decide) (zC_o) rfl rfl hAm hP hS rfl hl.1 rfl (Nat.le_of_ble_eq_true rfl) dL_isRooted_234 ⟨Nat.zero_le _, Nat.zero_le _⟩ (zkC (fun T16 top16 Z16 H locs hP hT16 hZ16 hS => ?_))
                                  refine W.eq (g2 := F0 m 237 ls [.long (zkr (zprod (P15 0) (dg15 0) (P15 2) (dg15 2)))]) rfl ?_
                                  refine W.eq (g2 := F0 m 237 ls [.long (lN 2)]) (by rw [hs15_0.1, hs15_0.2, hs15_2.1, hs15_2.2, zkr_ok (zke_good (zp_good hrb hq1 hq2) (by rw [zp_top hrb hq1 hq2]; decide)) (zp_top hrb hq1 hq2)]) ?_
                                  obtain ⟨P16, dg16, hTP16, hI16, hs16_3, hk16⟩ := zo_mul hI15 (by decide) (by decide) hs15_0 hs15_2 (zke_good (zp_good hrb hq1 hq2) (by rw [zp_top hrb hq1 hq2]; decide)) (zp_top hrb hq1 hq2) hT16
                                  have hs16_0 := hk16 0 _ _ (by decide) hs15_0
                                  have hs16_1 := hk16 1 _ _ (by decide) hs15_1
                                  have hs16_2 := hk16 2 _ _ (by decide) hs15_2
                                  refine lv_ldc2 hx hb hown (hts (.constantLong RL 95 (2)) (by decide +kernel)) dL_isRooted_237 ?_
                                  refine zl_ne (tgt := 248) hx hb dL_isRooted_240 dL_isRooted_241 (by decide) (fun c15 => ?_) (fun c15 => ?_)
                                  ·
                                    exact absurd rfl c15
                                  ·
                                    refine lv_iconst (v := nI 1) hx hb dL_isRooted_244 (by decide +kernel) ?_
                                    refine lv_goto (tgt := 249) hx hb dL_isRooted_245 (by decide) ?_
                                    refine lv_istore_n (lv' := [(3, .int (nI 1)), (7, .int (nI kv)), (6, .int (nI nf)), (4, .long (lN ln)), (2, .int ri), (0, .ref (F 24)), (1, .int (nI cv))]) hx hb dL_isRooted_249 rfl hl (by decide) rfl (fun ls hl => ?_)
                                    refine lv_aload_n hx hb dL_isRooted_250 rfl (lv_at hl 5 rfl) ?_
                                    refine lv_iconst (v := nI 3) hx hb dL_isRooted_251 (by decide +kernel) ?_
                                    refine lv_iload_n hx hb dL_isRooted_252 rfl (lv_at hl 4 rfl) ?_
                                    refine lv_iconst (v := nI 4) hx hb dL_isRooted_253 (by decide +kernel) ?_
                                    refine zcallV (As := [.int (nI 3), .int ri, .int (nI 4)]) (rest := []) (q := 24) (k := 3) hx hb hml hown hts (kX2_divide l D cL cI cR A F hF T16 top16 Z16 P16 dg16 hTP16 (zh24 hI16) 3 (by decide) 4 (by decide) ri (by unfold zin; omega)) gL_isRooted_X2_divide rfl (by decide +kernel) ⟨Nat.le_of_ble_eq_true rfl, Nat.le_of_ble_eq_true rfl⟩ rfl (by decide) (zC_o) rfl rfl hAm hP hS rfl hl.1 rfl (Nat.le_of_ble_eq_true rfl) dL_isRooted_254 ⟨Nat.zero_le _, Nat.zero_le _⟩ (zkC (fun T17 top17 Z17 H locs hP hT17 hZ17 hS => ?_))
                                    refine W.eq (g2 := F0 m 257 ls [.long (if zkr (zquo (P16 3) (dg16 3) ri.toInt64) < 0 then zkr (zquo (P16 3) (dg16 3) ri.toInt64) else (zval (P16 3) (dg16 3) ri.toInt64))]) rfl ?_
                                    refine W.eq (g2 := F0 m 257 ls [.long (zval (zprod (zxr ri.toInt64) 1 (zqx (nI qv).toInt64) 1) 2 ri.toInt64)]) (by rw [zqr_ok hs16_3 (zke_good (zp_q hrb hq1 hq2).1 (zp_q hrb hq1 hq2).2.1) rfl (zp_q hrb hq1 hq2).2.1]) ?_
                                    obtain ⟨P17, dg17, hTP17, hI17, hs17_4, hk17⟩ := zo_quo hI16 (by decide) hr1 hs16_3 (zke_good (zp_q hrb hq1 hq2).1 (zp_q hrb hq1 hq2).2.1) rfl hT17
                                    have hs17_0 := hk17 0 _ _ (by decide) hs16_0
                                    have hs17_1 := hk17 1 _ _ (by decide) hs16_1
                                    have hs17_2 := hk17 2 _ _ (by decide) hs16_2
                                    have hs17_3 := hk17 3 _ _ (by decide) hs16_3
                                    refine lv_lstore (lv' := [(7, .long (zval (zprod (zxr ri.toInt64) 1 (zqx (nI qv).toInt64) 1) 2 ri.toInt64)), (3, .int (nI 1)), (6, .int (nI nf)), (4, .long (lN ln)), (2, .int ri), (0, .ref (F 24)), (1, .int (nI cv))]) hx hb dL_isRooted_257 hl (by decide) rfl (fun ls hl => ?_)
                                    refine lv_aload_n hx hb dL_isRooted_259 rfl (lv_at hl 5 rfl) ?_
                                    refine lv_iconst (v := nI 4) hx hb dL_isRooted_260 (by decide +kernel) ?_
                                    refine lv_iconst (v := nI 1) hx hb dL_isRooted_261 (by decide +kernel) ?_
                                    refine zcallV (As := [.int (nI 4), .int (nI 1)]) (rest := []) (q := 24) (k := 2) hx hb hml hown hts (kX2_coefficient l D cL cI cR A F hF T17 top17 Z17 P17 dg17 hTP17 (zh24 hI17) 4 (by decide) 1 (by omega)) gL_isRooted_X2_coefficient rfl (by decide +kernel) ⟨Nat.le_of_ble_eq_true rfl, Nat.le_of_ble_eq_true rfl⟩ rfl (by decide) (zC_o) rfl rfl hAm hP hS rfl hl.1 rfl (Nat.le_of_ble_eq_true rfl) dL_isRooted_262 ⟨Nat.zero_le _, Nat.zero_le _⟩ (zkC (fun T18 top18 Z18 H locs hP hT18 hZ18 hS => ?_))
                                    refine W.eq (g2 := F0 m 265 ls [.long (P17 4 1)]) rfl ?_
                                    refine W.eq (g2 := F0 m 265 ls [.long ((zquo (zprod (zxr ri.toInt64) 1 (zqx (nI qv).toInt64) 1) 2 ri.toInt64) 1)]) (by rw [hs17_4.1]) ?_
                                    refine lv_aload_n hx hb dL_isRooted_265 rfl (lv_at hl 5 rfl) ?_
                                    refine lv_iconst (v := nI 2) hx hb dL_isRooted_266 (by decide +kernel) ?_
                                    refine lv_iconst (v := nI 1) hx hb dL_isRooted_267 (by decide +kernel) ?_
                                    refine zcallV (As := [.int (nI 2), .int (nI 1)]) (rest := [.long ((zquo (zprod (zxr ri.toInt64) 1 (zqx (nI qv).toInt64) 1) 2 ri.toInt64) 1)]) (q := 24) (k := 2) hx hb hml hown hts (kX2_coefficient l D cL cI cR A F hF T18 top18 Z18 P17 dg17 hT18 (zh24 hI17) 2 (by decide) 1 (by omega)) gL_isRooted_X2_coefficient rfl (by decide +kernel) ⟨Nat.le_of_ble_eq_true rfl, Nat.le_of_ble_eq_true rfl⟩ rfl (by decide) (zC_o) rfl rfl hAm hP hS rfl hl.1 rfl (Nat.le_of_ble_eq_true rfl) dL_isRooted_268 ⟨Nat.zero_le _, Nat.zero_le _⟩ (zkC (fun T19 top19 Z19 H locs hP hT19 hZ19 hS => ?_))
                                    refine W.eq (g2 := F0 m 271 ls [.long (P17 2 1), .long ((zquo (zprod (zxr ri.toInt64) 1 (zqx (nI qv).toInt64) 1) 2 ri.toInt64) 1)]) rfl ?_
                                    refine W.eq (g2 := F0 m 271 ls [.long ((nI qv).toInt64), .long ((zquo (zprod (zxr ri.toInt64) 1 (zqx (nI qv).toInt64) 1) 2 ri.toInt64) 1)]) (by rw [hs17_2.1, zqx_1]) ?_
                                    refine lv_lsub hx hb dL_isRooted_271 ?_
                                    refine lv_lstore (lv' := [(9, .long (((zquo (zprod (zxr ri.toInt64) 1 (zqx (nI qv).toInt64) 1) 2 ri.toInt64) 1) - ((nI qv).toInt64))), (7, .long (zval (zprod (zxr ri.toInt64) 1 (zqx (nI qv).toInt64) 1) 2 ri.toInt64)), (3, .int (nI 1)), (6, .int (nI nf)), (4, .long (lN ln)), (2, .int ri), (0, .ref (F 24)), (1, .int (nI cv))]) hx hb dL_isRooted_272 hl (by decide) rfl (fun ls hl => ?_)
                                    refine lv_iload_n hx hb dL_isRooted_274 rfl (lv_at hl 2 rfl) ?_
                                    refine zf_eq (tgt := 342) hx hb dL_isRooted_275 (by decide) (by omega) (fun c16 => ?_) (fun c16 => ?_)
                                    ·
                                      exfalso; omega
                                    ·
                                      refine lv_lload hx hb dL_isRooted_278 (lv_at hl 1 rfl) ?_
                                      refine lv_ldc2 hx hb hown (hts (.constantLong RL 122 (8)) (by decide +kernel)) dL_isRooted_280 ?_
                                      refine zl_gt (tgt := 342) hx hb dL_isRooted_283 dL_isRooted_284 (by decide) (fun c17 => ?_) (fun c17 => ?_)
                                      ·
                                        exact absurd c17 (zr8 (zp_rest hrb hq1 hq2)).1
                                      ·
                                        refine lv_lload hx hb dL_isRooted_287 (lv_at hl 1 rfl) ?_
                                        refine lv_ldc2 hx hb hown (hts (.constantLong RL 124 (-8)) (by decide +kernel)) dL_isRooted_289 ?_
                                        refine zl_lt (tgt := 342) hx hb dL_isRooted_292 dL_isRooted_293 (by decide) (fun c18 => ?_) (fun c18 => ?_)
                                        ·
                                          exact absurd c18 (zr8 (zp_rest hrb hq1 hq2)).2
                                        ·
                                          refine lv_lload hx hb dL_isRooted_296 (lv_at hl 0 rfl) ?_
                                          refine lv_ldc2 hx hb hown (hts (.constantLong RL 122 (8)) (by decide +kernel)) dL_isRooted_298 ?_
                                          refine zl_gt (tgt := 342) hx hb dL_isRooted_301 dL_isRooted_302 (by decide) (fun c19 => ?_) (fun c19 => ?_)
                                          ·
                                            exact absurd c19 (zoff8 (zp_q hrb hq1 hq2).2.2).1
                                          ·
                                            refine lv_lload hx hb dL_isRooted_305 (lv_at hl 0 rfl) ?_
                                            refine lv_ldc2 hx hb hown (hts (.constantLong RL 124 (-8)) (by decide +kernel)) dL_isRooted_307 ?_
                                            refine zl_lt (tgt := 342) hx hb dL_isRooted_310 dL_isRooted_311 (by decide) (fun c20 => ?_) (fun c20 => ?_)
                                            ·
                                              exact absurd c20 (zoff8 (zp_q hrb hq1 hq2).2.2).2
                                            ·
                                              refine lv_aload_n hx hb dL_isRooted_314 rfl (lv_at hl 6 rfl) ?_
                                              refine lv_iconst (v := nI 2) hx hb dL_isRooted_315 (by decide +kernel) ?_
                                              refine lv_iload_n hx hb dL_isRooted_316 rfl (lv_at hl 5 rfl) ?_
                                              refine lv_iconst (v := nI 2) hx hb dL_isRooted_317 (by decide +kernel) ?_
                                              refine zcallV (As := [.int (nI 2), .int ri, .int (nI 2)]) (rest := []) (q := 24) (k := 3) hx hb hml hown hts (kX2_divide l D cL cI cR A F hF T19 top19 Z19 P17 dg17 hT19 (zh24 hI17) 2 (by decide) 2 (by decide) ri (by unfold zin; omega)) gL_isRooted_X2_divide rfl (by decide +kernel) ⟨Nat.le_of_ble_eq_true rfl, Nat.le_of_ble_eq_true rfl⟩ rfl (by decide) (zC_o) rfl rfl hAm hP hS rfl hl.1 rfl (Nat.le_of_ble_eq_true rfl) dL_isRooted_318 ⟨Nat.zero_le _, Nat.zero_le _⟩ (zkC (fun T20 top20 Z20 H locs hP hT20 hZ20 hS => ?_))
                                              refine W.eq (g2 := F0 m 321 ls [.long (if zkr (zquo (P17 2) (dg17 2) ri.toInt64) < 0 then zkr (zquo (P17 2) (dg17 2) ri.toInt64) else (zval (P17 2) (dg17 2) ri.toInt64))]) rfl ?_
                                              refine W.eq (g2 := F0 m 321 ls [.long (zval (zqx (nI qv).toInt64) 1 ri.toInt64)]) (by rw [zqr_ok hs17_2 (show zke (zquo (zqx (nI qv).toInt64) 1 ri.toInt64) = 0 from by rw [zqx_quo]; exact zq1_ke hqb) (show ztop (zquo (zqx (nI qv).toInt64) 1 ri.toInt64) 48 = 0 from by rw [zqx_quo]; exact zq1_top _) (by decide)]) ?_
                                              obtain ⟨P20, dg20, hTP20, hI20, hs20_2, hk20⟩ := zo_quo hI17 (by decide) hr1 hs17_2 (show zke (zquo (zqx (nI qv).toInt64) 1 ri.toInt64) = 0 from by rw [zqx_quo]; exact zq1_ke hqb) (show ztop (zquo (zqx (nI qv).toInt64) 1 ri.toInt64) 48 = 0 from by rw [zqx_quo]; exact zq1_top _) hT20
                                              have hs20_0 := hk20 0 _ _ (by decide) hs17_0
                                              have hs20_1 := hk20 1 _ _ (by decide) hs17_1
                                              have hs20_3 := hk20 3 _ _ (by decide) hs17_3
                                              have hs20_4 := hk20 4 _ _ (by decide) hs17_4
                                              refine lv_ldc2 hx hb hown (hts (.constantLong RL 126 (-900000000)) (by decide +kernel)) dL_isRooted_321 ?_
                                              refine zl_lt (tgt := 342) hx hb dL_isRooted_324 dL_isRooted_325 (by decide) (fun c21 => ?_) (fun c21 => ?_)
                                              ·
                                                exact absurd c21 (zn9 (zqx_val hrb hqb))
                                              ·
                                                refine lv_aload_n hx hb dL_isRooted_328 rfl (lv_at hl 6 rfl) ?_
                                                refine lv_iconst (v := nI 2) hx hb dL_isRooted_329 (by decide +kernel) ?_
                                                refine zcallV (As := [.int (nI 2)]) (rest := []) (q := 24) (k := 1) hx hb hml hown hts (kX2_degree l D cL cI cR A F hF T20 top20 Z20 P20 dg20 hTP20 (zh24 hI20) 2 (by decide)) gL_isRooted_X2_degree rfl (by decide +kernel) ⟨Nat.le_of_ble_eq_true rfl, Nat.le_of_ble_eq_true rfl⟩ rfl (by decide) (zC_o) rfl rfl hAm hP hS rfl hl.1 rfl (Nat.le_of_ble_eq_true rfl) dL_isRooted_330 ⟨Nat.zero_le _, Nat.zero_le _⟩ (zkC (fun T21 top21 Z21 H locs hP hT21 hZ21 hS => ?_))
                                                refine W.eq (g2 := F0 m 333 ls [.long (lN (dg20 2))]) rfl ?_
                                                refine W.eq (g2 := F0 m 333 ls [.long (lN 0)]) (by rw [hs20_2.2]) ?_
                                                refine lv_lconst (v := (0 : Int64)) hx hb dL_isRooted_333 (by decide +kernel) ?_
                                                refine zl_ne (tgt := 342) hx hb dL_isRooted_334 dL_isRooted_335 (by decide) (fun c22 => ?_) (fun c22 => ?_)
                                                ·
                                                  exact absurd rfl c22
                                                ·
                                                  refine lv_iconst (v := nI 1) hx hb dL_isRooted_338 (by decide +kernel) ?_
                                                  refine lv_goto (tgt := 343) hx hb dL_isRooted_339 (by decide) ?_
                                                  exact zretZ hx hb hr hlk hS hP (by first | rfl | (rw [hv]; unfold zbN; split <;> rfl)) dL_isRooted_343 ⟨_, _, _, _, _, rfl, rfl, hT21, hI20, trivial⟩
                ·
                  have hkl : kv < ln := Nat.lt_of_not_le (fun h => c6 ((zlN_ge (by omega) (by omega)).mpr h))
                  refine lv_aload_n hx hb dL_isRooted_100 rfl (lv_at hl 5 rfl) ?_
                  refine lv_iconst (v := nI 0) hx hb dL_isRooted_101 (by decide +kernel) ?_
                  refine lv_iload hx hb dL_isRooted_102 (lv_at hl 0 rfl) ?_
                  refine zcallV (As := [.int (nI 0), .int (nI kv)]) (rest := []) (q := 24) (k := 2) hx hb hml hown hts (kX2_root l D cL cI cR A F hF T7 top7 Z7.1 Z7.2.1 Z7.2.2.1 Z7.2.2.2.1 Z7.2.2.2.2.1 Z7.2.2.2.2.2 P6 dg6 hTP7 (zh24 hI6) 0 (by decide) (nI kv) (by rw [nI_toInt (by omega)]; omega)) gL_isRooted_X2_root rfl (by decide +kernel) ⟨Nat.le_of_ble_eq_true rfl, Nat.le_of_ble_eq_true rfl⟩ rfl (by decide) (zC_o) rfl rfl hAm hP hS rfl hl.1 rfl (Nat.le_of_ble_eq_true rfl) dL_isRooted_104 ⟨Nat.zero_le _, Nat.zero_le _⟩ (zkC (fun T22 top22 Z22 H locs hP hT22 hZ22 hS => ?_))
                  refine W.eq (g2 := F0 m 107 ls [.long (zrootr (zroots (P6 0) (dg6 0)).1 (nI kv))]) rfl ?_
                  refine W.eq (g2 := F0 m 107 ls [.long (zgetr (zroots (zxr ri.toInt64) 1).1 kv)]) (by rw [hs6_0.1, hs6_0.2, zrootr_k (by rw [← hln]; exact hkl) (by rw [← hln]; exact hln2)]) ?_
                  refine lv_iload_n hx hb dL_isRooted_107 rfl (lv_at hl 4 rfl) ?_
                  refine lv_i2l (v := ri.toInt64) hx hb dL_isRooted_108 rfl ?_
                  refine lv_lsub hx hb dL_isRooted_109 ?_
                  refine lv_lstore (lv' := [(8, .long ((zgetr (zroots (zxr ri.toInt64) 1).1 kv) - ri.toInt64)), (7, .int (nI kv)), (6, .int (nI nf)), (4, .long (lN ln)), (3, .int (nI 1)), (2, .int ri), (0, .ref (F 24)), (1, .int (nI cv))]) hx hb dL_isRooted_110 hl (by decide) rfl (fun ls hl => ?_)
                  refine lv_iload hx hb dL_isRooted_112 (lv_at hl 2 rfl) ?_
                  refine zf_ne (tgt := 135) hx hb dL_isRooted_114 (by decide) (by omega) (fun c23 => ?_) (fun c23 => ?_)
                  ·
                    refine lv_iconst (v := nI 1) hx hb dL_isRooted_135 (by decide +kernel) ?_
                    refine lv_goto (tgt := 140) hx hb dL_isRooted_136 (by decide) ?_
                    refine lv_istore (lv' := [(6, .int (nI 1)), (8, .long ((zgetr (zroots (zxr ri.toInt64) 1).1 kv) - ri.toInt64)), (7, .int (nI kv)), (4, .long (lN ln)), (3, .int (nI 1)), (2, .int ri), (0, .ref (F 24)), (1, .int (nI cv))]) hx hb dL_isRooted_140 hl (by decide) rfl (fun ls hl => ?_)
                    refine lv_iinc (v := (nI (kv + 1))) (lv' := [(7, .int (nI (kv + 1))), (6, .int (nI 1)), (8, .long ((zgetr (zroots (zxr ri.toInt64) 1).1 kv) - ri.toInt64)), (4, .long (lN ln)), (3, .int (nI 1)), (2, .int ri), (0, .ref (F 24)), (1, .int (nI cv))]) hx hb dL_isRooted_142 hl (k := 2) rfl (zinc (by omega)) (by decide) rfl (fun ls hl => ?_)
                    refine lv_goto (tgt := 91) hx hb dL_isRooted_145 (by decide) ?_
                    exact ih91 T22 top22 Z22 (kv + 1) 1 hT22 (by omega) (by omega) (by omega) (by omega) H _ hP hS ls (lv_sub hl [0, 1, 3, 4, 5, 6, 7] rfl)
                  ·
                    refine lv_lload hx hb dL_isRooted_117 (lv_at hl 0 rfl) ?_
                    refine lv_ldc2 hx hb hown (hts (.constantLong RL 114 (40)) (by decide +kernel)) dL_isRooted_119 ?_
                    refine zl_gt (tgt := 139) hx hb dL_isRooted_122 dL_isRooted_123 (by decide) (fun c24 => ?_) (fun c24 => ?_)
                    ·
                      exact absurd c24 (zoff40 (zxr_near hrb (by rw [← hln]; exact hkl))).1
                    ·
                      refine lv_lload hx hb dL_isRooted_126 (lv_at hl 0 rfl) ?_
                      refine lv_ldc2 hx hb hown (hts (.constantLong RL 116 (-40)) (by decide +kernel)) dL_isRooted_128 ?_
                      refine zl_lt (tgt := 139) hx hb dL_isRooted_131 dL_isRooted_132 (by decide) (fun c25 => ?_) (fun c25 => ?_)
                      ·
                        exact absurd c25 (zoff40 (zxr_near hrb (by rw [← hln]; exact hkl))).2
                      ·
                        refine lv_iconst (v := nI 1) hx hb dL_isRooted_135 (by decide +kernel) ?_
                        refine lv_goto (tgt := 140) hx hb dL_isRooted_136 (by decide) ?_
                        refine lv_istore (lv' := [(6, .int (nI 1)), (8, .long ((zgetr (zroots (zxr ri.toInt64) 1).1 kv) - ri.toInt64)), (7, .int (nI kv)), (4, .long (lN ln)), (3, .int (nI 1)), (2, .int ri), (0, .ref (F 24)), (1, .int (nI cv))]) hx hb dL_isRooted_140 hl (by decide) rfl (fun ls hl => ?_)
                        refine lv_iinc (v := (nI (kv + 1))) (lv' := [(7, .int (nI (kv + 1))), (6, .int (nI 1)), (8, .long ((zgetr (zroots (zxr ri.toInt64) 1).1 kv) - ri.toInt64)), (4, .long (lN ln)), (3, .int (nI 1)), (2, .int ri), (0, .ref (F 24)), (1, .int (nI cv))]) hx hb dL_isRooted_142 hl (k := 2) rfl (zinc (by omega)) (by decide) rfl (fun ls hl => ?_)
                        refine lv_goto (tgt := 91) hx hb dL_isRooted_145 (by decide) ?_
                        exact ih91 T22 top22 Z22 (kv + 1) 1 hT22 (by omega) (by omega) (by omega) (by omega) H _ hP hS ls (lv_sub hl [0, 1, 3, 4, 5, 6, 7] rfl)
            exact L91 _ T10 top10 Z10 0 0 hT10 (by omega) (by omega) (by omega) (Nat.lt_succ_self _) H _ hP hS ls (lv_sub hl [0, 1, 2, 3, 4, 5, 6] rfl)
