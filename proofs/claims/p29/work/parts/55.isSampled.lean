/-! the law: a series through its own values -/
set_option maxHeartbeats 4000000 in
set_option maxRecDepth 100000 in
theorem kL_isSampled (l : Launch) (D : va_G) (cL cI cR : ClassId) (A : Nat → Prop) (F : Nat → Nat) (hF : zq_F A F 30) (T0 : Nat → Nat → Int64) (top0 : Nat → Nat) (Z0 : zZC) (P0 : Nat → Nat → Int64) (dg0 : Nat → Nat) (hTP0 : ∀ i, i < 8 → T0 i = P0 i ∧ top0 i = dg0 i) (hI0 : zInv P0 dg0) (pw : Nat) (hpw : pw ≤ 4) (cv : Nat) (hcv : cv < 2147483648) : zCt l yL_isSampled wsL_isSampled 5 118 D cL cI cR A F 30 (zCE cL cR F T0 top0 Z0) [.ref (F 24), .int (nI pw), .int (nI cv)] (zLo cL cR F (fun _ _ => True)) := by
  refine zStart (cc := cL_isSampled) (maxL := 9) (ret := (some .boolean)) (by decide +kernel) rfl (Nat.le_of_ble_eq_true rfl) ?_
  intro p e s m below meth c hx hb hr hml hlk hown hts hAm H hP hS ls hl
  have hown : s.vm.findClass RL = some m.cls := hown
  have hl : lv_has ls 9 [(0, .ref (F 24)), (1, .int (nI pw)), (2, .int (nI cv))] := hl
  have h2p := zp2 hpw
  obtain ⟨dv, hdv⟩ : ∃ dv, dv = cv % (2 ^ pw + 1) := ⟨_, rfl⟩
  have hdv9 : dv ≤ 2 ^ pw := by rw [hdv]; exact Nat.le_of_lt_succ (Nat.mod_lt _ (Nat.succ_pos _))
  refine lv_iconst (v := nI 1) hx hb dL_isSampled_0 (by decide +kernel) ?_
  refine lv_iload_n hx hb dL_isSampled_1 rfl (lv_at hl 1 rfl) ?_
  refine lv_ishl hx hb dL_isSampled_2 ?_
  refine W.eq (g2 := F0 m 3 ls [.int (nI (2 ^ pw))]) (by rw [zsh1 hpw]) ?_
  refine lv_istore_n (lv' := [(3, .int (nI (2 ^ pw))), (0, .ref (F 24)), (1, .int (nI pw)), (2, .int (nI cv))]) hx hb dL_isSampled_3 rfl hl (by decide) rfl (fun ls hl => ?_)
  refine lv_iload_n hx hb dL_isSampled_4 rfl (lv_at hl 3 rfl) ?_
  refine lv_iload_n hx hb dL_isSampled_5 rfl (lv_at hl 0 rfl) ?_
  refine lv_iconst (v := nI 1) hx hb dL_isSampled_6 (by decide +kernel) ?_
  refine ziadd (d := ((2 ^ pw) + 1)) hx hb (by omega) dL_isSampled_7 ?_
  refine lv_irem hx hb dL_isSampled_8 (znI_ne (by omega) (by omega)) ?_
  refine W.eq (g2 := F0 m 9 ls [.int (nI (cv % ((2 ^ pw) + 1)))]) (by rw [zrem_n (by omega) (by omega) (by omega)]) ?_
  refine W.eq (g2 := F0 m 9 ls [.int (nI dv)]) (by rw [← hdv]) ?_
  refine lv_istore (lv' := [(4, .int (nI dv)), (3, .int (nI (2 ^ pw))), (0, .ref (F 24)), (1, .int (nI pw)), (2, .int (nI cv))]) hx hb dL_isSampled_9 hl (by decide) rfl (fun ls hl => ?_)
  refine lv_aload_n hx hb dL_isSampled_11 rfl (lv_at hl 2 rfl) ?_
  refine lv_iconst (v := nI 0) hx hb dL_isSampled_12 (by decide +kernel) ?_
  refine lv_iload hx hb dL_isSampled_13 (lv_at hl 0 rfl) ?_
  refine lv_ldc hx hb hown (hts (.constant RL 82 (300000)) (by decide +kernel)) dL_isSampled_15 ?_
  refine W.eq (g2 := F0 m 17 ls [.int (nI 300000), .int (nI dv), .int (nI 0), .ref (F 24)]) rfl ?_
  refine lv_iload_n hx hb dL_isSampled_17 rfl (lv_at hl 4 rfl) ?_
  refine zcallS (As := [.ref (F 24), .int (nI 0), .int (nI dv), .int (nI 300000), .int (nI cv)]) (rest := []) (k := 5) hx hb hml hown hts (kL_draws l D cL cI cR A F hF T0 top0 Z0 P0 dg0 hTP0 hI0 0 (by decide) dv (by omega) 300000 (by decide) (by decide) cv (by omega)) gL_isSampled_L_draws rfl (by decide +kernel) ⟨Nat.le_of_ble_eq_true rfl, Nat.le_of_ble_eq_true rfl⟩ hAm hP hS rfl hl.1 rfl (Nat.le_of_ble_eq_true rfl) dL_isSampled_18 ⟨Nat.zero_le _, Nat.zero_le _⟩ (zkLo (fun T5 top5 Z5 P5 dg5 H locs hP hTP5 hI5 hR5 hS => ?_))
  refine W.eq (g2 := F0 m 21 ls [.int (nI 1)]) rfl ?_
  obtain ⟨f5, hs5_0, hfb5, hfz5, hfl5, hkp5⟩ := hR5
  refine zf_eq (tgt := 64) hx hb dL_isSampled_21 (by decide) (by omega) (fun c1 => ?_) (fun c1 => ?_)
  ·
    exfalso; omega
  ·
    refine lv_aload_n hx hb dL_isSampled_24 rfl (lv_at hl 2 rfl) ?_
    refine lv_iconst (v := nI 0) hx hb dL_isSampled_25 (by decide +kernel) ?_
    refine lv_iload_n hx hb dL_isSampled_26 rfl (lv_at hl 3 rfl) ?_
    refine zcallV (As := [.int (nI 0), .int (nI pw)]) (rest := []) (q := 24) (k := 2) hx hb hml hown hts (kX2_sample l D cL cI cR A F hF T5 top5 Z5.1 Z5.2.1 Z5.2.2.1 Z5.2.2.2.1 Z5.2.2.2.2.1 Z5.2.2.2.2.2 P5 dg5 hTP5 (zh24 hI5) 0 (by decide) pw (by omega)) gL_isSampled_X2_sample rfl (by decide +kernel) ⟨Nat.le_of_ble_eq_true rfl, Nat.le_of_ble_eq_true rfl⟩ rfl (by decide) (zC_o) rfl rfl hAm hP hS rfl hl.1 rfl (Nat.le_of_ble_eq_true rfl) dL_isSampled_27 ⟨Nat.zero_le _, Nat.zero_le _⟩ (zkC (fun T6 top6 Z6 H locs hP hT6 hZ6 hS => ?_))
    refine W.eq (g2 := F0 m 30 ls [.long (if zsok (P5 0) (dg5 0) pw (2 ^ pw + 1) = true then lN (2 ^ pw + 1) else -9000000000000000003)]) rfl ?_
    refine W.eq (g2 := F0 m 30 ls [.long (lN (2 ^ pw + 1))]) (by rw [hs5_0.1, hs5_0.2, if_pos (zsok_ok (zsv_ok hfb5 (by omega) hfz5) _)]) ?_
    have hpv6 : ∀ j, j < 2 ^ pw + 1 → Z6.1 j = zsv f5 dv pw j := fun j hj => by
      rw [hZ6 j (by omega), hs5_0.1, hs5_0.2, if_pos (zsok_ok (zsv_ok hfb5 (by omega) hfz5) _)]
      unfold zspv
      rw [if_pos (by omega)]
    refine lv_iload_n hx hb dL_isSampled_30 rfl (lv_at hl 1 rfl) ?_
    refine lv_iconst (v := nI 1) hx hb dL_isSampled_31 (by decide +kernel) ?_
    refine ziadd (d := ((2 ^ pw) + 1)) hx hb (by omega) dL_isSampled_32 ?_
    refine zi2l hx hb (by omega) dL_isSampled_33 ?_
    refine zl_ne (tgt := 64) hx hb dL_isSampled_34 dL_isSampled_35 (by decide) (fun c2 => ?_) (fun c2 => ?_)
    ·
      exact absurd rfl c2
    ·
      refine lv_aload_n hx hb dL_isSampled_38 rfl (lv_at hl 2 rfl) ?_
      refine lv_iconst (v := nI 0) hx hb dL_isSampled_39 (by decide +kernel) ?_
      refine lv_iload_n hx hb dL_isSampled_40 rfl (lv_at hl 3 rfl) ?_
      refine zcallV (As := [.int (nI 0), .int (nI pw)]) (rest := []) (q := 24) (k := 2) hx hb hml hown hts (kX2_misfit l D cL cI cR A F hF T6 top6 Z6.1 Z6.2.1 Z6.2.2.1 Z6.2.2.2.1 Z6.2.2.2.2.1 Z6.2.2.2.2.2 P5 dg5 hT6 (zh24 hI5) 0 (by decide) pw (by omega)) gL_isSampled_X2_misfit rfl (by decide +kernel) ⟨Nat.le_of_ble_eq_true rfl, Nat.le_of_ble_eq_true rfl⟩ rfl (by decide) (zC_o) rfl rfl hAm hP hS rfl hl.1 rfl (Nat.le_of_ble_eq_true rfl) dL_isSampled_41 ⟨Nat.zero_le _, Nat.zero_le _⟩ (zkC (fun T7 top7 Z7 H locs hP hT7 hZ7 hS => ?_))
      refine W.eq (g2 := F0 m 44 ls [.long (zmis (P5 0) (dg5 0) pw Z6.1 (2 ^ pw + 1))]) rfl ?_
      refine W.eq (g2 := F0 m 44 ls [.long (0 : Int64)]) (by rw [hs5_0.1, hs5_0.2, zmis_0 (2 ^ pw + 1) hpv6]) ?_
      have hpv7 : ∀ j, j < 2 ^ pw + 1 → Z7.1 j = zsv f5 dv pw j := fun j hj => (hZ7 j (by omega)).trans (hpv6 j hj)
      refine lv_lconst (v := (0 : Int64)) hx hb dL_isSampled_44 (by decide +kernel) ?_
      refine zl_ne (tgt := 64) hx hb dL_isSampled_45 dL_isSampled_46 (by decide) (fun c3 => ?_) (fun c3 => ?_)
      ·
        exact absurd rfl c3
      ·
        refine lv_aload_n hx hb dL_isSampled_49 rfl (lv_at hl 2 rfl) ?_
        refine lv_iload_n hx hb dL_isSampled_50 rfl (lv_at hl 3 rfl) ?_
        refine lv_iconst (v := nI 1) hx hb dL_isSampled_51 (by decide +kernel) ?_
        refine zcallV (As := [.int (nI pw), .int (nI 1)]) (rest := []) (q := 24) (k := 2) hx hb hml hown hts (kX2_interpolate l D cL cI cR A F hF T7 top7 Z7.1 Z7.2.1 Z7.2.2.1 Z7.2.2.2.1 Z7.2.2.2.2.1 Z7.2.2.2.2.2 P5 dg5 hT7 (zh24 hI5) 1 (by decide) pw (by omega)) gL_isSampled_X2_interpolate rfl (by decide +kernel) ⟨Nat.le_of_ble_eq_true rfl, Nat.le_of_ble_eq_true rfl⟩ rfl (by decide) (zC_o) rfl rfl hAm hP hS rfl hl.1 rfl (Nat.le_of_ble_eq_true rfl) dL_isSampled_52 ⟨Nat.zero_le _, Nat.zero_le _⟩ (zkC (fun T8 top8 Z8 H locs hP hT8 hZ8 hS => ?_))
        refine W.eq (g2 := F0 m 55 ls [.long (zkr (zint Z7.1 pw))]) rfl ?_
        refine W.eq (g2 := F0 m 55 ls [.long (lN (ztop (zint Z7.1 pw) 48))]) (by rw [zkr_ok (zint_fin hfb5 hfz5 hpw hdv9 hpv7).1 rfl]) ?_
        obtain ⟨P8, dg8, hTP8, hI8, hs8_1, hk8⟩ := zo_int hI5 (by omega) (zint_fin hfb5 hfz5 hpw hdv9 hpv7).1 rfl hT8
        have hs8_0 := hk8 0 _ _ (by decide) hs5_0
        refine lv_lconst (v := (0 : Int64)) hx hb dL_isSampled_55 (by decide +kernel) ?_
        refine zl_lt (tgt := 64) hx hb dL_isSampled_56 dL_isSampled_57 (by decide) (fun c4 => ?_) (fun c4 => ?_)
        ·
          exact absurd c4 (zlN_t _ rfl)
        ·
          refine lv_iconst (v := nI 1) hx hb dL_isSampled_60 (by decide +kernel) ?_
          refine lv_goto (tgt := 65) hx hb dL_isSampled_61 (by decide) ?_
          refine lv_istore (lv' := [(5, .int (nI 1)), (4, .int (nI dv)), (3, .int (nI (2 ^ pw))), (0, .ref (F 24)), (1, .int (nI pw)), (2, .int (nI cv))]) hx hb dL_isSampled_65 hl (by decide) rfl (fun ls hl => ?_)
          refine lv_iconst (v := nI 0) hx hb dL_isSampled_67 (by decide +kernel) ?_
          refine lv_istore (lv' := [(6, .int (nI 0)), (5, .int (nI 1)), (4, .int (nI dv)), (3, .int (nI (2 ^ pw))), (0, .ref (F 24)), (1, .int (nI pw)), (2, .int (nI cv))]) hx hb dL_isSampled_68 hl (by decide) rfl (fun ls hl => ?_)
          have L70 : ∀ (n : Nat) (Tv7 : Nat → Nat → Int64) (topv7 : Nat → Nat) (Zv7 : zZC) (jv7 : Nat) (hTPv7 : ∀ i, i < 8 → Tv7 i = P8 i ∧ topv7 i = dg8 i) (hjv7 : jv7 ≤ 2 ^ pw + 1) (hn : 2 ^ pw + 1 - jv7 < n) (H : Heap) (locs : List Loc), va_P D vwCl (zq_wd F 30 (zCE cL cR F Tv7 topv7 Zv7)) H → va_S A s.heap H locs → ∀ (ls : Array Slot), lv_has ls 9 [(6, .int (nI jv7)), (5, .int (nI 1)), (4, .int (nI dv)), (3, .int (nI (2 ^ pw))), (0, .ref (F 24)), (1, .int (nI pw)), (2, .int (nI cv))] → W p l e ({ frames := 5, cells := 0, slots := 0, locals := 118 }) s m ([.ref (F 24), .int (nI pw), .int (nI cv)] : List Value).toArray below meth c H locs 0 0 (zQ below D A F 30 [.ref (F 24), .int (nI pw), .int (nI cv)] s (zLo cL cR F (fun _ _ => True))) (F0 m 70 ls []) := by
            intro n
            induction n with
            | zero =>
              intro Tv7 topv7 Zv7 jv7 hTPv7 hjv7 hn
              exact absurd hn (Nat.not_lt_zero _)
            | succ n ih70 =>
              intro Tv7 topv7 Zv7 jv7 hTPv7 hjv7 hn H locs hP hS ls hl
              refine lv_iload hx hb dL_isSampled_70 (lv_at hl 0 rfl) ?_
              refine lv_iload_n hx hb dL_isSampled_72 rfl (lv_at hl 3 rfl) ?_
              refine zi_gt (tgt := 129) hx hb dL_isSampled_73 (by decide) (by omega) (by omega) (fun c5 => ?_) (fun c5 => ?_)
              ·
                refine lv_iconst (v := nI 0) hx hb dL_isSampled_129 (by decide +kernel) ?_
                refine lv_istore (lv' := [(6, .int (nI 0)), (5, .int (nI 1)), (4, .int (nI dv)), (3, .int (nI (2 ^ pw))), (0, .ref (F 24)), (1, .int (nI pw)), (2, .int (nI cv))]) hx hb dL_isSampled_130 hl (by decide) rfl (fun ls hl => ?_)
                have L132 : ∀ (n : Nat) (Tv8 : Nat → Nat → Int64) (topv8 : Nat → Nat) (Zv8 : zZC) (jv8 : Nat) (hTPv8 : ∀ i, i < 8 → Tv8 i = P8 i ∧ topv8 i = dg8 i) (hjv8 : jv8 ≤ 2 ^ pw + 1) (hn : 2 ^ pw + 1 - jv8 < n) (H : Heap) (locs : List Loc), va_P D vwCl (zq_wd F 30 (zCE cL cR F Tv8 topv8 Zv8)) H → va_S A s.heap H locs → ∀ (ls : Array Slot), lv_has ls 9 [(6, .int (nI jv8)), (5, .int (nI 1)), (4, .int (nI dv)), (3, .int (nI (2 ^ pw))), (0, .ref (F 24)), (1, .int (nI pw)), (2, .int (nI cv))] → W p l e ({ frames := 5, cells := 0, slots := 0, locals := 118 }) s m ([.ref (F 24), .int (nI pw), .int (nI cv)] : List Value).toArray below meth c H locs 0 0 (zQ below D A F 30 [.ref (F 24), .int (nI pw), .int (nI cv)] s (zLo cL cR F (fun _ _ => True))) (F0 m 132 ls []) := by
                  intro n
                  induction n with
                  | zero =>
                    intro Tv8 topv8 Zv8 jv8 hTPv8 hjv8 hn
                    exact absurd hn (Nat.not_lt_zero _)
                  | succ n ih132 =>
                    intro Tv8 topv8 Zv8 jv8 hTPv8 hjv8 hn H locs hP hS ls hl
                    refine lv_iload hx hb dL_isSampled_132 (lv_at hl 0 rfl) ?_
                    refine lv_iload_n hx hb dL_isSampled_134 rfl (lv_at hl 3 rfl) ?_
                    refine zi_gt (tgt := 202) hx hb dL_isSampled_135 (by decide) (by omega) (by omega) (fun c6 => ?_) (fun c6 => ?_)
                    ·
                      refine lv_iload hx hb dL_isSampled_202 (lv_at hl 1 rfl) ?_
                      refine zf_eq (tgt := 237) hx hb dL_isSampled_204 (by decide) (by omega) (fun c7 => ?_) (fun c7 => ?_)
                      ·
                        exfalso; omega
                      ·
                        refine lv_aload_n hx hb dL_isSampled_207 rfl (lv_at hl 4 rfl) ?_
                        refine lv_iload_n hx hb dL_isSampled_208 rfl (lv_at hl 5 rfl) ?_
                        refine lv_iconst (v := nI 0) hx hb dL_isSampled_209 (by decide +kernel) ?_
                        refine zcallV (As := [.int (nI pw), .int (nI 0)]) (rest := []) (q := 24) (k := 2) hx hb hml hown hts (kX2_extremePoint l D cL cI cR A F hF Tv8 topv8 Zv8 P8 dg8 hTPv8 (zh24 hI8) pw (by omega) 0 (by omega)) gL_isSampled_X2_extremePoint rfl (by decide +kernel) ⟨Nat.le_of_ble_eq_true rfl, Nat.le_of_ble_eq_true rfl⟩ rfl (by decide) (zC_o) rfl rfl hAm hP hS rfl hl.1 rfl (Nat.le_of_ble_eq_true rfl) dL_isSampled_210 ⟨Nat.zero_le _, Nat.zero_le _⟩ (zkC (fun T9 top9 Z9 H locs hP hT9 hZ9 hS => ?_))
                        refine W.eq (g2 := F0 m 213 ls [.long ((zcosv (0 * 2 ^ (4 - pw))).toInt64)]) rfl ?_
                        refine lv_ldc2 hx hb hown (hts (.constantLong RL 28 (1048576)) (by decide +kernel)) dL_isSampled_213 ?_
                        refine zl_ne (tgt := 237) hx hb dL_isSampled_216 dL_isSampled_217 (by decide) (fun c8 => ?_) (fun c8 => ?_)
                        ·
                          exact absurd (zep_0 pw (by omega)) c8
                        ·
                          refine lv_aload_n hx hb dL_isSampled_220 rfl (lv_at hl 4 rfl) ?_
                          refine lv_iconst (v := nI 5) hx hb dL_isSampled_221 (by decide +kernel) ?_
                          refine lv_iconst (v := nI 0) hx hb dL_isSampled_222 (by decide +kernel) ?_
                          refine zcallV (As := [.int (nI 5), .int (nI 0)]) (rest := []) (q := 24) (k := 2) hx hb hml hown hts (kX2_extremePoint_bad1 l D cL cI cR A F hF T9 top9 Z9 P8 dg8 hT9 (nI 5) (nI 0) (by unfold zin; rw [nI_toInt (by omega)]; omega)) gL_isSampled_X2_extremePoint rfl (by decide +kernel) ⟨Nat.le_of_ble_eq_true rfl, Nat.le_of_ble_eq_true rfl⟩ rfl (by decide) (zC_o) rfl rfl hAm hP hS rfl hl.1 rfl (Nat.le_of_ble_eq_true rfl) dL_isSampled_223 ⟨Nat.zero_le _, Nat.zero_le _⟩ (zkC (fun T10 top10 Z10 H locs hP hT10 hZ10 hS => ?_))
                          refine W.eq (g2 := F0 m 226 ls [.long (-9000000000000000001 : Int64)]) rfl ?_
                          refine lv_ldc2 hx hb hown (hts (.constantLong RL 144 (-9000000000000000001)) (by decide +kernel)) dL_isSampled_226 ?_
                          refine zl_ne (tgt := 237) hx hb dL_isSampled_229 dL_isSampled_230 (by decide) (fun c9 => ?_) (fun c9 => ?_)
                          ·
                            exact absurd rfl c9
                          ·
                            refine lv_iconst (v := nI 1) hx hb dL_isSampled_233 (by decide +kernel) ?_
                            refine lv_goto (tgt := 238) hx hb dL_isSampled_234 (by decide) ?_
                            exact zretZ hx hb hr hlk hS hP (by first | rfl | (rw [hv]; unfold zbN; split <;> rfl)) dL_isSampled_238 ⟨_, _, _, _, _, rfl, rfl, hT10, hI8, trivial⟩
                    ·
                      refine lv_iload hx hb dL_isSampled_138 (lv_at hl 1 rfl) ?_
                      refine zf_eq (tgt := 202) hx hb dL_isSampled_140 (by decide) (by omega) (fun c10 => ?_) (fun c10 => ?_)
                      ·
                        exfalso; omega
                      ·
                        refine lv_aload_n hx hb dL_isSampled_143 rfl (lv_at hl 4 rfl) ?_
                        refine lv_iload_n hx hb dL_isSampled_144 rfl (lv_at hl 5 rfl) ?_
                        refine lv_iload hx hb dL_isSampled_145 (lv_at hl 0 rfl) ?_
                        refine zcallV (As := [.int (nI pw), .int (nI jv8)]) (rest := []) (q := 24) (k := 2) hx hb hml hown hts (kX2_extremePoint l D cL cI cR A F hF Tv8 topv8 Zv8 P8 dg8 hTPv8 (zh24 hI8) pw (by omega) jv8 (by omega)) gL_isSampled_X2_extremePoint rfl (by decide +kernel) ⟨Nat.le_of_ble_eq_true rfl, Nat.le_of_ble_eq_true rfl⟩ rfl (by decide) (zC_o) rfl rfl hAm hP hS rfl hl.1 rfl (Nat.le_of_ble_eq_true rfl) dL_isSampled_147 ⟨Nat.zero_le _, Nat.zero_le _⟩ (zkC (fun T11 top11 Z11 H locs hP hT11 hZ11 hS => ?_))
                        refine W.eq (g2 := F0 m 150 ls [.long ((zcosv (jv8 * 2 ^ (4 - pw))).toInt64)]) rfl ?_
                        refine lv_aload_n hx hb dL_isSampled_150 rfl (lv_at hl 4 rfl) ?_
                        refine lv_iload_n hx hb dL_isSampled_151 rfl (lv_at hl 5 rfl) ?_
                        refine lv_iload_n hx hb dL_isSampled_152 rfl (lv_at hl 3 rfl) ?_
                        refine lv_iload hx hb dL_isSampled_153 (lv_at hl 0 rfl) ?_
                        refine zisub (d := ((2 ^ pw) - jv8)) hx hb (by omega) dL_isSampled_155 ?_
                        refine zcallV (As := [.int (nI pw), .int (nI ((2 ^ pw) - jv8))]) (rest := [.long ((zcosv (jv8 * 2 ^ (4 - pw))).toInt64)]) (q := 24) (k := 2) hx hb hml hown hts (kX2_extremePoint l D cL cI cR A F hF T11 top11 Z11 P8 dg8 hT11 (zh24 hI8) pw (by omega) ((2 ^ pw) - jv8) (by omega)) gL_isSampled_X2_extremePoint rfl (by decide +kernel) ⟨Nat.le_of_ble_eq_true rfl, Nat.le_of_ble_eq_true rfl⟩ rfl (by decide) (zC_o) rfl rfl hAm hP hS rfl hl.1 rfl (Nat.le_of_ble_eq_true rfl) dL_isSampled_156 ⟨Nat.zero_le _, Nat.zero_le _⟩ (zkC (fun T12 top12 Z12 H locs hP hT12 hZ12 hS => ?_))
                        refine W.eq (g2 := F0 m 159 ls [.long ((zcosv (((2 ^ pw) - jv8) * 2 ^ (4 - pw))).toInt64), .long ((zcosv (jv8 * 2 ^ (4 - pw))).toInt64)]) rfl ?_
                        refine lv_lneg hx hb dL_isSampled_159 ?_
                        refine zl_ne (tgt := 193) hx hb dL_isSampled_160 dL_isSampled_161 (by decide) (fun c11 => ?_) (fun c11 => ?_)
                        ·
                          exact absurd (zep_neg pw (by omega) jv8 (by omega)) c11
                        ·
                          refine lv_iload hx hb dL_isSampled_164 (lv_at hl 0 rfl) ?_
                          refine zf_eq (tgt := 189) hx hb dL_isSampled_166 (by decide) (by omega) (fun c12 => ?_) (fun c12 => ?_)
                          ·
                            refine lv_iconst (v := nI 1) hx hb dL_isSampled_189 (by decide +kernel) ?_
                            refine lv_goto (tgt := 194) hx hb dL_isSampled_190 (by decide) ?_
                            refine lv_istore (lv' := [(5, .int (nI 1)), (6, .int (nI jv8)), (4, .int (nI dv)), (3, .int (nI (2 ^ pw))), (0, .ref (F 24)), (1, .int (nI pw)), (2, .int (nI cv))]) hx hb dL_isSampled_194 hl (by decide) rfl (fun ls hl => ?_)
                            refine lv_iinc (v := (nI (jv8 + 1))) (lv' := [(6, .int (nI (jv8 + 1))), (5, .int (nI 1)), (4, .int (nI dv)), (3, .int (nI (2 ^ pw))), (0, .ref (F 24)), (1, .int (nI pw)), (2, .int (nI cv))]) hx hb dL_isSampled_196 hl (k := 1) rfl (zinc (by omega)) (by decide) rfl (fun ls hl => ?_)
                            refine lv_goto (tgt := 132) hx hb dL_isSampled_199 (by decide) ?_
                            exact ih132 T12 top12 Z12 (jv8 + 1) hT12 (by omega) (by omega) H _ hP hS ls (lv_sub hl [0, 1, 2, 3, 4, 5, 6] rfl)
                          ·
                            refine lv_aload_n hx hb dL_isSampled_169 rfl (lv_at hl 4 rfl) ?_
                            refine lv_iload_n hx hb dL_isSampled_170 rfl (lv_at hl 5 rfl) ?_
                            refine lv_iload hx hb dL_isSampled_171 (lv_at hl 0 rfl) ?_
                            refine zcallV (As := [.int (nI pw), .int (nI jv8)]) (rest := []) (q := 24) (k := 2) hx hb hml hown hts (kX2_extremePoint l D cL cI cR A F hF T12 top12 Z12 P8 dg8 hT12 (zh24 hI8) pw (by omega) jv8 (by omega)) gL_isSampled_X2_extremePoint rfl (by decide +kernel) ⟨Nat.le_of_ble_eq_true rfl, Nat.le_of_ble_eq_true rfl⟩ rfl (by decide) (zC_o) rfl rfl hAm hP hS rfl hl.1 rfl (Nat.le_of_ble_eq_true rfl) dL_isSampled_173 ⟨Nat.zero_le _, Nat.zero_le _⟩ (zkC (fun T13 top13 Z13 H locs hP hT13 hZ13 hS => ?_))
                            refine W.eq (g2 := F0 m 176 ls [.long ((zcosv (jv8 * 2 ^ (4 - pw))).toInt64)]) rfl ?_
                            refine lv_aload_n hx hb dL_isSampled_176 rfl (lv_at hl 4 rfl) ?_
                            refine lv_iload_n hx hb dL_isSampled_177 rfl (lv_at hl 5 rfl) ?_
                            refine lv_iload hx hb dL_isSampled_178 (lv_at hl 0 rfl) ?_
                            refine lv_iconst (v := nI 1) hx hb dL_isSampled_180 (by decide +kernel) ?_
                            refine zisub (d := (jv8 - 1)) hx hb (by omega) dL_isSampled_181 ?_
                            refine zcallV (As := [.int (nI pw), .int (nI (jv8 - 1))]) (rest := [.long ((zcosv (jv8 * 2 ^ (4 - pw))).toInt64)]) (q := 24) (k := 2) hx hb hml hown hts (kX2_extremePoint l D cL cI cR A F hF T13 top13 Z13 P8 dg8 hT13 (zh24 hI8) pw (by omega) (jv8 - 1) (by omega)) gL_isSampled_X2_extremePoint rfl (by decide +kernel) ⟨Nat.le_of_ble_eq_true rfl, Nat.le_of_ble_eq_true rfl⟩ rfl (by decide) (zC_o) rfl rfl hAm hP hS rfl hl.1 rfl (Nat.le_of_ble_eq_true rfl) dL_isSampled_182 ⟨Nat.zero_le _, Nat.zero_le _⟩ (zkC (fun T14 top14 Z14 H locs hP hT14 hZ14 hS => ?_))
                            refine W.eq (g2 := F0 m 185 ls [.long ((zcosv ((jv8 - 1) * 2 ^ (4 - pw))).toInt64), .long ((zcosv (jv8 * 2 ^ (4 - pw))).toInt64)]) rfl ?_
                            refine zl_ge (tgt := 193) hx hb dL_isSampled_185 dL_isSampled_186 (by decide) (fun c13 => ?_) (fun c13 => ?_)
                            ·
                              exact absurd c13 (zn_ge (zep_lt2 (by omega) (by omega) (by omega)))
                            ·
                              refine lv_iconst (v := nI 1) hx hb dL_isSampled_189 (by decide +kernel) ?_
                              refine lv_goto (tgt := 194) hx hb dL_isSampled_190 (by decide) ?_
                              refine lv_istore (lv' := [(5, .int (nI 1)), (6, .int (nI jv8)), (4, .int (nI dv)), (3, .int (nI (2 ^ pw))), (0, .ref (F 24)), (1, .int (nI pw)), (2, .int (nI cv))]) hx hb dL_isSampled_194 hl (by decide) rfl (fun ls hl => ?_)
                              refine lv_iinc (v := (nI (jv8 + 1))) (lv' := [(6, .int (nI (jv8 + 1))), (5, .int (nI 1)), (4, .int (nI dv)), (3, .int (nI (2 ^ pw))), (0, .ref (F 24)), (1, .int (nI pw)), (2, .int (nI cv))]) hx hb dL_isSampled_196 hl (k := 1) rfl (zinc (by omega)) (by decide) rfl (fun ls hl => ?_)
                              refine lv_goto (tgt := 132) hx hb dL_isSampled_199 (by decide) ?_
                              exact ih132 T14 top14 Z14 (jv8 + 1) hT14 (by omega) (by omega) H _ hP hS ls (lv_sub hl [0, 1, 2, 3, 4, 5, 6] rfl)
                exact L132 _ Tv7 topv7 Zv7 0 hTPv7 (by omega) (Nat.lt_succ_self _) H _ hP hS ls (lv_sub hl [0, 1, 2, 3, 4, 5, 6] rfl)
              ·
                refine lv_iload hx hb dL_isSampled_76 (lv_at hl 1 rfl) ?_
                refine zf_eq (tgt := 129) hx hb dL_isSampled_78 (by decide) (by omega) (fun c14 => ?_) (fun c14 => ?_)
                ·
                  exfalso; omega
                ·
                  refine lv_aload_n hx hb dL_isSampled_81 rfl (lv_at hl 4 rfl) ?_
                  refine lv_iconst (v := nI 1) hx hb dL_isSampled_82 (by decide +kernel) ?_
                  refine lv_iload hx hb dL_isSampled_83 (lv_at hl 0 rfl) ?_
                  refine zcallV (As := [.int (nI 1), .int (nI jv7)]) (rest := []) (q := 24) (k := 2) hx hb hml hown hts (kX2_coefficient l D cL cI cR A F hF Tv7 topv7 Zv7 P8 dg8 hTPv7 (zh24 hI8) 1 (by decide) jv7 (by omega)) gL_isSampled_X2_coefficient rfl (by decide +kernel) ⟨Nat.le_of_ble_eq_true rfl, Nat.le_of_ble_eq_true rfl⟩ rfl (by decide) (zC_o) rfl rfl hAm hP hS rfl hl.1 rfl (Nat.le_of_ble_eq_true rfl) dL_isSampled_85 ⟨Nat.zero_le _, Nat.zero_le _⟩ (zkC (fun T15 top15 Z15 H locs hP hT15 hZ15 hS => ?_))
                  refine W.eq (g2 := F0 m 88 ls [.long (P8 1 jv7)]) rfl ?_
                  refine W.eq (g2 := F0 m 88 ls [.long ((zint Z7.1 pw) jv7)]) (by rw [hs8_1.1]) ?_
                  refine lv_aload_n hx hb dL_isSampled_88 rfl (lv_at hl 4 rfl) ?_
                  refine lv_iconst (v := nI 0) hx hb dL_isSampled_89 (by decide +kernel) ?_
                  refine lv_iload hx hb dL_isSampled_90 (lv_at hl 0 rfl) ?_
                  refine zcallV (As := [.int (nI 0), .int (nI jv7)]) (rest := [.long ((zint Z7.1 pw) jv7)]) (q := 24) (k := 2) hx hb hml hown hts (kX2_coefficient l D cL cI cR A F hF T15 top15 Z15 P8 dg8 hT15 (zh24 hI8) 0 (by decide) jv7 (by omega)) gL_isSampled_X2_coefficient rfl (by decide +kernel) ⟨Nat.le_of_ble_eq_true rfl, Nat.le_of_ble_eq_true rfl⟩ rfl (by decide) (zC_o) rfl rfl hAm hP hS rfl hl.1 rfl (Nat.le_of_ble_eq_true rfl) dL_isSampled_92 ⟨Nat.zero_le _, Nat.zero_le _⟩ (zkC (fun T16 top16 Z16 H locs hP hT16 hZ16 hS => ?_))
                  refine W.eq (g2 := F0 m 95 ls [.long (P8 0 jv7), .long ((zint Z7.1 pw) jv7)]) rfl ?_
                  refine W.eq (g2 := F0 m 95 ls [.long (f5 jv7), .long ((zint Z7.1 pw) jv7)]) (by rw [hs8_0.1]) ?_
                  refine lv_lsub hx hb dL_isSampled_95 ?_
                  refine lv_lstore (lv' := [(7, .long (((zint Z7.1 pw) jv7) - (f5 jv7))), (6, .int (nI jv7)), (5, .int (nI 1)), (4, .int (nI dv)), (3, .int (nI (2 ^ pw))), (0, .ref (F 24)), (1, .int (nI pw)), (2, .int (nI cv))]) hx hb dL_isSampled_96 hl (by decide) rfl (fun ls hl => ?_)
                  refine lv_lload hx hb dL_isSampled_98 (lv_at hl 0 rfl) ?_
                  refine lv_ldc2 hx hb hown (hts (.constantLong RL 137 (3000)) (by decide +kernel)) dL_isSampled_100 ?_
                  refine zl_gt (tgt := 120) hx hb dL_isSampled_103 dL_isSampled_104 (by decide) (fun c15 => ?_) (fun c15 => ?_)
                  ·
                    exact absurd c15 (zoff3 (zint_near hfb5 hfz5 hpw hdv9 hpv7 (k := jv7) (by omega))).1
                  ·
                    refine lv_lload hx hb dL_isSampled_107 (lv_at hl 0 rfl) ?_
                    refine lv_ldc2 hx hb hown (hts (.constantLong RL 139 (-3000)) (by decide +kernel)) dL_isSampled_109 ?_
                    refine zl_lt (tgt := 120) hx hb dL_isSampled_112 dL_isSampled_113 (by decide) (fun c16 => ?_) (fun c16 => ?_)
                    ·
                      exact absurd c16 (zoff3 (zint_near hfb5 hfz5 hpw hdv9 hpv7 (k := jv7) (by omega))).2
                    ·
                      refine lv_iconst (v := nI 1) hx hb dL_isSampled_116 (by decide +kernel) ?_
                      refine lv_goto (tgt := 121) hx hb dL_isSampled_117 (by decide) ?_
                      refine lv_istore (lv' := [(5, .int (nI 1)), (7, .long (((zint Z7.1 pw) jv7) - (f5 jv7))), (6, .int (nI jv7)), (4, .int (nI dv)), (3, .int (nI (2 ^ pw))), (0, .ref (F 24)), (1, .int (nI pw)), (2, .int (nI cv))]) hx hb dL_isSampled_121 hl (by decide) rfl (fun ls hl => ?_)
                      refine lv_iinc (v := (nI (jv7 + 1))) (lv' := [(6, .int (nI (jv7 + 1))), (5, .int (nI 1)), (7, .long (((zint Z7.1 pw) jv7) - (f5 jv7))), (4, .int (nI dv)), (3, .int (nI (2 ^ pw))), (0, .ref (F 24)), (1, .int (nI pw)), (2, .int (nI cv))]) hx hb dL_isSampled_123 hl (k := 2) rfl (zinc (by omega)) (by decide) rfl (fun ls hl => ?_)
                      refine lv_goto (tgt := 70) hx hb dL_isSampled_126 (by decide) ?_
                      exact ih70 T16 top16 Z16 (jv7 + 1) hT16 (by omega) (by omega) H _ hP hS ls (lv_sub hl [0, 1, 3, 4, 5, 6, 7] rfl)
          exact L70 _ T8 top8 Z8 0 hTP8 (by omega) (Nat.lt_succ_self _) H _ hP hS ls (lv_sub hl [0, 1, 2, 3, 4, 5, 6] rfl)
