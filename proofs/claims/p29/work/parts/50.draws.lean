/-! the law: a series by the script -/
theorem zd0_top (x : Int64) : ztop (vp_updL (ztb 0) 0 x) 48 = 0 := Nat.le_zero.mp (ztop_of 48 (fun j hj _ => by unfold vp_updL; rw [if_neg (by omega)]; exact ztb_ne (by omega)))
theorem zd0_b {x : Int64} {A : Nat} (hx : zb x A) (j : Nat) : zb (vp_updL (ztb 0) 0 x j) A := by
  unfold vp_updL
  split
  · exact hx
  · rename_i h
    rw [ztb_ne h]
    exact Nat.zero_le _
theorem zlN_nn {d : Nat} (h : d ≤ 2147483647) : ¬ lN d < 0 := by
  rw [show (0 : Int64) = lN 0 from rfl, lN_lt (by omega) (by omega)]
  omega
theorem zlN_t {d : Nat} (f : Nat → Int64) (h : d = ztop f 48) : ¬ lN d < 0 := zlN_nn (by have := ztop_le f 48; omega)
theorem znz {x : Nat} (h1 : 1 ≤ x) (h : x ≤ 400000) : ¬ (nI x).toInt64 = 0 := by
  intro h0
  have h2 := congrArg Int64.toInt h0
  rw [zi64, nI_toInt (by omega), show (0 : Int64).toInt = 0 from rfl] at h2
  omega
theorem zdeg {P : Nat → Nat → Int64} {n : Nat → Nat} {t d nv : Nat} {f : Nat → Int64} (hI : zInv P n) (ht : t ≤ 7) (hs : P t = f ∧ n t = d) (hz : ∀ j, nv + 1 ≤ j → f j = 0) (hl : nv = 0 ∨ ¬ f nv = 0) : d = nv := by
  obtain ⟨rfl, rfl⟩ := hs
  obtain ⟨h1, h2, h3, h4⟩ := hI t (by omega)
  have g1 : n t ≤ nv := by
    rcases Nat.lt_or_ge nv (n t) with g | g
    · rcases h4 with h4 | h4
      · omega
      · exact absurd (hz (n t) (by omega)) h4
    · exact g
  have g2 : nv ≤ n t := by
    rcases hl with hl | hl
    · omega
    · rcases Nat.lt_or_ge (n t) nv with g | g
      · exact absurd (h2 nv g) hl
      · exact g
  omega
theorem zb_nI {x A : Nat} (h : x ≤ A) (h2 : x < 2147483648) : zb (nI x).toInt64 A := zb_I (by rw [nI_toInt (by omega)]; omega)
theorem zb_nIs {a b A : Nat} (ha : a < 1073741824) (hb : b < 1073741824) (h1 : a ≤ b + A) (h2 : b ≤ a + A) : zb (nI a - nI b).toInt64 A := zb_I (by rw [zsub_i ha hb]; omega)
set_option maxHeartbeats 4000000 in
set_option maxRecDepth 100000 in
theorem kL_draws (l : Launch) (D : va_G) (cL cI cR : ClassId) (A : Nat → Prop) (F : Nat → Nat) (hF : zq_F A F 30) (T0 : Nat → Nat → Int64) (top0 : Nat → Nat) (Z0 : zZC) (P0 : Nat → Nat → Int64) (dg0 : Nat → Nat) (hTP0 : ∀ i, i < 8 → T0 i = P0 i ∧ top0 i = dg0 i) (hI0 : zInv P0 dg0) (t : Nat) (ht : t ≤ 1) (nv : Nat) (hnv : nv ≤ 24) (mm : Nat) (hm1 : 1 ≤ mm) (hm : mm ≤ 400000) (cv : Nat) (hc : cv < 2147483648) : zCt l yL_draws wsL_draws 3 67 D cL cI cR A F 30 (zCE cL cR F T0 top0 Z0) [.ref (F 24), .int (nI t), .int (nI nv), .int (nI mm), .int (nI cv)] (zLo cL cR F (fun P2 n2 => ∃ f : Nat → Int64, (P2 t = f ∧ n2 t = nv) ∧ (∀ j, zb (f j) mm) ∧ (∀ j, nv < j → f j = 0) ∧ (nv = 0 ∨ ¬ f nv = 0) ∧ ∀ (i : Nat) (g : Nat → Int64) (e : Nat), i ≠ t → P0 i = g ∧ dg0 i = e → P2 i = g ∧ n2 i = e)) := by
  refine zStart (cc := cL_draws) (maxL := 8) (ret := (some .boolean)) (by decide +kernel) rfl (Nat.le_of_ble_eq_true rfl) ?_
  intro p e s m below meth c hx hb hr hml hlk hown hts hAm H hP hS ls hl
  have hown : s.vm.findClass RL = some m.cls := hown
  have hl : lv_has ls 8 [(0, .ref (F 24)), (1, .int (nI t)), (2, .int (nI nv)), (3, .int (nI mm)), (4, .int (nI cv))] := hl
  obtain ⟨q0, hq0⟩ : ∃ q0, q0 = cv % (2 * mm + 1) := ⟨_, rfl⟩
  have hq1 : q0 < 2 * mm + 1 := by rw [hq0]; exact Nat.mod_lt _ (by omega)
  refine lv_aload_n hx hb dL_draws_0 rfl (lv_at hl 0 rfl) ?_
  refine lv_iconst (v := nI 0) hx hb dL_draws_1 (by decide +kernel) ?_
  refine lv_iload_n hx hb dL_draws_2 rfl (lv_at hl 1 rfl) ?_
  refine zcallV (As := [.int (nI 0), .int (nI t)]) (rest := []) (q := 24) (k := 2) hx hb hml hown hts (kX2_basis l D cL cI cR A F hF T0 top0 Z0 P0 dg0 hTP0 (zh24 hI0) t (by omega) 0 (by omega)) gL_draws_X2_basis rfl (by decide +kernel) ⟨Nat.le_of_ble_eq_true rfl, Nat.le_of_ble_eq_true rfl⟩ rfl (by decide) (zC_o) rfl rfl hAm hP hS rfl hl.1 rfl (Nat.le_of_ble_eq_true rfl) dL_draws_3 ⟨Nat.zero_le _, Nat.zero_le _⟩ (zkC (fun T1 top1 Z1 H locs hP hT1 hZ1 hS => ?_))
  refine W.eq (g2 := F0 m 6 ls [.long (lN 0)]) rfl ?_
  obtain ⟨P1, dg1, hTP1, hI1, hs1_t, hk1⟩ := zo_basis hI0 (by omega) hT1
  refine lv_lconst (v := (0 : Int64)) hx hb dL_draws_6 (by decide +kernel) ?_
  refine zl_ne (tgt := 36) hx hb dL_draws_7 dL_draws_8 (by decide) (fun c1 => ?_) (fun c1 => ?_)
  ·
    exact absurd rfl c1
  ·
    refine lv_aload_n hx hb dL_draws_11 rfl (lv_at hl 0 rfl) ?_
    refine lv_iload_n hx hb dL_draws_12 rfl (lv_at hl 1 rfl) ?_
    refine lv_iconst (v := nI 0) hx hb dL_draws_13 (by decide +kernel) ?_
    refine lv_iload hx hb dL_draws_14 (lv_at hl 4 rfl) ?_
    refine lv_iconst (v := nI 2) hx hb dL_draws_16 (by decide +kernel) ?_
    refine lv_iload_n hx hb dL_draws_17 rfl (lv_at hl 3 rfl) ?_
    refine zimul (d := (2 * mm)) hx hb (by omega) dL_draws_18 ?_
    refine lv_iconst (v := nI 1) hx hb dL_draws_19 (by decide +kernel) ?_
    refine ziadd (d := (2 * mm + 1)) hx hb (by omega) dL_draws_20 ?_
    refine lv_irem hx hb dL_draws_21 (znI_ne (by omega) (by omega)) ?_
    refine W.eq (g2 := F0 m 22 ls [.int (nI (cv % (2 * mm + 1))), .int (nI 0), .int (nI t), .ref (F 24)]) (by rw [zrem_n (by omega) (by omega) (by omega)]) ?_
    refine W.eq (g2 := F0 m 22 ls [.int (nI q0), .int (nI 0), .int (nI t), .ref (F 24)]) (by rw [← hq0]) ?_
    refine lv_iload_n hx hb dL_draws_22 rfl (lv_at hl 3 rfl) ?_
    refine lv_isub hx hb dL_draws_23 ?_
    refine zcallV (As := [.int (nI t), .int (nI 0), .int ((nI q0) - (nI mm))]) (rest := []) (q := 24) (k := 3) hx hb hml hown hts (kX2_setCoefficient l D cL cI cR A F hF T1 top1 Z1 P1 dg1 hTP1 (zh24 hI1) t (by omega) 0 (by omega) ((nI q0) - (nI mm)) (by unfold zin; rw [zsub_i (by omega) (by omega)]; omega)) gL_draws_X2_setCoefficient rfl (by decide +kernel) ⟨Nat.le_of_ble_eq_true rfl, Nat.le_of_ble_eq_true rfl⟩ rfl (by decide) (zC_o) rfl rfl hAm hP hS rfl hl.1 rfl (Nat.le_of_ble_eq_true rfl) dL_draws_24 ⟨Nat.zero_le _, Nat.zero_le _⟩ (zkC (fun T2 top2 Z2 H locs hP hT2 hZ2 hS => ?_))
    refine W.eq (g2 := F0 m 27 ls [.long (lN (ztop (vp_updL (P1 t) 0 ((nI q0) - (nI mm)).toInt64) 48))]) rfl ?_
    refine W.eq (g2 := F0 m 27 ls [.long (lN 0)]) (by rw [hs1_t.1, (zd0_top _)]) ?_
    obtain ⟨P2, dg2, hTP2, hI2, hs2_t, hk2⟩ := zo_set hI1 (by omega) (by omega) (zb_nIs (by omega) (by omega) (by omega) (by omega)) hs1_t (zd0_top _) hT2
    refine lv_lconst (v := (0 : Int64)) hx hb dL_draws_27 (by decide +kernel) ?_
    refine zl_ne (tgt := 36) hx hb dL_draws_28 dL_draws_29 (by decide) (fun c2 => ?_) (fun c2 => ?_)
    ·
      exact absurd rfl c2
    ·
      refine lv_iconst (v := nI 1) hx hb dL_draws_32 (by decide +kernel) ?_
      refine lv_goto (tgt := 37) hx hb dL_draws_33 (by decide) ?_
      refine lv_istore (lv' := [(5, .int (nI 1)), (0, .ref (F 24)), (1, .int (nI t)), (2, .int (nI nv)), (3, .int (nI mm)), (4, .int (nI cv))]) hx hb dL_draws_37 hl (by decide) rfl (fun ls hl => ?_)
      refine lv_iload hx hb dL_draws_39 (lv_at hl 5 rfl) ?_
      refine lv_istore (lv' := [(6, .int (nI cv)), (5, .int (nI 1)), (0, .ref (F 24)), (1, .int (nI t)), (2, .int (nI nv)), (3, .int (nI mm)), (4, .int (nI cv))]) hx hb dL_draws_41 hl (by decide) rfl (fun ls hl => ?_)
      refine lv_iconst (v := nI 1) hx hb dL_draws_43 (by decide +kernel) ?_
      refine lv_istore (lv' := [(7, .int (nI 1)), (6, .int (nI cv)), (5, .int (nI 1)), (0, .ref (F 24)), (1, .int (nI t)), (2, .int (nI nv)), (3, .int (nI mm)), (4, .int (nI cv))]) hx hb dL_draws_44 hl (by decide) rfl (fun ls hl => ?_)
      have L46 : ∀ (n : Nat) (T7 : Nat → Nat → Int64) (top7 : Nat → Nat) (Z7 : zZC) (P7 : Nat → Nat → Int64) (dg7 : Nat → Nat) (f7 : Nat → Int64) (d7 kv wv : Nat) (hTP7 : ∀ i, i < 8 → T7 i = P7 i ∧ top7 i = dg7 i) (hI7 : zInv P7 dg7) (hs7_t : P7 t = f7 ∧ dg7 t = d7) (hfb7 : ∀ j, zb (f7 j) mm) (hfz7 : ∀ j, kv ≤ j → f7 j = 0) (hlast7 : kv = nv + 1 → nv = 0 ∨ ¬ f7 nv = 0) (hkp7 : ∀ (i : Nat) (g : Nat → Int64) (e : Nat), i ≠ t → P0 i = g ∧ dg0 i = e → P7 i = g ∧ dg7 i = e) (hkv1 : 1 ≤ kv) (hkv2 : kv ≤ nv + 1) (hwv : wv < 2147483648) (hn : nv + 1 - kv < n) (H : Heap) (locs : List Loc), va_P D vwCl (zq_wd F 30 (zCE cL cR F T7 top7 Z7)) H → va_S A s.heap H locs → ∀ (ls : Array Slot), lv_has ls 8 [(7, .int (nI kv)), (6, .int (nI wv)), (5, .int (nI 1)), (0, .ref (F 24)), (1, .int (nI t)), (2, .int (nI nv)), (3, .int (nI mm)), (4, .int (nI cv))] → W p l e ({ frames := 3, cells := 0, slots := 0, locals := 67 }) s m ([.ref (F 24), .int (nI t), .int (nI nv), .int (nI mm), .int (nI cv)] : List Value).toArray below meth c H locs 0 0 (zQ below D A F 30 [.ref (F 24), .int (nI t), .int (nI nv), .int (nI mm), .int (nI cv)] s (zLo cL cR F (fun P2 n2 => ∃ f : Nat → Int64, (P2 t = f ∧ n2 t = nv) ∧ (∀ j, zb (f j) mm) ∧ (∀ j, nv < j → f j = 0) ∧ (nv = 0 ∨ ¬ f nv = 0) ∧ ∀ (i : Nat) (g : Nat → Int64) (e : Nat), i ≠ t → P0 i = g ∧ dg0 i = e → P2 i = g ∧ n2 i = e))) (F0 m 46 ls []) := by
        intro n
        induction n with
        | zero =>
          intro T7 top7 Z7 P7 dg7 f7 d7 kv wv hTP7 hI7 hs7_t hfb7 hfz7 hlast7 hkp7 hkv1 hkv2 hwv hn
          exact absurd hn (Nat.not_lt_zero _)
        | succ n ih46 =>
          intro T7 top7 Z7 P7 dg7 f7 d7 kv wv hTP7 hI7 hs7_t hfb7 hfz7 hlast7 hkp7 hkv1 hkv2 hwv hn H locs hP hS ls hl
          refine lv_iload hx hb dL_draws_46 (lv_at hl 0 rfl) ?_
          refine lv_iload_n hx hb dL_draws_48 rfl (lv_at hl 5 rfl) ?_
          refine zi_gt (tgt := 122) hx hb dL_draws_49 (by decide) (by omega) (by omega) (fun c3 => ?_) (fun c3 => ?_)
          ·
            refine lv_iload hx hb dL_draws_122 (lv_at hl 2 rfl) ?_
            refine zf_eq (tgt := 142) hx hb dL_draws_124 (by decide) (by omega) (fun c4 => ?_) (fun c4 => ?_)
            ·
              exfalso; omega
            ·
              refine lv_aload_n hx hb dL_draws_127 rfl (lv_at hl 3 rfl) ?_
              refine lv_iload_n hx hb dL_draws_128 rfl (lv_at hl 4 rfl) ?_
              refine zcallV (As := [.int (nI t)]) (rest := []) (q := 24) (k := 1) hx hb hml hown hts (kX2_degree l D cL cI cR A F hF T7 top7 Z7 P7 dg7 hTP7 (zh24 hI7) t (by omega)) gL_draws_X2_degree rfl (by decide +kernel) ⟨Nat.le_of_ble_eq_true rfl, Nat.le_of_ble_eq_true rfl⟩ rfl (by decide) (zC_o) rfl rfl hAm hP hS rfl hl.1 rfl (Nat.le_of_ble_eq_true rfl) dL_draws_129 ⟨Nat.zero_le _, Nat.zero_le _⟩ (zkC (fun T3 top3 Z3 H locs hP hT3 hZ3 hS => ?_))
              refine W.eq (g2 := F0 m 132 ls [.long (lN (dg7 t))]) rfl ?_
              refine W.eq (g2 := F0 m 132 ls [.long (lN nv)]) (by rw [hs7_t.2, zdeg hI7 (by omega) hs7_t (fun j hj => hfz7 j (by omega)) (hlast7 (by omega))]) ?_
              refine lv_iload_n hx hb dL_draws_132 rfl (lv_at hl 5 rfl) ?_
              refine zi2l hx hb (by omega) dL_draws_133 ?_
              refine zl_ne (tgt := 142) hx hb dL_draws_134 dL_draws_135 (by decide) (fun c5 => ?_) (fun c5 => ?_)
              ·
                exact absurd rfl c5
              ·
                refine lv_iconst (v := nI 1) hx hb dL_draws_138 (by decide +kernel) ?_
                refine lv_goto (tgt := 143) hx hb dL_draws_139 (by decide) ?_
                exact zretZ hx hb hr hlk hS hP (by first | rfl | (rw [hv]; unfold zbN; split <;> rfl)) dL_draws_143 ⟨_, _, _, _, _, rfl, rfl, hT3, hI7, f7, ⟨hs7_t.1, hs7_t.2.trans (zdeg hI7 (by omega) hs7_t (fun j hj => hfz7 j (by omega)) (hlast7 (by omega)))⟩, hfb7, fun j hj => hfz7 j (by omega), hlast7 (by omega), hkp7⟩
          ·
            refine lv_iload hx hb dL_draws_52 (lv_at hl 2 rfl) ?_
            refine zf_eq (tgt := 122) hx hb dL_draws_54 (by decide) (by omega) (fun c6 => ?_) (fun c6 => ?_)
            ·
              exfalso; omega
            ·
              refine lv_iload hx hb dL_draws_57 (lv_at hl 1 rfl) ?_
              refine lv_ldc hx hb hown (hts (.constant RL 19 (1103515245)) (by decide +kernel)) dL_draws_59 ?_
              refine W.eq (g2 := F0 m 61 ls [.int (nI 1103515245), .int (nI wv)]) rfl ?_
              refine zimul (d := (1103515245 * wv)) hx hb (by omega) dL_draws_61 ?_
              refine lv_sipush (v := nI 12345) hx hb dL_draws_62 (by decide +kernel) ?_
              refine ziadd (d := (1103515245 * wv + 12345)) hx hb (by omega) dL_draws_65 ?_
              refine lv_ldc hx hb hown (hts (.constant RL 8 (2147483647)) (by decide +kernel)) dL_draws_66 ?_
              refine lv_iand hx hb dL_draws_68 ?_
              obtain ⟨w1, hw1, ew1⟩ := zmask31 (nI (1103515245 * wv + 12345))
              refine W.eq (g2 := F0 m 69 ls [.int (nI w1)]) (by first | exact congrArg (fun z => F0 m 69 ls (Value.int z :: [])) ew1 | rw [ew1]) ?_
              refine lv_istore (lv' := [(6, .int (nI w1)), (7, .int (nI kv)), (5, .int (nI 1)), (0, .ref (F 24)), (1, .int (nI t)), (2, .int (nI nv)), (3, .int (nI mm)), (4, .int (nI cv))]) hx hb dL_draws_69 hl (by decide) rfl (fun ls hl => ?_)
              refine lv_aload_n hx hb dL_draws_71 rfl (lv_at hl 3 rfl) ?_
              refine lv_iload_n hx hb dL_draws_72 rfl (lv_at hl 4 rfl) ?_
              refine lv_iload hx hb dL_draws_73 (lv_at hl 1 rfl) ?_
              have J101 : ∀ (xv : Nat) (hx1 : xv ≤ mm) (hx2 : kv = nv → 1 ≤ xv) (H : Heap) (locs : List Loc), va_P D vwCl (zq_wd F 30 (zCE cL cR F T7 top7 Z7)) H → va_S A s.heap H locs → ∀ (ls : Array Slot), lv_has ls 8 [(6, .int (nI w1)), (7, .int (nI kv)), (5, .int (nI 1)), (0, .ref (F 24)), (1, .int (nI t)), (2, .int (nI nv)), (3, .int (nI mm)), (4, .int (nI cv))] → W p l e ({ frames := 3, cells := 0, slots := 0, locals := 67 }) s m ([.ref (F 24), .int (nI t), .int (nI nv), .int (nI mm), .int (nI cv)] : List Value).toArray below meth c H locs 0 0 (zQ below D A F 30 [.ref (F 24), .int (nI t), .int (nI nv), .int (nI mm), .int (nI cv)] s (zLo cL cR F (fun P2 n2 => ∃ f : Nat → Int64, (P2 t = f ∧ n2 t = nv) ∧ (∀ j, zb (f j) mm) ∧ (∀ j, nv < j → f j = 0) ∧ (nv = 0 ∨ ¬ f nv = 0) ∧ ∀ (i : Nat) (g : Nat → Int64) (e : Nat), i ≠ t → P0 i = g ∧ dg0 i = e → P2 i = g ∧ n2 i = e))) (F0 m 101 ls [.int (nI xv), .int (nI kv), .int (nI t), .ref (F 24)]) := by
                intro xv hx1 hx2 H locs hP hS ls hl
                refine zcallV (As := [.int (nI t), .int (nI kv), .int (nI xv)]) (rest := []) (q := 24) (k := 3) hx hb hml hown hts (kX2_setCoefficient l D cL cI cR A F hF T7 top7 Z7 P7 dg7 hTP7 (zh24 hI7) t (by omega) kv (by omega) (nI xv) (by unfold zin; rw [nI_toInt (by omega)]; omega)) gL_draws_X2_setCoefficient rfl (by decide +kernel) ⟨Nat.le_of_ble_eq_true rfl, Nat.le_of_ble_eq_true rfl⟩ rfl (by decide) (zC_o) rfl rfl hAm hP hS rfl hl.1 rfl (Nat.le_of_ble_eq_true rfl) dL_draws_101 ⟨Nat.zero_le _, Nat.zero_le _⟩ (zkC (fun T4 top4 Z4 H locs hP hT4 hZ4 hS => ?_))
                refine W.eq (g2 := F0 m 104 ls [.long (lN (ztop (vp_updL (P7 t) kv (nI xv).toInt64) 48))]) rfl ?_
                refine W.eq (g2 := F0 m 104 ls [.long (lN (ztop (vp_updL f7 kv (nI xv).toInt64) 48))]) (by rw [hs7_t.1]) ?_
                obtain ⟨P4, dg4, hTP4, hI4, hs4_t, hk4⟩ := zo_set hI7 (by omega) (by omega) (zb_nI (by omega) (by omega)) hs7_t rfl hT4
                refine lv_lconst (v := (0 : Int64)) hx hb dL_draws_104 (by decide +kernel) ?_
                refine zl_lt (tgt := 113) hx hb dL_draws_105 dL_draws_106 (by decide) (fun c7 => ?_) (fun c7 => ?_)
                ·
                  exact absurd c7 (zlN_t _ rfl)
                ·
                  refine lv_iconst (v := nI 1) hx hb dL_draws_109 (by decide +kernel) ?_
                  refine lv_goto (tgt := 114) hx hb dL_draws_110 (by decide) ?_
                  refine lv_istore (lv' := [(5, .int (nI 1)), (6, .int (nI w1)), (7, .int (nI kv)), (0, .ref (F 24)), (1, .int (nI t)), (2, .int (nI nv)), (3, .int (nI mm)), (4, .int (nI cv))]) hx hb dL_draws_114 hl (by decide) rfl (fun ls hl => ?_)
                  refine lv_iinc (v := (nI (kv + 1))) (lv' := [(7, .int (nI (kv + 1))), (5, .int (nI 1)), (6, .int (nI w1)), (0, .ref (F 24)), (1, .int (nI t)), (2, .int (nI nv)), (3, .int (nI mm)), (4, .int (nI cv))]) hx hb dL_draws_116 hl (k := 2) rfl (zinc (by omega)) (by decide) rfl (fun ls hl => ?_)
                  refine lv_goto (tgt := 46) hx hb dL_draws_119 (by decide) ?_
                  exact ih46 T4 top4 Z4 P4 dg4 (vp_updL f7 kv (nI xv).toInt64) (ztop (vp_updL f7 kv (nI xv).toInt64) 48) (kv + 1) w1 hTP4 hI4 hs4_t (zb_up hfb7 (zb_nI (by omega) (by omega))) (fun j hj => by unfold vp_updL; rw [if_neg (by omega)]; exact hfz7 j (by omega)) (fun h => Or.inr (by unfold vp_updL; rw [if_pos (by omega)]; exact znz (by omega) (by omega))) (fun i g e hi h => hk4 i g e hi (hkp7 i g e hi h)) (by omega) (by omega) hw1 (by omega) H _ hP hS ls (lv_sub hl [0, 2, 1, 3, 4, 5, 6, 7] rfl)
              refine lv_iload hx hb dL_draws_75 (lv_at hl 0 rfl) ?_
              refine lv_iconst (v := nI 5) hx hb dL_draws_77 (by decide +kernel) ?_
              refine lv_irem hx hb dL_draws_78 (znI_ne (by omega) (by omega)) ?_
              refine W.eq (g2 := F0 m 79 ls [.int (nI (w1 % 5)), .int (nI kv), .int (nI t), .ref (F 24)]) (by rw [zrem_n (by omega) (by omega) (by omega)]) ?_
              refine zf_ne (tgt := 92) hx hb dL_draws_79 (by decide) (by omega) (fun c8 => ?_) (fun c8 => ?_)
              ·
                have hm9 : (w1 / 2 ^ 8) % mm < mm := Nat.mod_lt _ (by omega)
                refine lv_iconst (v := nI 1) hx hb dL_draws_92 (by decide +kernel) ?_
                refine lv_iload hx hb dL_draws_93 (lv_at hl 0 rfl) ?_
                refine lv_bipush (v := nI 8) hx hb dL_draws_95 (by decide +kernel) ?_
                refine lv_ishr hx hb dL_draws_97 ?_
                refine W.eq (g2 := F0 m 98 ls [.int (nI (w1 / 2 ^ 8)), .int (nI 1), .int (nI kv), .int (nI t), .ref (F 24)]) (by rw [zshr_n (by omega) (by decide)]) ?_
                refine lv_iload_n hx hb dL_draws_98 rfl (lv_at hl 6 rfl) ?_
                refine lv_irem hx hb dL_draws_99 (znI_ne (by omega) (by omega)) ?_
                refine W.eq (g2 := F0 m 100 ls [.int (nI ((w1 / 2 ^ 8) % mm)), .int (nI 1), .int (nI kv), .int (nI t), .ref (F 24)]) (by rw [zrem_n (by omega) (by omega) (by omega)]) ?_
                refine ziadd (d := (((w1 / 2 ^ 8) % mm) + 1)) hx hb (by omega) dL_draws_100 ?_
                exact J101 (((w1 / 2 ^ 8) % mm) + 1) (by omega) (by omega) H _ hP hS ls (lv_sub hl [0, 1, 2, 3, 4, 5, 6, 7] rfl)
              ·
                refine lv_iload hx hb dL_draws_82 (lv_at hl 1 rfl) ?_
                refine lv_iload_n hx hb dL_draws_84 rfl (lv_at hl 5 rfl) ?_
                refine zi_ge (tgt := 92) hx hb dL_draws_85 (by decide) (by omega) (by omega) (fun c9 => ?_) (fun c9 => ?_)
                ·
                  have hm9 : (w1 / 2 ^ 8) % mm < mm := Nat.mod_lt _ (by omega)
                  refine lv_iconst (v := nI 1) hx hb dL_draws_92 (by decide +kernel) ?_
                  refine lv_iload hx hb dL_draws_93 (lv_at hl 0 rfl) ?_
                  refine lv_bipush (v := nI 8) hx hb dL_draws_95 (by decide +kernel) ?_
                  refine lv_ishr hx hb dL_draws_97 ?_
                  refine W.eq (g2 := F0 m 98 ls [.int (nI (w1 / 2 ^ 8)), .int (nI 1), .int (nI kv), .int (nI t), .ref (F 24)]) (by rw [zshr_n (by omega) (by decide)]) ?_
                  refine lv_iload_n hx hb dL_draws_98 rfl (lv_at hl 6 rfl) ?_
                  refine lv_irem hx hb dL_draws_99 (znI_ne (by omega) (by omega)) ?_
                  refine W.eq (g2 := F0 m 100 ls [.int (nI ((w1 / 2 ^ 8) % mm)), .int (nI 1), .int (nI kv), .int (nI t), .ref (F 24)]) (by rw [zrem_n (by omega) (by omega) (by omega)]) ?_
                  refine ziadd (d := (((w1 / 2 ^ 8) % mm) + 1)) hx hb (by omega) dL_draws_100 ?_
                  exact J101 (((w1 / 2 ^ 8) % mm) + 1) (by omega) (by omega) H _ hP hS ls (lv_sub hl [0, 1, 2, 3, 4, 5, 6, 7] rfl)
                ·
                  refine lv_iconst (v := nI 0) hx hb dL_draws_88 (by decide +kernel) ?_
                  refine lv_goto (tgt := 101) hx hb dL_draws_89 (by decide) ?_
                  exact J101 0 (by omega) (by omega) H _ hP hS ls (lv_sub hl [0, 1, 2, 3, 4, 5, 6, 7] rfl)
      exact L46 _ T2 top2 Z2 P2 dg2 _ _ 1 cv hTP2 hI2 hs2_t (zd0_b (zb_nIs (by omega) (by omega) (by omega) (by omega))) (fun j hj => by unfold vp_updL; rw [if_neg (by omega)]; exact ztb_ne (by omega)) (fun h => Or.inl (by omega)) (fun i g e hi h => hk2 i g e hi (hk1 i g e hi h)) (by omega) (by omega) hc (Nat.lt_succ_self _) H _ hP hS ls (lv_sub hl [0, 1, 2, 3, 4, 5, 6, 7] rfl)
