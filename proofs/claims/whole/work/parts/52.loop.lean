/-! the law: its loop -/
theorem law_loop {p : Program} {l : Launch} {e : Env} {s : State} {m : MethodId} {below : List Frame} {meth : Method} {c : Code} {D : va_G} {cL cI cR : ClassId} {F G : Nat → Nat} {b L : Nat} {xs : Nat → Int32} (hL : L ≤ 3072) (C0 : lw_At p s m meth c b L xs) (hAm : zAm D cL cI cR (fun q : Nat => s.heap.size ≤ q) s) (hF : zq_F (fun q : Nat => s.heap.size ≤ q) F 30) (hG : zq_F (fun q : Nat => s.heap.size ≤ q) G 7) (hFG : ∀ i j, i < 30 → j < 7 → F i ≠ G j) :
    ∀ (u i : Nat), i ≤ L + 5 → L + 6 ≤ i + u → ∀ (H : Heap) (locs : List Loc), zSt D cL cI cR F G H → va_S (fun q : Nat => s.heap.size ≤ q) s.heap H locs → ∀ (ls : Array Slot), lv_has ls 4 [(3, .int (nI i)), (2, .ref (G 0)), (1, .ref (F 24)), (0, .ref b)] → W p l e room_1 s m #[Value.ref b] below meth c H locs 600000 7302250 (lw_Z below #[Value.ref b] s) (F0 m 18 ls []) := by
  obtain ⟨hx, hb, hr, hml, hown, hts0, hX, hbl, hlocks, hgv⟩ := C0
  have hb : c.code = cL_law := hb
  have hown : s.vm.findClass RL = some m.cls := hown
  have hts : ∀ w ∈ wsL_law, w.before #[Value.ref b] s = true := fun w h => hts0 w (wsL_law_in w h)
  have hbA : ¬ (fun q : Nat => s.heap.size ≤ q) b := Nat.not_le.mpr hbl
  intro u
  induction u with
  | zero => intro i h1 h2; omega
  | succ u ih =>
    intro i h1 h2 H locs hst hS ls hl
    refine lv_iload_n hx hb dL_law_18 rfl (lv_at hl 0 rfl) ?_
    refine lv_aload_n hx hb dL_law_19 rfl (lv_at hl 3 rfl) ?_
    refine va_slen hx hb hX hbl hbA hS dL_law_20 ?_
    refine W.eq (g2 := F0 m 21 ls [.int (nI L), .int (nI i)]) rfl ?_
    refine lv_bipush (v := nI 6) hx hb dL_law_21 (by decide +kernel) ?_
    refine lv_isub hx hb dL_law_23 ?_
    refine W.eq (g2 := F0 m 24 ls [.int (nI L - nI 6), .int (nI i)]) rfl ?_
    have hsub : (nI L - nI 6).toInt = (L : Int) - 6 := pk_sub_toInt (by omega) (by omega)
    refine lv_icmp_gt (tgt := 1062) hx hb dL_law_24 (by decide) (fun c9 => ?_) (fun c9 => ?_)
    · refine lv_iconst (v := 1) hx hb dL_law_1062 (by decide +kernel) ?_
      exact va_forget (fun q hq => hS.2.2 q hq) (lw_ret hx hb hr hlocks dL_law_1063)
    · have hi : i + 5 < L := by
        have h9 : ¬ (nI L - nI 6) < nI i := c9
        rw [Int32.lt_iff_toInt_lt, hsub, nI_toInt (by omega)] at h9
        omega
      have kk : ∀ (H1 : Heap) (locs1 : List Loc), zSt D cL cI cR F G H1 → va_S (fun q : Nat => s.heap.size ≤ q) s.heap H1 locs1 → W p l e room_1 s m #[Value.ref b] below meth c H1 locs1 600000 7302250 (lw_Z below #[Value.ref b] s) (F0 m 1056 ls []) := by
        intro H1 locs1 hst1 hS1
        refine lv_iinc (v := nI (i + 6)) (lv' := [(3, .int (nI (i + 6))), (2, .ref (G 0)), (1, .ref (F 24)), (0, .ref b)]) hx hb dL_law_1056 hl (k := 0) rfl (zinc (by omega)) (by decide) rfl (fun ls hl => ?_)
        refine lv_goto (tgt := 18) hx hb dL_law_1059 (by decide) ?_
        exact ih (i + 6) (by omega) (by omega) H1 locs1 hst1 hS1 ls hl
      refine W.eq (g2 := F0 m 27 ls []) rfl ?_
      refine lv_aload_n hx hb dL_law_27 rfl (lv_at hl 3 rfl) ?_
      refine lv_iload_n hx hb dL_law_28 rfl (lv_at hl 0 rfl) ?_
      refine va_sld hx hb hX hbl hbA hS (vp_in_nI (by omega) (by omega)) dL_law_29 ?_
      obtain ⟨j, hj, ej⟩ := pk_andE (xs (nI i).toNatClampNeg) (m := nI 31) 5 (by decide +kernel)
      refine lv_bipush (v := nI 31) hx hb dL_law_30 (by decide +kernel) ?_
      refine lv_iand hx hb dL_law_32 ?_
      refine W.eq (g2 := F0 m 33 ls [.int (nI j)]) (by rw [ej]) ?_
      by_cases h25 : 25 < j
      · refine lv_tableOut (tgt := 1056) hx hb dL_law_33 (Or.inr (by rw [nI_toInt (by omega)]; omega)) (by decide) ?_
        exact kk H locs hst hS
      by_cases e0 : j = 0
      · subst e0
        refine lv_tableIn (off := 119) (tgt := 152) hx hb dL_law_33 (by decide +kernel) (by decide +kernel) (by decide +kernel) (by decide) ?_
        exact lwo_setCoefficient hx hb hml hown hts hX hbl hbA hL hi hAm hF hG hFG hst hS hl kk
      by_cases e1 : j = 1
      · subst e1
        refine lv_tableIn (off := 163) (tgt := 196) hx hb dL_law_33 (by decide +kernel) (by decide +kernel) (by decide +kernel) (by decide) ?_
        exact lwo_coefficient hx hb hml hown hts hX hbl hbA hL hi hAm hF hG hFG hst hS hl kk
      by_cases e2 : j = 2
      · subst e2
        refine lv_tableIn (off := 197) (tgt := 230) hx hb dL_law_33 (by decide +kernel) (by decide +kernel) (by decide +kernel) (by decide) ?_
        exact lwo_degree hx hb hml hown hts hX hbl hbA hL hi hAm hF hG hFG hst hS hl kk
      by_cases e3 : j = 3
      · subst e3
        refine lv_tableIn (off := 221) (tgt := 254) hx hb dL_law_33 (by decide +kernel) (by decide +kernel) (by decide +kernel) (by decide) ?_
        exact lwo_copy hx hb hml hown hts hX hbl hbA hL hi hAm hF hG hFG hst hS hl kk
      by_cases e4 : j = 4
      · subst e4
        refine lv_tableIn (off := 255) (tgt := 288) hx hb dL_law_33 (by decide +kernel) (by decide +kernel) (by decide +kernel) (by decide) ?_
        exact lwo_value hx hb hml hown hts hX hbl hbA hL hi hAm hF hG hFG hst hS hl kk
      by_cases e5 : j = 5
      · subst e5
        refine lv_tableIn (off := 289) (tgt := 322) hx hb dL_law_33 (by decide +kernel) (by decide +kernel) (by decide +kernel) (by decide) ?_
        exact lwo_add hx hb hml hown hts hX hbl hbA hL hi hAm hF hG hFG hst hS hl kk
      by_cases e6 : j = 6
      · subst e6
        refine lv_tableIn (off := 353) (tgt := 386) hx hb dL_law_33 (by decide +kernel) (by decide +kernel) (by decide +kernel) (by decide) ?_
        exact lwo_multiply hx hb hml hown hts hX hbl hbA hL hi hAm hF hG hFG hst hS hl kk
      by_cases e7 : j = 7
      · subst e7
        refine lv_tableIn (off := 397) (tgt := 430) hx hb dL_law_33 (by decide +kernel) (by decide +kernel) (by decide +kernel) (by decide) ?_
        exact lwo_differentiate hx hb hml hown hts hX hbl hbA hL hi hAm hF hG hFG hst hS hl kk
      by_cases e8 : j = 8
      · subst e8
        refine lv_tableIn (off := 431) (tgt := 464) hx hb dL_law_33 (by decide +kernel) (by decide +kernel) (by decide +kernel) (by decide) ?_
        exact lwo_antidifferentiate hx hb hml hown hts hX hbl hbA hL hi hAm hF hG hFG hst hS hl kk
      by_cases e9 : j = 9
      · subst e9
        refine lv_tableIn (off := 465) (tgt := 498) hx hb dL_law_33 (by decide +kernel) (by decide +kernel) (by decide +kernel) (by decide) ?_
        exact lwo_compose hx hb hml hown hts hX hbl hbA hL hi hAm hF hG hFG hst hS hl kk
      by_cases e10 : j = 10
      · subst e10
        refine lv_tableIn (off := 509) (tgt := 542) hx hb dL_law_33 (by decide +kernel) (by decide +kernel) (by decide +kernel) (by decide) ?_
        exact lwo_divide hx hb hml hown hts hX hbl hbA hL hi hAm hF hG hFG hst hS hl kk
      by_cases e11 : j = 11
      · subst e11
        refine lv_tableIn (off := 553) (tgt := 586) hx hb dL_law_33 (by decide +kernel) (by decide +kernel) (by decide +kernel) (by decide) ?_
        exact lwo_cut hx hb hml hown hts hX hbl hbA hL hi hAm hF hG hFG hst hS hl kk
      by_cases e12 : j = 12
      · subst e12
        refine lv_tableIn (off := 587) (tgt := 620) hx hb dL_law_33 (by decide +kernel) (by decide +kernel) (by decide +kernel) (by decide) ?_
        exact lwo_basis hx hb hml hown hts hX hbl hbA hL hi hAm hF hG hFG hst hS hl kk
      by_cases e13 : j = 13
      · subst e13
        refine lv_tableIn (off := 621) (tgt := 654) hx hb dL_law_33 (by decide +kernel) (by decide +kernel) (by decide +kernel) (by decide) ?_
        exact lwo_integral hx hb hml hown hts hX hbl hbA hL hi hAm hF hG hFG hst hS hl kk
      by_cases e14 : j = 14
      · subst e14
        refine lv_tableIn (off := 645) (tgt := 678) hx hb dL_law_33 (by decide +kernel) (by decide +kernel) (by decide +kernel) (by decide) ?_
        exact lwo_inner hx hb hml hown hts hX hbl hbA hL hi hAm hF hG hFG hst hS hl kk
      by_cases e15 : j = 15
      · subst e15
        refine lv_tableIn (off := 679) (tgt := 712) hx hb dL_law_33 (by decide +kernel) (by decide +kernel) (by decide +kernel) (by decide) ?_
        exact lwo_bound hx hb hml hown hts hX hbl hbA hL hi hAm hF hG hFG hst hS hl kk
      by_cases e16 : j = 16
      · subst e16
        refine lv_tableIn (off := 703) (tgt := 736) hx hb dL_law_33 (by decide +kernel) (by decide +kernel) (by decide +kernel) (by decide) ?_
        exact lwo_degreeWith hx hb hml hown hts hX hbl hbA hL hi hAm hF hG hFG hst hS hl kk
      by_cases e17 : j = 17
      · subst e17
        refine lv_tableIn (off := 737) (tgt := 770) hx hb dL_law_33 (by decide +kernel) (by decide +kernel) (by decide +kernel) (by decide) ?_
        exact lwo_byValue hx hb hml hown hts hX hbl hbA hL hi hAm hF hG hFG hst hS hl kk
      by_cases e18 : j = 18
      · subst e18
        refine lv_tableIn (off := 771) (tgt := 804) hx hb dL_law_33 (by decide +kernel) (by decide +kernel) (by decide +kernel) (by decide) ?_
        exact lwo_setValue hx hb hml hown hts hX hbl hbA hL hi hAm hF hG hFG hst hS hl kk
      by_cases e19 : j = 19
      · subst e19
        refine lv_tableIn (off := 805) (tgt := 838) hx hb dL_law_33 (by decide +kernel) (by decide +kernel) (by decide +kernel) (by decide) ?_
        exact lwo_interpolate hx hb hml hown hts hX hbl hbA hL hi hAm hF hG hFG hst hS hl kk
      by_cases e20 : j = 20
      · subst e20
        refine lv_tableIn (off := 839) (tgt := 872) hx hb dL_law_33 (by decide +kernel) (by decide +kernel) (by decide +kernel) (by decide) ?_
        exact lwo_sample hx hb hml hown hts hX hbl hbA hL hi hAm hF hG hFG hst hS hl kk
      by_cases e21 : j = 21
      · subst e21
        refine lv_tableIn (off := 873) (tgt := 906) hx hb dL_law_33 (by decide +kernel) (by decide +kernel) (by decide +kernel) (by decide) ?_
        exact lwo_misfit hx hb hml hown hts hX hbl hbA hL hi hAm hF hG hFG hst hS hl kk
      by_cases e22 : j = 22
      · subst e22
        refine lv_tableIn (off := 907) (tgt := 940) hx hb dL_law_33 (by decide +kernel) (by decide +kernel) (by decide +kernel) (by decide) ?_
        exact lwo_extremePoint hx hb hml hown hts hX hbl hbA hL hi hAm hF hG hFG hst hS hl kk
      by_cases e23 : j = 23
      · subst e23
        refine lv_tableIn (off := 941) (tgt := 974) hx hb dL_law_33 (by decide +kernel) (by decide +kernel) (by decide +kernel) (by decide) ?_
        exact lwo_root hx hb hml hown hts hX hbl hbA hL hi hAm hF hG hFG hst hS hl kk
      by_cases e24 : j = 24
      · subst e24
        refine lv_tableIn (off := 975) (tgt := 1008) hx hb dL_law_33 (by decide +kernel) (by decide +kernel) (by decide +kernel) (by decide) ?_
        exact lwo_intervals hx hb hml hown hts hX hbl hbA hL hi hAm hF hG hFG hst hS hl kk
      by_cases e25 : j = 25
      · subst e25
        refine lv_tableIn (off := 999) (tgt := 1032) hx hb dL_law_33 (by decide +kernel) (by decide +kernel) (by decide +kernel) (by decide) ?_
        exact lwo_greatest hx hb hml hown hts hX hbl hbA hL hi hAm hF hG hFG hst hS hl kk
      omega
