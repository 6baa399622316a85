/-! CosineSeries: the private methods -/
theorem zin_of {s : Int32} (h1 : ¬ s < 0) (h2 : ¬ nI 8 ≤ s) : zin 0 7 s := by
  rw [Int32.lt_iff_toInt_lt] at h1
  rw [Int32.le_iff_toInt_le] at h2
  have e1 : (0 : Int32).toInt = 0 := rfl
  have e2 : (nI 8).toInt = 8 := rfl
  rw [e1] at h1
  rw [e2] at h2
  exact ⟨by omega, by omega⟩
/-- the cosine of m sixteenths -/
def zhalf (m : Nat) : Nat := if 16 < m % 32 then 32 - m % 32 else m % 32
def zcosv (m : Nat) : Int32 := if zhalf m ≤ 8 then zcos (zhalf m) else -zcos (16 - zhalf m)
theorem zand31 {m : Nat} (h : m < 2147483648) : nI m &&& nI 31 = nI (m % 32) := pk_andN (by omega) 5 (by decide)
theorem zshl {p j : Nat} (hp : p ≤ 4) (hj : j ≤ 1000) : nI j <<< (nI (4 - p) &&& 31) = nI (j * 2 ^ (4 - p)) := by
  have h : p = 0 ∨ p = 1 ∨ p = 2 ∨ p = 3 ∨ p = 4 := by omega
  rcases h with rfl | rfl | rfl | rfl | rfl <;> exact pk_shlN _ _ (by decide) (by omega)
theorem zsh1 {p : Nat} (hp : p ≤ 4) : nI 1 <<< (nI p &&& 31) = nI (2 ^ p) := by
  have h : p = 0 ∨ p = 1 ∨ p = 2 ∨ p = 3 ∨ p = 4 := by omega
  rcases h with rfl | rfl | rfl | rfl | rfl <;> decide
theorem zp2 {p : Nat} (hp : p ≤ 4) : 1 ≤ 2 ^ p ∧ 2 ^ p ≤ 16 ∧ 1 ≤ 2 ^ (4 - p) ∧ 2 ^ (4 - p) ≤ 16 := by
  have h : p = 0 ∨ p = 1 ∨ p = 2 ∨ p = 3 ∨ p = 4 := by omega
  rcases h with rfl | rfl | rfl | rfl | rfl <;> decide
theorem zjk {j k : Nat} (hj : j ≤ 16) (hk : k ≤ 16) : j * k ≤ 256 := Nat.mul_le_mul hj hk
theorem zj4 {j p : Nat} (hj : j ≤ 256) (hp : p ≤ 4) : j * 2 ^ (4 - p) ≤ 4096 := Nat.le_trans (Nat.mul_le_mul hj (zp2 hp).2.2.2) (by decide)
/-- the sum for the coefficient k of an interpolation -/
def zcs (pv : Nat → Int64) (p k : Nat) : Nat → Int64
  | 0 => 0
  | m + 1 => zcs pv p k m + (if m = 0 ∨ m = 2 ^ p then 1 else 2) * pv m * (zcosv (m * k * 2 ^ (4 - p))).toInt64
/-- what is in the way of a new series; the answer; the state behind -/
def zke (f : Nat → Int64) : Int64 := zerr f (ztop f 48) 49
def zkr (f : Nat → Int64) : Int64 := if zke f = 0 then lN (ztop f 48) else zke f
def zkP (P : Nat → Nat → Int64) (t : Nat) (f : Nat → Int64) : Nat → Nat → Int64 := if zke f = 0 then va_up P t f else P
def zkN (n : Nat → Nat) (t : Nat) (f : Nat → Int64) : Nat → Nat := if zke f = 0 then va_up n t (ztop f 48) else n
theorem zend_keep {T P : Nat → Nat → Int64} {top n : Nat → Nat} {t : Nat} {f x : Nat → Int64} {y : Nat} (h : ∀ i, i < 8 → T i = P i ∧ top i = n i) : ∀ i, i < 8 → zkP (va_up T 8 x) t f i = zkP P t f i ∧ zkN (va_up top 8 y) t f i = zkN n t f i := by
  intro i hi
  unfold zkP zkN
  have h8 : ¬ i = 8 := by omega
  split
  · by_cases ht : i = t
    · simp [va_up, ht]
    · simp [va_up, ht, h8, h i hi]
  · simp [va_up, h8, h i hi]
/-- a public method's end: the answer r, the first eight series P' of the degrees n', the values pv' -/
def zPC (cL cR : ClassId) (F : Nat → Nat) (r : Int64) (P' : Nat → Nat → Int64) (n' : Nat → Nat) (pv' : Nat → Int64) : Option Value → (Nat → va_E) → Prop := fun v2 E2 => ∃ (T2 : Nat → Nat → Int64) (top2 : Nat → Nat) (Z2 : zZC), E2 = zCE cL cR F T2 top2 Z2 ∧ v2 = some (.long r) ∧ (∀ i, i < 8 → T2 i = P' i ∧ top2 i = n' i) ∧ ∀ j, j < 17 → Z2.1 j = pv' j
/-- a step of the composition: the product's fault, else the new series -/
def zst (p d : Nat → Int64) (fa c : Int64) : Nat → Int64 := vp_updL (zsum fa (-1) p d) 0 (zsum fa (-1) p d 0 + c)
def zste (p f : Nat → Int64) : Int64 := if zke p = 0 then zke f else zke p
/-- the composition from the coefficient k down: the fault, the series -/
def zcomp (cf cg : Nat → Int64) (ng : Nat) : Nat → (Nat → Int64) → Nat → (Nat → Int64) → Int64 × (Nat → Int64)
  | 0, b, nb, d => (zste (zprod cg ng b nb) (zst (zprod cg ng b nb) d 1 (cf 0)), zst (zprod cg ng b nb) d 1 (cf 0))
  | k + 1, b, nb, d =>
    if zste (zprod cg ng b nb) (zst (zprod cg ng b nb) d 2 (cf (k + 1))) = 0 then zcomp cf cg ng k (zst (zprod cg ng b nb) d 2 (cf (k + 1))) (ztop (zst (zprod cg ng b nb) d 2 (cf (k + 1))) 48) b
    else (zste (zprod cg ng b nb) (zst (zprod cg ng b nb) d 2 (cf (k + 1))), zst (zprod cg ng b nb) d 2 (cf (k + 1)))
theorem zke_24 {f : Nat → Int64} (h : zke f = 0) : ztop f 48 ≤ 24 := by
  unfold zke zerr at h
  by_cases h1 : 24 < ztop f 48
  · rw [if_pos h1] at h
    exact absurd h (by decide)
  · omega
theorem zup8 {α : Type} (T : Nat → α) (v : α) {i k : Nat} (h : ¬ i = k) : va_up T k v i = T i := by simp [va_up, h]

set_option maxHeartbeats 4000000 in
set_option maxRecDepth 100000 in
theorem kX2_find_in (l : Launch) (D : va_G) (cL cI cR : ClassId) (A : Nat → Prop) (F : Nat → Nat) (hF : zq_F A F 30) (T : Nat → Nat → Int64) (top : Nat → Nat) (Z : zZC) (s0 : Int32) (k : Nat) (hk : k ≤ 7) (hs : s0 = nI k) : zCt l yX2_find wsX2_find 0 0 D cL cI cR A F 30 (zCE cL cR F T top Z) [.ref (F 24), .int s0] (fun v2 E2 => v2 = (some (.ref (F k))) ∧ E2 = (zCE cL cR F T top Z)) := by
  refine zStart (cc := cX2_find) (maxL := 2) (ret := (some (.object "CosineSeries$Series"))) (by decide +kernel) rfl (Nat.le_of_ble_eq_true rfl) ?_
  intro p e s m below meth c hx hb hr hml hlk hown hts hAm H hP hS ls hl
  have hown : s.vm.findClass RX2 = some m.cls := hown
  have hl : lv_has ls 2 [(0, .ref (F 24)), (1, .int s0)] := hl
  have hinX2 : ∀ w ∈ u_ws RX2 TX2 7, w ∈ wsX2_find := by decide +kernel
  subst hs
  have hl : lv_has ls 2 [(0, .ref (F 24)), (1, .int (nI k))] := by exact hl
  refine lv_iload_n hx hb dX2_find_0 rfl (lv_at hl 1 rfl) ?_
  refine zf_lt (tgt := 22) hx hb dX2_find_1 (by decide) (by omega) ?_
  refine lv_iload_n hx hb dX2_find_4 rfl (lv_at hl 1 rfl) ?_
  refine lv_aload_n hx hb dX2_find_5 rfl (lv_at hl 0 rfl) ?_
  refine zget (q := 24) (k := 0) (v := .ref (F 25)) hx hb hts hinX2 hown hAm hP (by omega) (zC_o) rfl (by decide) (hts (.fieldLink RX2 11 "CosineSeries" "stored" "[LCosineSeries$Series;") (by decide +kernel)) (by first | rfl | simp [va_up, *]) dX2_find_6 ?_
  refine zalen (N := 8) (q := 25) (t0 := 2) hx hb hAm hP (by omega) (zC_st) rfl rfl dX2_find_9 ?_
  refine zi_ge (tgt := 22) hx hb dX2_find_10 (by decide) (by omega) (by omega) (fun c1 => ?_) (fun c1 => ?_)
  ·
    exfalso; omega
  ·
    refine lv_aload_n hx hb dX2_find_13 rfl (lv_at hl 0 rfl) ?_
    refine zget (q := 24) (k := 0) (v := .ref (F 25)) hx hb hts hinX2 hown hAm hP (by omega) (zC_o) rfl (by decide) (hts (.fieldLink RX2 11 "CosineSeries" "stored" "[LCosineSeries$Series;") (by decide +kernel)) (by first | rfl | simp [va_up, *]) dX2_find_14 ?_
    refine lv_iload_n hx hb dX2_find_17 rfl (lv_at hl 1 rfl) ?_
    refine zaald (q := 25) (k := k) (v := F k) hx hb hAm hP (by omega) (zC_st) (by omega) (by decide) rfl dX2_find_18 ?_
    refine lv_goto (tgt := 23) hx hb dX2_find_19 (by decide) ?_
    exact zretA hx hb hr (Or.inr ⟨_, rfl⟩) hlk hS hP dX2_find_23 ⟨rfl, rfl⟩

set_option maxHeartbeats 4000000 in
set_option maxRecDepth 100000 in
theorem kX2_find_out (l : Launch) (D : va_G) (cL cI cR : ClassId) (A : Nat → Prop) (F : Nat → Nat) (hF : zq_F A F 30) (T : Nat → Nat → Int64) (top : Nat → Nat) (Z : zZC) (s0 : Int32) (hs : ¬ zin 0 7 s0) : zCt l yX2_find wsX2_find 0 0 D cL cI cR A F 30 (zCE cL cR F T top Z) [.ref (F 24), .int s0] (fun v2 E2 => v2 = (some .null) ∧ E2 = (zCE cL cR F T top Z)) := by
  refine zStart (cc := cX2_find) (maxL := 2) (ret := (some (.object "CosineSeries$Series"))) (by decide +kernel) rfl (Nat.le_of_ble_eq_true rfl) ?_
  intro p e s m below meth c hx hb hr hml hlk hown hts hAm H hP hS ls hl
  have hown : s.vm.findClass RX2 = some m.cls := hown
  have hl : lv_has ls 2 [(0, .ref (F 24)), (1, .int s0)] := hl
  have hinX2 : ∀ w ∈ u_ws RX2 TX2 7, w ∈ wsX2_find := by decide +kernel
  refine lv_iload_n hx hb dX2_find_0 rfl (lv_at hl 1 rfl) ?_
  refine lv_if_lt (tgt := 22) hx hb dX2_find_1 (by decide) (fun c1 => ?_) (fun c1 => ?_)
  ·
    refine lv_null hx hb dX2_find_22 ?_
    exact zretA hx hb hr (Or.inl rfl) hlk hS hP dX2_find_23 ⟨rfl, rfl⟩
  ·
    refine lv_iload_n hx hb dX2_find_4 rfl (lv_at hl 1 rfl) ?_
    refine lv_aload_n hx hb dX2_find_5 rfl (lv_at hl 0 rfl) ?_
    refine zget (q := 24) (k := 0) (v := .ref (F 25)) hx hb hts hinX2 hown hAm hP (by omega) (zC_o) rfl (by decide) (hts (.fieldLink RX2 11 "CosineSeries" "stored" "[LCosineSeries$Series;") (by decide +kernel)) (by first | rfl | simp [va_up, *]) dX2_find_6 ?_
    refine zalen (N := 8) (q := 25) (t0 := 2) hx hb hAm hP (by omega) (zC_st) rfl rfl dX2_find_9 ?_
    refine lv_icmp_ge (tgt := 22) hx hb dX2_find_10 (by decide) (fun c2 => ?_) (fun c2 => ?_)
    ·
      refine lv_null hx hb dX2_find_22 ?_
      exact zretA hx hb hr (Or.inl rfl) hlk hS hP dX2_find_23 ⟨rfl, rfl⟩
    ·
      exact absurd (zin_of c1 c2) hs

set_option maxHeartbeats 4000000 in
set_option maxRecDepth 100000 in
theorem kX2_cosine (l : Launch) (D : va_G) (cL cI cR : ClassId) (A : Nat → Prop) (F : Nat → Nat) (n : Nat) (E : Nat → va_E) (m0 : Nat) (hm0 : m0 < 100000) : zCt l yX2_cosine wsX2_cosine 1 22 D cL cI cR A F n E [.int (nI m0)] (fun v2 E2 => v2 = (some (.int (zcosv m0))) ∧ E2 = E) := by
  refine zStart (cc := cX2_cosine) (maxL := 3) (ret := (some .int)) (by decide +kernel) rfl (Nat.le_of_ble_eq_true rfl) ?_
  intro p e s m below meth c hx hb hr hml hlk hown hts hAm H hP hS ls hl
  have hown : s.vm.findClass RX2 = some m.cls := hown
  have hl : lv_has ls 3 [(0, .int (nI m0))] := hl
  refine lv_iload_n hx hb dX2_cosine_0 rfl (lv_at hl 0 rfl) ?_
  refine lv_bipush (v := nI 31) hx hb dX2_cosine_1 (by decide +kernel) ?_
  refine lv_iand hx hb dX2_cosine_3 ?_
  refine W.eq (g2 := F0 m 4 ls [.int (nI (m0 % 32))]) (by rw [zand31 (by omega)]) ?_
  refine lv_istore_n (lv' := [(1, .int (nI (m0 % 32))), (0, .int (nI m0))]) hx hb dX2_cosine_4 rfl hl (by decide) rfl (fun ls hl => ?_)
  refine lv_iload_n hx hb dX2_cosine_5 rfl (lv_at hl 0 rfl) ?_
  refine lv_bipush (v := nI 16) hx hb dX2_cosine_6 (by decide +kernel) ?_
  refine zi_le (tgt := 18) hx hb dX2_cosine_8 (by decide) (by omega) (by omega) (fun c1 => ?_) (fun c1 => ?_)
  ·
    have hh : zhalf m0 = m0 % 32 := by unfold zhalf; rw [if_neg (by omega)]
    refine lv_iload_n hx hb dX2_cosine_18 rfl (lv_at hl 0 rfl) ?_
    refine lv_istore_n (lv' := [(2, .int (nI (m0 % 32))), (1, .int (nI (m0 % 32))), (0, .int (nI m0))]) hx hb dX2_cosine_19 rfl hl (by decide) rfl (fun ls hl => ?_)
    refine lv_iload_n hx hb dX2_cosine_20 rfl (lv_at hl 0 rfl) ?_
    refine lv_iconst (v := nI 0) hx hb dX2_cosine_21 (by decide +kernel) ?_
    refine lv_bipush (v := nI 16) hx hb dX2_cosine_22 (by decide +kernel) ?_
    refine zcallS (As := [.int (nI (m0 % 32)), .int (nI 0), .int (nI 16)]) (rest := []) (k := 3) hx hb hml hown hts (kX2_isOutside l D cL cI cR A F n E (nI (m0 % 32)) (nI 0) (nI 16) 0 (zo0 rfl rfl (zin_nI (a := 16) (by omega) (by decide)))) gX2_cosine_X2_isOutside rfl (by decide +kernel) ⟨Nat.le_of_ble_eq_true rfl, Nat.le_of_ble_eq_true rfl⟩ hAm hP hS rfl hl.1 rfl (Nat.le_of_ble_eq_true rfl) dX2_cosine_24 ⟨Nat.zero_le _, Nat.zero_le _⟩ (zkn (fun H locs hP hS => ?_))
    refine W.eq (g2 := F0 m 27 ls [.int (nI 0)]) rfl ?_
    refine zf_eq (tgt := 32) hx hb dX2_cosine_27 (by decide) (by omega) (fun c2 => ?_) (fun c2 => ?_)
    ·
      refine lv_iload_n hx hb dX2_cosine_32 rfl (lv_at hl 0 rfl) ?_
      refine lv_bipush (v := nI 8) hx hb dX2_cosine_33 (by decide +kernel) ?_
      refine zi_gt (tgt := 46) hx hb dX2_cosine_35 (by decide) (by omega) (by omega) (fun c3 => ?_) (fun c3 => ?_)
      ·
        obtain ⟨tk, hZk, hTk⟩ := hAm.2.2.2
        refine va_gets hx hb hZk hS hown (hts (.fieldLink RX2 173 "CosineSeries" "COSINES" "[I") (by decide +kernel)) (fun _ h => h) dX2_cosine_46 ?_
        refine lv_bipush (v := nI 16) hx hb dX2_cosine_49 (by decide +kernel) ?_
        refine lv_iload_n hx hb dX2_cosine_51 rfl (lv_at hl 0 rfl) ?_
        refine zisub (d := (16 - (m0 % 32))) hx hb (by omega) dX2_cosine_52 ?_
        refine va_ti (v := .int (zcos (16 - (m0 % 32)))) hx hb hTk hS (vp_in_nI (by omega) (by decide)) (by rw [nI_clamp (by omega)]) dX2_cosine_53 ?_
        refine lv_ineg hx hb dX2_cosine_54 ?_
        exact zretI hx hb hr hlk hS hP dX2_cosine_55 ⟨by unfold zcosv; rw [hh]; first | rw [if_pos (by omega)] | rw [if_neg (by omega)], rfl⟩
      ·
        obtain ⟨tk, hZk, hTk⟩ := hAm.2.2.2
        refine va_gets hx hb hZk hS hown (hts (.fieldLink RX2 173 "CosineSeries" "COSINES" "[I") (by decide +kernel)) (fun _ h => h) dX2_cosine_38 ?_
        refine lv_iload_n hx hb dX2_cosine_41 rfl (lv_at hl 0 rfl) ?_
        refine va_ti (v := .int (zcos (m0 % 32))) hx hb hTk hS (vp_in_nI (by omega) (by decide)) (by rw [nI_clamp (by omega)]) dX2_cosine_42 ?_
        refine lv_goto (tgt := 55) hx hb dX2_cosine_43 (by decide) ?_
        exact zretI hx hb hr hlk hS hP dX2_cosine_55 ⟨by unfold zcosv; rw [hh]; first | rw [if_pos (by omega)] | rw [if_neg (by omega)], rfl⟩
    ·
      exfalso; omega
  ·
    have hh : zhalf m0 = 32 - m0 % 32 := by unfold zhalf; rw [if_pos (by omega)]
    refine lv_bipush (v := nI 32) hx hb dX2_cosine_11 (by decide +kernel) ?_
    refine lv_iload_n hx hb dX2_cosine_13 rfl (lv_at hl 0 rfl) ?_
    refine zisub (d := (32 - (m0 % 32))) hx hb (by omega) dX2_cosine_14 ?_
    refine lv_goto (tgt := 19) hx hb dX2_cosine_15 (by decide) ?_
    refine lv_istore_n (lv' := [(2, .int (nI (32 - (m0 % 32)))), (1, .int (nI (m0 % 32))), (0, .int (nI m0))]) hx hb dX2_cosine_19 rfl hl (by decide) rfl (fun ls hl => ?_)
    refine lv_iload_n hx hb dX2_cosine_20 rfl (lv_at hl 0 rfl) ?_
    refine lv_iconst (v := nI 0) hx hb dX2_cosine_21 (by decide +kernel) ?_
    refine lv_bipush (v := nI 16) hx hb dX2_cosine_22 (by decide +kernel) ?_
    refine zcallS (As := [.int (nI (32 - (m0 % 32))), .int (nI 0), .int (nI 16)]) (rest := []) (k := 3) hx hb hml hown hts (kX2_isOutside l D cL cI cR A F n E (nI (32 - m0 % 32)) (nI 0) (nI 16) 0 (zo0 rfl rfl (zin_nI (a := 16) (by omega) (by decide)))) gX2_cosine_X2_isOutside rfl (by decide +kernel) ⟨Nat.le_of_ble_eq_true rfl, Nat.le_of_ble_eq_true rfl⟩ hAm hP hS rfl hl.1 rfl (Nat.le_of_ble_eq_true rfl) dX2_cosine_24 ⟨Nat.zero_le _, Nat.zero_le _⟩ (zkn (fun H locs hP hS => ?_))
    refine W.eq (g2 := F0 m 27 ls [.int (nI 0)]) rfl ?_
    refine zf_eq (tgt := 32) hx hb dX2_cosine_27 (by decide) (by omega) (fun c4 => ?_) (fun c4 => ?_)
    ·
      refine lv_iload_n hx hb dX2_cosine_32 rfl (lv_at hl 0 rfl) ?_
      refine lv_bipush (v := nI 8) hx hb dX2_cosine_33 (by decide +kernel) ?_
      refine zi_gt (tgt := 46) hx hb dX2_cosine_35 (by decide) (by omega) (by omega) (fun c5 => ?_) (fun c5 => ?_)
      ·
        obtain ⟨tk, hZk, hTk⟩ := hAm.2.2.2
        refine va_gets hx hb hZk hS hown (hts (.fieldLink RX2 173 "CosineSeries" "COSINES" "[I") (by decide +kernel)) (fun _ h => h) dX2_cosine_46 ?_
        refine lv_bipush (v := nI 16) hx hb dX2_cosine_49 (by decide +kernel) ?_
        refine lv_iload_n hx hb dX2_cosine_51 rfl (lv_at hl 0 rfl) ?_
        refine zisub (d := (16 - (32 - (m0 % 32)))) hx hb (by omega) dX2_cosine_52 ?_
        refine va_ti (v := .int (zcos (16 - (32 - (m0 % 32))))) hx hb hTk hS (vp_in_nI (by omega) (by decide)) (by rw [nI_clamp (by omega)]) dX2_cosine_53 ?_
        refine lv_ineg hx hb dX2_cosine_54 ?_
        exact zretI hx hb hr hlk hS hP dX2_cosine_55 ⟨by unfold zcosv; rw [hh]; first | rw [if_pos (by omega)] | rw [if_neg (by omega)], rfl⟩
      ·
        obtain ⟨tk, hZk, hTk⟩ := hAm.2.2.2
        refine va_gets hx hb hZk hS hown (hts (.fieldLink RX2 173 "CosineSeries" "COSINES" "[I") (by decide +kernel)) (fun _ h => h) dX2_cosine_38 ?_
        refine lv_iload_n hx hb dX2_cosine_41 rfl (lv_at hl 0 rfl) ?_
        refine va_ti (v := .int (zcos (32 - (m0 % 32)))) hx hb hTk hS (vp_in_nI (by omega) (by decide)) (by rw [nI_clamp (by omega)]) dX2_cosine_42 ?_
        refine lv_goto (tgt := 55) hx hb dX2_cosine_43 (by decide) ?_
        exact zretI hx hb hr hlk hS hP dX2_cosine_55 ⟨by unfold zcosv; rw [hh]; first | rw [if_pos (by omega)] | rw [if_neg (by omega)], rfl⟩
    ·
      exfalso; omega

set_option maxHeartbeats 4000000 in
set_option maxRecDepth 100000 in
theorem kX2_pointAt (l : Launch) (D : va_G) (cL cI cR : ClassId) (A : Nat → Prop) (F : Nat → Nat) (n : Nat) (E : Nat → va_E) (p0 j0 : Nat) (hp : p0 ≤ 4) (hj : j0 ≤ 256) : zCt l yX2_pointAt wsX2_pointAt 2 44 D cL cI cR A F n E [.int (nI p0), .int (nI j0)] (fun v2 E2 => v2 = (some (.int (zcosv (j0 * 2 ^ (4 - p0))))) ∧ E2 = E) := by
  refine zStart (cc := cX2_pointAt) (maxL := 2) (ret := (some .int)) (by decide +kernel) rfl (Nat.le_of_ble_eq_true rfl) ?_
  intro p e s m below meth c hx hb hr hml hlk hown hts hAm H hP hS ls hl
  have hown : s.vm.findClass RX2 = some m.cls := hown
  have hl : lv_has ls 2 [(0, .int (nI p0)), (1, .int (nI j0))] := hl
  refine lv_iload_n hx hb dX2_pointAt_0 rfl (lv_at hl 1 rfl) ?_
  refine lv_iconst (v := nI 4) hx hb dX2_pointAt_1 (by decide +kernel) ?_
  refine lv_iload_n hx hb dX2_pointAt_2 rfl (lv_at hl 0 rfl) ?_
  refine zisub (d := (4 - p0)) hx hb (by omega) dX2_pointAt_3 ?_
  refine lv_ishl hx hb dX2_pointAt_4 ?_
  refine W.eq (g2 := F0 m 5 ls [.int (nI (j0 * 2 ^ (4 - p0)))]) (by rw [zshl hp (by omega)]) ?_
  refine zcallS (As := [.int (nI (j0 * 2 ^ (4 - p0)))]) (rest := []) (k := 1) hx hb hml hown hts (kX2_cosine l D cL cI cR A F n E (j0 * 2 ^ (4 - p0)) (by have := zj4 hj hp; omega)) gX2_pointAt_X2_cosine rfl (by decide +kernel) ⟨Nat.le_of_ble_eq_true rfl, Nat.le_of_ble_eq_true rfl⟩ hAm hP hS rfl hl.1 rfl (Nat.le_of_ble_eq_true rfl) dX2_pointAt_5 ⟨Nat.zero_le _, Nat.zero_le _⟩ (zkn (fun H locs hP hS => ?_))
  refine W.eq (g2 := F0 m 8 ls [.int (zcosv (j0 * 2 ^ (4 - p0)))]) rfl ?_
  exact zretI hx hb hr hlk hS hP dX2_pointAt_8 ⟨rfl, rfl⟩

set_option maxHeartbeats 4000000 in
set_option maxRecDepth 100000 in
theorem kX2_cosineSum (l : Launch) (D : va_G) (cL cI cR : ClassId) (A : Nat → Prop) (F : Nat → Nat) (hF : zq_F A F 30) (T : Nat → Nat → Int64) (top : Nat → Nat) (pv rt en : Nat → Int64) (w co lo : Nat) (p0 k0 : Nat) (hp : p0 ≤ 4) (hk : k0 ≤ 16) : zCt l yX2_cosineSum wsX2_cosineSum 3 65 D cL cI cR A F 30 (zCE cL cR F T top (pv, rt, en, w, co, lo)) [.ref (F 24), .int (nI p0), .int (nI k0)] (fun v2 E2 => v2 = (some (.long (zcs pv p0 k0 (2 ^ p0 + 1)))) ∧ E2 = (zCE cL cR F T top (pv, rt, en, w, co, lo))) := by
  refine zStart (cc := cX2_cosineSum) (maxL := 8) (ret := (some .long)) (by decide +kernel) rfl (Nat.le_of_ble_eq_true rfl) ?_
  intro p e s m below meth c hx hb hr hml hlk hown hts hAm H hP hS ls hl
  have hown : s.vm.findClass RX2 = some m.cls := hown
  have hl : lv_has ls 8 [(0, .ref (F 24)), (1, .int (nI p0)), (2, .int (nI k0))] := hl
  have hinX2 : ∀ w ∈ u_ws RX2 TX2 7, w ∈ wsX2_cosineSum := by decide +kernel
  have h2p := zp2 hp
  refine lv_iconst (v := nI 1) hx hb dX2_cosineSum_0 (by decide +kernel) ?_
  refine lv_iload_n hx hb dX2_cosineSum_1 rfl (lv_at hl 1 rfl) ?_
  refine lv_ishl hx hb dX2_cosineSum_2 ?_
  refine W.eq (g2 := F0 m 3 ls [.int (nI (2 ^ p0))]) (by rw [zsh1 hp]) ?_
  refine lv_istore_n (lv' := [(3, .int (nI (2 ^ p0))), (0, .ref (F 24)), (1, .int (nI p0)), (2, .int (nI k0))]) hx hb dX2_cosineSum_3 rfl hl (by decide) rfl (fun ls hl => ?_)
  refine lv_lconst (v := (0 : Int64)) hx hb dX2_cosineSum_4 (by decide +kernel) ?_
  refine lv_lstore (lv' := [(4, .long (0 : Int64)), (3, .int (nI (2 ^ p0))), (0, .ref (F 24)), (1, .int (nI p0)), (2, .int (nI k0))]) hx hb dX2_cosineSum_5 hl (by decide) rfl (fun ls hl => ?_)
  refine lv_iconst (v := nI 0) hx hb dX2_cosineSum_7 (by decide +kernel) ?_
  refine lv_istore (lv' := [(6, .int (nI 0)), (4, .long (0 : Int64)), (3, .int (nI (2 ^ p0))), (0, .ref (F 24)), (1, .int (nI p0)), (2, .int (nI k0))]) hx hb dX2_cosineSum_8 hl (by decide) rfl (fun ls hl => ?_)
  have L10 : ∀ (n : Nat) (q : Nat) (u : Int64) (hq : q ≤ 2 ^ p0 + 1) (hu : u = zcs pv p0 k0 q) (hn : 2 ^ p0 + 1 - q < n) (H : Heap) (locs : List Loc), va_P D vwCl (zq_wd F 30 (zCE cL cR F T top (pv, rt, en, w, co, lo))) H → va_S A s.heap H locs → ∀ (ls : Array Slot), lv_has ls 8 [(0, .ref (F 24)), (1, .int (nI p0)), (2, .int (nI k0)), (3, .int (nI (2 ^ p0))), (4, .long u), (6, .int (nI q))] → W p l e ({ frames := 3, cells := 0, slots := 0, locals := 65 }) s m ([.ref (F 24), .int (nI p0), .int (nI k0)] : List Value).toArray below meth c H locs 0 0 (zQ below D A F 30 [.ref (F 24), .int (nI p0), .int (nI k0)] s (fun v2 E2 => v2 = (some (.long (zcs pv p0 k0 (2 ^ p0 + 1)))) ∧ E2 = (zCE cL cR F T top (pv, rt, en, w, co, lo)))) (F0 m 10 ls []) := by
    intro n
    induction n with
    | zero =>
      intro q u hq hu hn
      exact absurd hn (Nat.not_lt_zero _)
    | succ n ih10 =>
      intro q u hq hu hn H locs hP hS ls hl
      refine lv_iload hx hb dX2_cosineSum_10 (lv_at hl 5 rfl) ?_
      refine lv_iload_n hx hb dX2_cosineSum_12 rfl (lv_at hl 3 rfl) ?_
      refine zi_gt (tgt := 76) hx hb dX2_cosineSum_13 (by decide) (by omega) (by omega) (fun c1 => ?_) (fun c1 => ?_)
      ·
        refine lv_lload hx hb dX2_cosineSum_76 (lv_at hl 4 rfl) ?_
        exact zretL hx hb hr hlk hS hP dX2_cosineSum_78 ⟨by rw [hu, show q = 2 ^ p0 + 1 by omega], rfl⟩
      ·
        have hqk := zjk (j := q) (k := k0) (by omega) hk
        refine lv_iload hx hb dX2_cosineSum_16 (lv_at hl 5 rfl) ?_
        refine lv_aload_n hx hb dX2_cosineSum_18 rfl (lv_at hl 0 rfl) ?_
        refine zget (q := 24) (k := 1) (v := .ref (F 26)) hx hb hts hinX2 hown hAm hP (by omega) (zC_o) rfl (by decide) (hts (.fieldLink RX2 15 "CosineSeries" "pointValues" "[J") (by decide +kernel)) (by first | rfl | simp [va_up, *]) dX2_cosineSum_19 ?_
        refine zalen (N := 17) (q := 26) (t0 := 0) hx hb hAm hP (by omega) (zC_pv) rfl rfl dX2_cosineSum_22 ?_
        refine zi_ge (tgt := 76) hx hb dX2_cosineSum_23 (by decide) (by omega) (by omega) (fun c2 => ?_) (fun c2 => ?_)
        ·
          exfalso; omega
        ·
          refine lv_iload hx hb dX2_cosineSum_26 (lv_at hl 5 rfl) ?_
          refine zf_eq (tgt := 37) hx hb dX2_cosineSum_28 (by decide) (by omega) (fun c3 => ?_) (fun c3 => ?_)
          ·
            refine lv_iconst (v := nI 1) hx hb dX2_cosineSum_37 (by decide +kernel) ?_
            refine lv_goto (tgt := 42) hx hb dX2_cosineSum_38 (by decide) ?_
            refine lv_istore (lv' := [(7, .int (nI 1)), (0, .ref (F 24)), (1, .int (nI p0)), (2, .int (nI k0)), (3, .int (nI (2 ^ p0))), (4, .long u), (6, .int (nI q))]) hx hb dX2_cosineSum_42 hl (by decide) rfl (fun ls hl => ?_)
            refine lv_lload hx hb dX2_cosineSum_44 (lv_at hl 5 rfl) ?_
            refine lv_iload hx hb dX2_cosineSum_46 (lv_at hl 0 rfl) ?_
            refine zi2l hx hb (by omega) dX2_cosineSum_48 ?_
            refine lv_aload_n hx hb dX2_cosineSum_49 rfl (lv_at hl 1 rfl) ?_
            refine zget (q := 24) (k := 1) (v := .ref (F 26)) hx hb hts hinX2 hown hAm hP (by omega) (zC_o) rfl (by decide) (hts (.fieldLink RX2 15 "CosineSeries" "pointValues" "[J") (by decide +kernel)) (by first | rfl | simp [va_up, *]) dX2_cosineSum_50 ?_
            refine lv_iload hx hb dX2_cosineSum_53 (lv_at hl 6 rfl) ?_
            refine zlald (q := 26) (k := q) (v := (pv q)) hx hb hAm hP (by omega) (zC_pv) (by omega) (by decide) (by first | rfl | simp [va_up, *]) dX2_cosineSum_55 ?_
            refine lv_lmul hx hb dX2_cosineSum_56 ?_
            refine lv_iload_n hx hb dX2_cosineSum_57 rfl (lv_at hl 2 rfl) ?_
            refine lv_iload hx hb dX2_cosineSum_58 (lv_at hl 6 rfl) ?_
            refine lv_iload_n hx hb dX2_cosineSum_60 rfl (lv_at hl 3 rfl) ?_
            refine zimul (d := (q * k0)) hx hb rfl dX2_cosineSum_61 ?_
            refine zcallS (As := [.int (nI p0), .int (nI (q * k0))]) (rest := [.long ((lN 1) * (pv q)), .long u]) (k := 2) hx hb hml hown hts (kX2_pointAt l D cL cI cR A F 30 (zCE cL cR F T top (pv, rt, en, w, co, lo)) p0 (q * k0) hp (by omega)) gX2_cosineSum_X2_pointAt rfl (by decide +kernel) ⟨Nat.le_of_ble_eq_true rfl, Nat.le_of_ble_eq_true rfl⟩ hAm hP hS rfl hl.1 rfl (Nat.le_of_ble_eq_true rfl) dX2_cosineSum_62 ⟨Nat.zero_le _, Nat.zero_le _⟩ (zkn (fun H locs hP hS => ?_))
            refine W.eq (g2 := F0 m 65 ls [.int (zcosv (q * k0 * 2 ^ (4 - p0))), .long ((lN 1) * (pv q)), .long u]) rfl ?_
            refine lv_i2l (v := (zcosv (q * k0 * 2 ^ (4 - p0))).toInt64) hx hb dX2_cosineSum_65 rfl ?_
            refine lv_lmul hx hb dX2_cosineSum_66 ?_
            refine lv_ladd hx hb dX2_cosineSum_67 ?_
            refine lv_lstore (lv' := [(4, .long (u + (((lN 1) * (pv q)) * ((zcosv (q * k0 * 2 ^ (4 - p0))).toInt64)))), (7, .int (nI 1)), (0, .ref (F 24)), (1, .int (nI p0)), (2, .int (nI k0)), (3, .int (nI (2 ^ p0))), (6, .int (nI q))]) hx hb dX2_cosineSum_68 hl (by decide) rfl (fun ls hl => ?_)
            refine lv_iinc (v := (nI (q + 1))) (lv' := [(6, .int (nI (q + 1))), (4, .long (u + (((lN 1) * (pv q)) * ((zcosv (q * k0 * 2 ^ (4 - p0))).toInt64)))), (7, .int (nI 1)), (0, .ref (F 24)), (1, .int (nI p0)), (2, .int (nI k0)), (3, .int (nI (2 ^ p0)))]) hx hb dX2_cosineSum_70 hl (k := 6) rfl (zinc (by omega)) (by decide) rfl (fun ls hl => ?_)
            refine lv_goto (tgt := 10) hx hb dX2_cosineSum_73 (by decide) ?_
            exact ih10 (q + 1) (u + (((lN 1) * (pv q)) * ((zcosv (q * k0 * 2 ^ (4 - p0))).toInt64))) (by omega) (by rw [hu]; simp only [zcs]; (first | rw [if_pos (by omega)] | rw [if_neg (by omega)]) <;> rfl) (by omega) H _ hP hS ls (lv_sub hl [3, 4, 5, 6, 1, 0] rfl)
          ·
            refine lv_iload hx hb dX2_cosineSum_31 (lv_at hl 5 rfl) ?_
            refine lv_iload_n hx hb dX2_cosineSum_33 rfl (lv_at hl 3 rfl) ?_
            refine zi_ne (tgt := 41) hx hb dX2_cosineSum_34 (by decide) (by omega) (by omega) (fun c4 => ?_) (fun c4 => ?_)
            ·
              refine lv_iconst (v := nI 2) hx hb dX2_cosineSum_41 (by decide +kernel) ?_
              refine lv_istore (lv' := [(7, .int (nI 2)), (0, .ref (F 24)), (1, .int (nI p0)), (2, .int (nI k0)), (3, .int (nI (2 ^ p0))), (4, .long u), (6, .int (nI q))]) hx hb dX2_cosineSum_42 hl (by decide) rfl (fun ls hl => ?_)
              refine lv_lload hx hb dX2_cosineSum_44 (lv_at hl 5 rfl) ?_
              refine lv_iload hx hb dX2_cosineSum_46 (lv_at hl 0 rfl) ?_
              refine zi2l hx hb (by omega) dX2_cosineSum_48 ?_
              refine lv_aload_n hx hb dX2_cosineSum_49 rfl (lv_at hl 1 rfl) ?_
              refine zget (q := 24) (k := 1) (v := .ref (F 26)) hx hb hts hinX2 hown hAm hP (by omega) (zC_o) rfl (by decide) (hts (.fieldLink RX2 15 "CosineSeries" "pointValues" "[J") (by decide +kernel)) (by first | rfl | simp [va_up, *]) dX2_cosineSum_50 ?_
              refine lv_iload hx hb dX2_cosineSum_53 (lv_at hl 6 rfl) ?_
              refine zlald (q := 26) (k := q) (v := (pv q)) hx hb hAm hP (by omega) (zC_pv) (by omega) (by decide) (by first | rfl | simp [va_up, *]) dX2_cosineSum_55 ?_
              refine lv_lmul hx hb dX2_cosineSum_56 ?_
              refine lv_iload_n hx hb dX2_cosineSum_57 rfl (lv_at hl 2 rfl) ?_
              refine lv_iload hx hb dX2_cosineSum_58 (lv_at hl 6 rfl) ?_
              refine lv_iload_n hx hb dX2_cosineSum_60 rfl (lv_at hl 3 rfl) ?_
              refine zimul (d := (q * k0)) hx hb rfl dX2_cosineSum_61 ?_
              refine zcallS (As := [.int (nI p0), .int (nI (q * k0))]) (rest := [.long ((lN 2) * (pv q)), .long u]) (k := 2) hx hb hml hown hts (kX2_pointAt l D cL cI cR A F 30 (zCE cL cR F T top (pv, rt, en, w, co, lo)) p0 (q * k0) hp (by omega)) gX2_cosineSum_X2_pointAt rfl (by decide +kernel) ⟨Nat.le_of_ble_eq_true rfl, Nat.le_of_ble_eq_true rfl⟩ hAm hP hS rfl hl.1 rfl (Nat.le_of_ble_eq_true rfl) dX2_cosineSum_62 ⟨Nat.zero_le _, Nat.zero_le _⟩ (zkn (fun H locs hP hS => ?_))
              refine W.eq (g2 := F0 m 65 ls [.int (zcosv (q * k0 * 2 ^ (4 - p0))), .long ((lN 2) * (pv q)), .long u]) rfl ?_
              refine lv_i2l (v := (zcosv (q * k0 * 2 ^ (4 - p0))).toInt64) hx hb dX2_cosineSum_65 rfl ?_
              refine lv_lmul hx hb dX2_cosineSum_66 ?_
              refine lv_ladd hx hb dX2_cosineSum_67 ?_
              refine lv_lstore (lv' := [(4, .long (u + (((lN 2) * (pv q)) * ((zcosv (q * k0 * 2 ^ (4 - p0))).toInt64)))), (7, .int (nI 2)), (0, .ref (F 24)), (1, .int (nI p0)), (2, .int (nI k0)), (3, .int (nI (2 ^ p0))), (6, .int (nI q))]) hx hb dX2_cosineSum_68 hl (by decide) rfl (fun ls hl => ?_)
              refine lv_iinc (v := (nI (q + 1))) (lv' := [(6, .int (nI (q + 1))), (4, .long (u + (((lN 2) * (pv q)) * ((zcosv (q * k0 * 2 ^ (4 - p0))).toInt64)))), (7, .int (nI 2)), (0, .ref (F 24)), (1, .int (nI p0)), (2, .int (nI k0)), (3, .int (nI (2 ^ p0)))]) hx hb dX2_cosineSum_70 hl (k := 6) rfl (zinc (by omega)) (by decide) rfl (fun ls hl => ?_)
              refine lv_goto (tgt := 10) hx hb dX2_cosineSum_73 (by decide) ?_
              exact ih10 (q + 1) (u + (((lN 2) * (pv q)) * ((zcosv (q * k0 * 2 ^ (4 - p0))).toInt64))) (by omega) (by rw [hu]; simp only [zcs]; (first | rw [if_pos (by omega)] | rw [if_neg (by omega)]) <;> rfl) (by omega) H _ hP hS ls (lv_sub hl [3, 4, 5, 6, 1, 0] rfl)
            ·
              refine lv_iconst (v := nI 1) hx hb dX2_cosineSum_37 (by decide +kernel) ?_
              refine lv_goto (tgt := 42) hx hb dX2_cosineSum_38 (by decide) ?_
              refine lv_istore (lv' := [(7, .int (nI 1)), (0, .ref (F 24)), (1, .int (nI p0)), (2, .int (nI k0)), (3, .int (nI (2 ^ p0))), (4, .long u), (6, .int (nI q))]) hx hb dX2_cosineSum_42 hl (by decide) rfl (fun ls hl => ?_)
              refine lv_lload hx hb dX2_cosineSum_44 (lv_at hl 5 rfl) ?_
              refine lv_iload hx hb dX2_cosineSum_46 (lv_at hl 0 rfl) ?_
              refine zi2l hx hb (by omega) dX2_cosineSum_48 ?_
              refine lv_aload_n hx hb dX2_cosineSum_49 rfl (lv_at hl 1 rfl) ?_
              refine zget (q := 24) (k := 1) (v := .ref (F 26)) hx hb hts hinX2 hown hAm hP (by omega) (zC_o) rfl (by decide) (hts (.fieldLink RX2 15 "CosineSeries" "pointValues" "[J") (by decide +kernel)) (by first | rfl | simp [va_up, *]) dX2_cosineSum_50 ?_
              refine lv_iload hx hb dX2_cosineSum_53 (lv_at hl 6 rfl) ?_
              refine zlald (q := 26) (k := q) (v := (pv q)) hx hb hAm hP (by omega) (zC_pv) (by omega) (by decide) (by first | rfl | simp [va_up, *]) dX2_cosineSum_55 ?_
              refine lv_lmul hx hb dX2_cosineSum_56 ?_
              refine lv_iload_n hx hb dX2_cosineSum_57 rfl (lv_at hl 2 rfl) ?_
              refine lv_iload hx hb dX2_cosineSum_58 (lv_at hl 6 rfl) ?_
              refine lv_iload_n hx hb dX2_cosineSum_60 rfl (lv_at hl 3 rfl) ?_
              refine zimul (d := (q * k0)) hx hb rfl dX2_cosineSum_61 ?_
              refine zcallS (As := [.int (nI p0), .int (nI (q * k0))]) (rest := [.long ((lN 1) * (pv q)), .long u]) (k := 2) hx hb hml hown hts (kX2_pointAt l D cL cI cR A F 30 (zCE cL cR F T top (pv, rt, en, w, co, lo)) p0 (q * k0) hp (by omega)) gX2_cosineSum_X2_pointAt rfl (by decide +kernel) ⟨Nat.le_of_ble_eq_true rfl, Nat.le_of_ble_eq_true rfl⟩ hAm hP hS rfl hl.1 rfl (Nat.le_of_ble_eq_true rfl) dX2_cosineSum_62 ⟨Nat.zero_le _, Nat.zero_le _⟩ (zkn (fun H locs hP hS => ?_))
              refine W.eq (g2 := F0 m 65 ls [.int (zcosv (q * k0 * 2 ^ (4 - p0))), .long ((lN 1) * (pv q)), .long u]) rfl ?_
              refine lv_i2l (v := (zcosv (q * k0 * 2 ^ (4 - p0))).toInt64) hx hb dX2_cosineSum_65 rfl ?_
              refine lv_lmul hx hb dX2_cosineSum_66 ?_
              refine lv_ladd hx hb dX2_cosineSum_67 ?_
              refine lv_lstore (lv' := [(4, .long (u + (((lN 1) * (pv q)) * ((zcosv (q * k0 * 2 ^ (4 - p0))).toInt64)))), (7, .int (nI 1)), (0, .ref (F 24)), (1, .int (nI p0)), (2, .int (nI k0)), (3, .int (nI (2 ^ p0))), (6, .int (nI q))]) hx hb dX2_cosineSum_68 hl (by decide) rfl (fun ls hl => ?_)
              refine lv_iinc (v := (nI (q + 1))) (lv' := [(6, .int (nI (q + 1))), (4, .long (u + (((lN 1) * (pv q)) * ((zcosv (q * k0 * 2 ^ (4 - p0))).toInt64)))), (7, .int (nI 1)), (0, .ref (F 24)), (1, .int (nI p0)), (2, .int (nI k0)), (3, .int (nI (2 ^ p0)))]) hx hb dX2_cosineSum_70 hl (k := 6) rfl (zinc (by omega)) (by decide) rfl (fun ls hl => ?_)
              refine lv_goto (tgt := 10) hx hb dX2_cosineSum_73 (by decide) ?_
              exact ih10 (q + 1) (u + (((lN 1) * (pv q)) * ((zcosv (q * k0 * 2 ^ (4 - p0))).toInt64))) (by omega) (by rw [hu]; simp only [zcs]; (first | rw [if_pos (by omega)] | rw [if_neg (by omega)]) <;> rfl) (by omega) H _ hP hS ls (lv_sub hl [3, 4, 5, 6, 1, 0] rfl)
  exact L10 _ 0 0 (by omega) rfl (Nat.lt_succ_self _) H _ hP hS ls (lv_sub hl [3, 4, 5, 2, 1, 0] rfl)

set_option maxHeartbeats 4000000 in
set_option maxRecDepth 100000 in
theorem kX2_keepMade (l : Launch) (D : va_G) (cL cI cR : ClassId) (A : Nat → Prop) (F : Nat → Nat) (hF : zq_F A F 30) (T : Nat → Nat → Int64) (top : Nat → Nat) (Z : zZC) (t : Nat) (ht : t < 8) (f : Nat → Int64) (hf : T 8 = f) (hn : top 8 = ztop f 48) (T2 : Nat → Nat → Int64) (top2 : Nat → Nat) (hT2 : T2 = zkP T t f) (hp2 : top2 = zkN top t f) : zCt l yX2_keepMade wsX2_keepMade 2 43 D cL cI cR A F 30 (zCE cL cR F T top Z) [.ref (F 24), .ref (F t)] (fun v2 E2 => v2 = (some (.long (zkr f))) ∧ E2 = (zCE cL cR F T2 top2 Z)) := by
  refine zStart (cc := cX2_keepMade) (maxL := 4) (ret := (some .long)) (by decide +kernel) rfl (Nat.le_of_ble_eq_true rfl) ?_
  intro p e s m below meth c hx hb hr hml hlk hown hts hAm H hP hS ls hl
  have hown : s.vm.findClass RX2 = some m.cls := hown
  have hl : lv_has ls 4 [(0, .ref (F 24)), (1, .ref (F t))] := hl
  have hinX2 : ∀ w ∈ u_ws RX2 TX2 7, w ∈ wsX2_keepMade := by decide +kernel
  have h48 := ztop_le f 48
  refine lv_aload_n hx hb dX2_keepMade_0 rfl (lv_at hl 0 rfl) ?_
  refine zget (q := 24) (k := 3) (v := .ref (F 8)) hx hb hts hinX2 hown hAm hP (by omega) (zC_o) rfl (by decide) (hts (.fieldLink RX2 27 "CosineSeries" "made" "LCosineSeries$Series;") (by decide +kernel)) (by first | rfl | simp [va_up, *]) dX2_keepMade_1 ?_
  refine zcallV (As := []) (rest := []) (q := 8) (k := 0) hx hb hml hown hts (kX1_error l D cL cI cR A F hF T top Z 8 (by omega) f hf (ztop f 48) hn (by omega)) gX2_keepMade_X1_error rfl (by decide +kernel) ⟨Nat.le_of_ble_eq_true rfl, Nat.le_of_ble_eq_true rfl⟩ rfl (by omega) (zC_s (by omega)) rfl rfl hAm hP hS rfl hl.1 rfl (Nat.le_of_ble_eq_true rfl) dX2_keepMade_4 ⟨Nat.zero_le _, Nat.zero_le _⟩ (zkn (fun H locs hP hS => ?_))
  refine W.eq (g2 := F0 m 7 ls [.long (zke f)]) rfl ?_
  refine lv_lstore_n (lv' := [(2, .long (zke f)), (0, .ref (F 24)), (1, .ref (F t))]) hx hb dX2_keepMade_7 rfl hl (by decide) rfl (fun ls hl => ?_)
  refine lv_lload_n hx hb dX2_keepMade_8 rfl (lv_at hl 0 rfl) ?_
  refine lv_lconst (v := (0 : Int64)) hx hb dX2_keepMade_9 (by decide +kernel) ?_
  refine zl_eq (tgt := 16) hx hb dX2_keepMade_10 dX2_keepMade_11 (by decide) (fun c1 => ?_) (fun c1 => ?_)
  ·
    refine lv_aload_n hx hb dX2_keepMade_16 rfl (lv_at hl 2 rfl) ?_
    refine lv_aload_n hx hb dX2_keepMade_17 rfl (lv_at hl 1 rfl) ?_
    refine zget (q := 24) (k := 3) (v := .ref (F 8)) hx hb hts hinX2 hown hAm hP (by omega) (zC_o) rfl (by decide) (hts (.fieldLink RX2 27 "CosineSeries" "made" "LCosineSeries$Series;") (by decide +kernel)) (by first | rfl | simp [va_up, *]) dX2_keepMade_18 ?_
    refine zcallV (As := [.ref (F 8)]) (rest := []) (q := t) (k := 1) hx hb hml hown hts (kX1_take l D cL cI cR A F hF T top Z t (by omega) 8 (by omega) (T 8) rfl (top 8) rfl) gX2_keepMade_X1_take rfl (by decide +kernel) ⟨Nat.le_of_ble_eq_true rfl, Nat.le_of_ble_eq_true rfl⟩ rfl (by omega) (zC_s (by omega)) rfl rfl hAm hP hS rfl hl.1 rfl (Nat.le_of_ble_eq_true rfl) dX2_keepMade_21 ⟨Nat.zero_le _, Nat.zero_le _⟩ (zkn (fun H locs hP hS => ?_))
    refine W.eq (g2 := F0 m 24 ls []) rfl ?_
    refine lv_aload_n hx hb dX2_keepMade_24 rfl (lv_at hl 2 rfl) ?_
    have h24 := zke_24 c1
    refine zcallV (As := []) (rest := []) (q := t) (k := 0) hx hb hml hown hts (kX1_top l D cL cI cR A F hF (va_up T t (T 8)) (va_up top t (top 8)) Z t (by omega) (top 8) (va_up_eq _ _ _)) gX2_keepMade_X1_top rfl (by decide +kernel) ⟨Nat.le_of_ble_eq_true rfl, Nat.le_of_ble_eq_true rfl⟩ rfl (by omega) (zC_s (by omega)) rfl rfl hAm hP hS rfl hl.1 rfl (Nat.le_of_ble_eq_true rfl) dX2_keepMade_25 ⟨Nat.zero_le _, Nat.zero_le _⟩ (zkn (fun H locs hP hS => ?_))
    refine W.eq (g2 := F0 m 28 ls [.int (nI (top 8))]) rfl ?_
    have h8n : top 8 ≤ 48 := by omega
    refine zi2l hx hb (by omega) dX2_keepMade_28 ?_
    exact zretL hx hb hr hlk hS hP dX2_keepMade_29 ⟨by unfold zkr; rw [if_pos c1, hn], by rw [hT2, hp2]; unfold zkP zkN; rw [if_pos c1, if_pos c1, hf, hn]⟩
  ·
    refine lv_lload_n hx hb dX2_keepMade_14 rfl (lv_at hl 0 rfl) ?_
    exact zretL hx hb hr hlk hS hP dX2_keepMade_15 ⟨by unfold zkr; rw [if_neg c1], by rw [hT2, hp2]; unfold zkP zkN; rw [if_neg c1, if_neg c1]⟩
