/-! RootSearch -/
def zstp (c : Nat → Int64) : Nat → Int64
  | 0 => 0
  | m + 1 => zstp c m + lN ((m + 1) * (m + 1)) * zabs (c (m + 1))
/-- is the interval from a to b free of roots -/
def zfr (c : Nat → Int64) (n : Nat) (a b : Int64) : Bool := decide (zR (zstp c n * zmax (b - zfl (a + b) 2) (zfl (a + b) 2 - a)) 1048576 + 8 * lN (n + 1) < zabs (zval c n (zfl (a + b) 2)))
def znear (fs : List Int64) (a : Int64) : Bool := match fs with
  | [] => false
  | r :: _ => decide (a - 16 ≤ r)
/-- the search: the intervals still to be looked at, the roots (the latest first), how many were looked at -/
def zsea (fr : Int64 → Int64 → Bool) : Nat → List (Int64 × Int64) → List Int64 → Nat → List Int64 × Nat
  | 0, _, fs, lo => (fs, lo)
  | _ + 1, [], fs, lo => (fs, lo)
  | u + 1, (a, b) :: l, fs, lo =>
    if fs.length < 24 ∧ lo < 2000 then
      if fr a b = true then zsea fr u l fs (lo + 1)
      else if 16 < b - a then zsea fr u ((a, zfl (a + b) 2) :: (zfl (a + b) 2, b) :: l) fs (lo + 1)
      else if znear fs a = true then zsea fr u l fs (lo + 1) else zsea fr u l (zfl (a + b) 2 :: fs) (lo + 1)
    else (fs, lo)
def zroots (c : Nat → Int64) (n : Nat) : List Int64 × Nat := zsea (zfr c n) 2001 [(-1048576, 1048576)] [] 0
/-- the roots lie in a row -/
def zrts (rt : Nat → Int64) : List Int64 → Prop
  | [] => True
  | x :: l => rt l.length = x ∧ zrts rt l
theorem zrts_up {rt : Nat → Int64} {k : Nat} {x : Int64} : ∀ (l : List Int64), l.length ≤ k → zrts rt l → zrts (vp_updL rt k x) l := by
  intro l
  induction l with
  | nil => intro _ _; trivial
  | cons y l ih =>
    intro h1 h2
    rw [List.length_cons] at h1
    refine ⟨?_, ih (by omega) h2.2⟩
    unfold vp_updL
    rw [if_neg (by omega)]
    exact h2.1
/-- the class' way to hold the intervals: each begins where the one before it ends -/
def zadj (en : Nat → Int64) : Nat → Int64 → List (Int64 × Int64)
  | 0, _ => []
  | k + 1, a => (a, en k) :: zadj en k (en k)
theorem zadj_len (en : Nat → Int64) : ∀ (k : Nat) (a : Int64), (zadj en k a).length = k := by
  intro k
  induction k with
  | zero => intro a; rfl
  | succ k ih => intro a; unfold zadj; rw [List.length_cons, ih]
theorem zadj_up (en : Nat → Int64) (j : Nat) (x : Int64) : ∀ (k : Nat) (a : Int64), k ≤ j → zadj (vp_updL en j x) k a = zadj en k a := by
  intro k
  induction k with
  | zero => intro a _; rfl
  | succ k ih =>
    intro a h
    have e : vp_updL en j x k = en k := by unfold vp_updL; rw [if_neg (by omega)]
    unfold zadj
    rw [e, ih _ (by omega)]
/-- intervals within the whole, narrower the higher they lie -/
def zok : List (Int64 × Int64) → Prop
  | [] => True
  | (a, b) :: l => (-1048576 ≤ a.toInt ∧ a.toInt ≤ b.toInt ∧ b.toInt ≤ 1048576) ∧ b.toInt - a.toInt ≤ 2 ^ (21 - l.length) ∧ l.length ≤ 17 ∧ zok l
theorem zfl_int {v d : Int64} (hd : 0 < d) : (zfl v d).toInt = v.toInt / d.toInt := by
  have hd' : 0 < d.toInt := by
    rw [Int64.lt_iff_toInt_lt] at hd
    exact hd
  have hv1 := Int64.le_toInt v
  have hv2 := Int64.toInt_lt v
  have h := zint_tdiv v.toInt d.toInt hd'
  have e1 : (v / d).toInt = v.toInt.tdiv d.toInt := by
    rw [Int64.toInt_div]
    apply Int.bmod_eq_of_le <;> omega
  have e2 := zdiv_int (v := v) hd
  unfold zfl
  have hsg : d.toInt.sign = 1 := Int.sign_eq_one_of_pos hd'
  have e3 := Int.tdiv_eq_ediv (a := v.toInt) (b := d.toInt)
  by_cases hc : v < v / d * d
  · rw [if_pos hc]
    rw [Int64.lt_iff_toInt_lt, e2] at hc
    have hneg : v.toInt < 0 := by omega
    have hnd : ¬ (0 ≤ v.toInt ∨ d.toInt ∣ v.toInt) := by
      rintro (q | q)
      · omega
      · rw [Int.tdiv_mul_cancel q] at hc; omega
    rw [if_neg hnd, hsg] at e3
    rw [Int64.toInt_sub, e1]
    have h1 : (1 : Int64).toInt = 1 := rfl
    rw [h1, show v.toInt / d.toInt = v.toInt.tdiv d.toInt - 1 by omega]
    have hq : v.toInt.tdiv d.toInt ≤ 0 := (h.2 hneg).2.1
    have hq3 := (h.2 hneg).1
    have hq2 : v.toInt ≠ v.toInt.tdiv d.toInt ∨ v.toInt.tdiv d.toInt - 1 ≥ -9223372036854775808 := by
      rcases Int.lt_or_le (-9223372036854775808) (v.toInt.tdiv d.toInt) with q | q
      · exact Or.inr (by omega)
      · refine Or.inl (fun q2 => ?_)
        have hmin : v.toInt = -9223372036854775808 := by omega
        have hx : v.toInt.tdiv d.toInt * d.toInt ≤ v.toInt.tdiv d.toInt * 1 := Int.mul_le_mul_of_nonpos_left (by omega) (by omega)
        omega
    apply Int.bmod_eq_of_le
    · rcases hq2 with q | q
      · omega
      · omega
    · omega
  · rw [if_neg hc, e1]
    rw [Int64.lt_iff_toInt_lt, e2] at hc
    rw [e3, if_pos]
    · omega
    · rcases Int.lt_or_le v.toInt 0 with q | q
      · have := (h.2 q).2.2.1
        exact Or.inr ⟨v.toInt.tdiv d.toInt, by rw [Int.mul_comm]; omega⟩
      · exact Or.inl q
theorem zok_mid {a b : Int64} (h1 : -1048576 ≤ a.toInt) (h2 : a.toInt ≤ b.toInt) (h3 : b.toInt ≤ 1048576) : (zfl (a + b) 2).toInt = (a.toInt + b.toInt) / 2 ∧ (b - a).toInt = b.toInt - a.toInt := by
  have h4 : (2 : Int64).toInt = 2 := rfl
  rw [zfl_int (by decide), h4, Int64.toInt_add, Int64.toInt_sub]
  constructor
  · congr 1
    apply Int.bmod_eq_of_le <;> omega
  · apply Int.bmod_eq_of_le <;> omega
theorem zok_split {a b : Int64} {l : List (Int64 × Int64)} (h : zok ((a, b) :: l)) (hw : 16 < b - a) : zok ((a, zfl (a + b) 2) :: (zfl (a + b) 2, b) :: l) ∧ l.length < 17 := by
  obtain ⟨⟨h1, h2, h3⟩, h4, h5, h6⟩ := h
  obtain ⟨e1, e2⟩ := zok_mid h1 h2 h3
  rw [Int64.lt_iff_toInt_lt, e2] at hw
  have h16 : (16 : Int64).toInt = 16 := rfl
  rw [h16] at hw
  have hl : l.length < 17 := by
    rcases Nat.lt_or_ge l.length 17 with q | q
    · exact q
    · have : l.length = 17 := by omega
      rw [this] at h4
      have e : (2 : Int) ^ (21 - 17) = 16 := rfl
      rw [e] at h4
      omega
  have hp : (2 : Int) ^ (21 - l.length) = 2 ^ (21 - (l.length + 1)) * 2 := by
    rw [show 21 - l.length = 21 - (l.length + 1) + 1 by omega, Int.pow_succ]
  have hp2 : (0 : Int) < 2 ^ (21 - (l.length + 1)) := Int.pow_pos (by decide)
  refine ⟨⟨⟨h1, by omega, by omega⟩, ?_, ?_, ⟨⟨by omega, by omega, h3⟩, ?_, by omega, h6⟩⟩, hl⟩
  · rw [List.length_cons, e1]; omega
  · rw [List.length_cons]; omega
  · rw [e1, hp]; omega
theorem zok_0 : zok [(-1048576, 1048576)] := by
  refine ⟨⟨by decide, by decide, by decide⟩, by decide, by decide, trivial⟩
theorem zsq {m : Nat} (h : m ≤ 48) : (m + 1) * (m + 1) < 2147483648 := by
  have := Nat.mul_le_mul (show m + 1 ≤ 49 by omega) (show m + 1 ≤ 49 by omega)
  omega

set_option maxHeartbeats 4000000 in
set_option maxRecDepth 100000 in
theorem kX0_count (l : Launch) (D : va_G) (cL cI cR : ClassId) (A : Nat → Prop) (F : Nat → Nat) (hF : zq_F A F 30) (T : Nat → Nat → Int64) (top : Nat → Nat) (pv rt en : Nat → Int64) (w co lo : Nat) : zCt l yX0_count wsX0_count 0 0 D cL cI cR A F 30 (zCE cL cR F T top (pv, rt, en, w, co, lo)) [.ref (F 27)] (fun v2 E2 => v2 = (some (.int (nI co))) ∧ E2 = (zCE cL cR F T top (pv, rt, en, w, co, lo))) := by
  refine zStart (cc := cX0_count) (maxL := 1) (ret := (some .int)) (by decide +kernel) rfl (Nat.le_of_ble_eq_true rfl) ?_
  intro p e s m below meth c hx hb hr hml hlk hown hts hAm H hP hS ls hl
  have hown : s.vm.findClass RX0 = some m.cls := hown
  have hl : lv_has ls 1 [(0, .ref (F 27))] := hl
  have hinX0 : ∀ w ∈ u_ws RX0 TX0 5, w ∈ wsX0_count := by decide +kernel
  refine lv_aload_n hx hb dX0_count_0 rfl (lv_at hl 0 rfl) ?_
  refine zget (q := 27) (k := 3) (v := .int (nI co)) hx hb hts hinX0 hown hAm hP (by omega) (zC_se) rfl (by decide) (hts (.fieldLink RX0 18 "CosineSeries$RootSearch" "count" "I") (by decide +kernel)) (by first | rfl | simp [va_up, *]) dX0_count_1 ?_
  exact zretI hx hb hr hlk hS hP dX0_count_4 ⟨rfl, rfl⟩

set_option maxHeartbeats 4000000 in
set_option maxRecDepth 100000 in
theorem kX0_found (l : Launch) (D : va_G) (cL cI cR : ClassId) (A : Nat → Prop) (F : Nat → Nat) (hF : zq_F A F 30) (T : Nat → Nat → Int64) (top : Nat → Nat) (pv rt en : Nat → Int64) (w co lo : Nat) (j : Nat) (hj : j < 24) : zCt l yX0_found wsX0_found 0 0 D cL cI cR A F 30 (zCE cL cR F T top (pv, rt, en, w, co, lo)) [.ref (F 27), .int (nI j)] (fun v2 E2 => v2 = (some (.long (rt j))) ∧ E2 = (zCE cL cR F T top (pv, rt, en, w, co, lo))) := by
  refine zStart (cc := cX0_found) (maxL := 2) (ret := (some .long)) (by decide +kernel) rfl (Nat.le_of_ble_eq_true rfl) ?_
  intro p e s m below meth c hx hb hr hml hlk hown hts hAm H hP hS ls hl
  have hown : s.vm.findClass RX0 = some m.cls := hown
  have hl : lv_has ls 2 [(0, .ref (F 27)), (1, .int (nI j))] := hl
  have hinX0 : ∀ w ∈ u_ws RX0 TX0 5, w ∈ wsX0_found := by decide +kernel
  refine lv_iload_n hx hb dX0_found_0 rfl (lv_at hl 1 rfl) ?_
  refine zf_lt (tgt := 22) hx hb dX0_found_1 (by decide) (by omega) ?_
  refine lv_iload_n hx hb dX0_found_4 rfl (lv_at hl 1 rfl) ?_
  refine lv_aload_n hx hb dX0_found_5 rfl (lv_at hl 0 rfl) ?_
  refine zget (q := 27) (k := 0) (v := .ref (F 28)) hx hb hts hinX0 hown hAm hP (by omega) (zC_se) rfl (by decide) (hts (.fieldLink RX0 11 "CosineSeries$RootSearch" "roots" "[J") (by decide +kernel)) (by first | rfl | simp [va_up, *]) dX0_found_6 ?_
  refine zalen (N := 24) (q := 28) (t0 := 0) hx hb hAm hP (by omega) (zC_rt) rfl rfl dX0_found_9 ?_
  refine zi_ge (tgt := 22) hx hb dX0_found_10 (by decide) (by omega) (by omega) (fun c1 => ?_) (fun c1 => ?_)
  ·
    exfalso; omega
  ·
    refine lv_aload_n hx hb dX0_found_13 rfl (lv_at hl 0 rfl) ?_
    refine zget (q := 27) (k := 0) (v := .ref (F 28)) hx hb hts hinX0 hown hAm hP (by omega) (zC_se) rfl (by decide) (hts (.fieldLink RX0 11 "CosineSeries$RootSearch" "roots" "[J") (by decide +kernel)) (by first | rfl | simp [va_up, *]) dX0_found_14 ?_
    refine lv_iload_n hx hb dX0_found_17 rfl (lv_at hl 1 rfl) ?_
    refine zlald (q := 28) (k := j) (v := (rt j)) hx hb hAm hP (by omega) (zC_rt) (by omega) (by decide) (by first | rfl | simp [va_up, *]) dX0_found_18 ?_
    refine lv_goto (tgt := 23) hx hb dX0_found_19 (by decide) ?_
    exact zretL hx hb hr hlk hS hP dX0_found_23 ⟨rfl, rfl⟩

set_option maxHeartbeats 4000000 in
set_option maxRecDepth 100000 in
theorem kX0_push (l : Launch) (D : va_G) (cL cI cR : ClassId) (A : Nat → Prop) (F : Nat → Nat) (hF : zq_F A F 30) (T : Nat → Nat → Int64) (top : Nat → Nat) (pv rt en : Nat → Int64) (w co lo : Nat) (hw : w < 32) (x : Int64) : zCt l yX0_push wsX0_push 0 0 D cL cI cR A F 30 (zCE cL cR F T top (pv, rt, en, w, co, lo)) [.ref (F 27), .long x] (fun v2 E2 => v2 = none ∧ E2 = (zCE cL cR F T top (pv, rt, (vp_updL en w x), (w + 1), co, lo))) := by
  refine zStart (cc := cX0_push) (maxL := 3) (ret := none) (by decide +kernel) rfl (Nat.le_of_ble_eq_true rfl) ?_
  intro p e s m below meth c hx hb hr hml hlk hown hts hAm H hP hS ls hl
  have hown : s.vm.findClass RX0 = some m.cls := hown
  have hl : lv_has ls 3 [(0, .ref (F 27)), (1, .long x)] := hl
  have hinX0 : ∀ w ∈ u_ws RX0 TX0 5, w ∈ wsX0_push := by decide +kernel
  refine lv_aload_n hx hb dX0_push_0 rfl (lv_at hl 0 rfl) ?_
  refine zget (q := 27) (k := 2) (v := .int (nI w)) hx hb hts hinX0 hown hAm hP (by omega) (zC_se) rfl (by decide) (hts (.fieldLink RX0 29 "CosineSeries$RootSearch" "waiting" "I") (by decide +kernel)) (by first | rfl | simp [va_up, *]) dX0_push_1 ?_
  refine zf_lt (tgt := 39) hx hb dX0_push_4 (by decide) (by omega) ?_
  refine lv_aload_n hx hb dX0_push_7 rfl (lv_at hl 0 rfl) ?_
  refine zget (q := 27) (k := 2) (v := .int (nI w)) hx hb hts hinX0 hown hAm hP (by omega) (zC_se) rfl (by decide) (hts (.fieldLink RX0 29 "CosineSeries$RootSearch" "waiting" "I") (by decide +kernel)) (by first | rfl | simp [va_up, *]) dX0_push_8 ?_
  refine lv_aload_n hx hb dX0_push_11 rfl (lv_at hl 0 rfl) ?_
  refine zget (q := 27) (k := 1) (v := .ref (F 29)) hx hb hts hinX0 hown hAm hP (by omega) (zC_se) rfl (by decide) (hts (.fieldLink RX0 15 "CosineSeries$RootSearch" "ends" "[J") (by decide +kernel)) (by first | rfl | simp [va_up, *]) dX0_push_12 ?_
  refine zalen (N := 32) (q := 29) (t0 := 0) hx hb hAm hP (by omega) (zC_en) rfl rfl dX0_push_15 ?_
  refine zi_ge (tgt := 39) hx hb dX0_push_16 (by decide) (by omega) (by omega) (fun c1 => ?_) (fun c1 => ?_)
  ·
    exfalso; omega
  ·
    refine lv_aload_n hx hb dX0_push_19 rfl (lv_at hl 0 rfl) ?_
    refine zget (q := 27) (k := 1) (v := .ref (F 29)) hx hb hts hinX0 hown hAm hP (by omega) (zC_se) rfl (by decide) (hts (.fieldLink RX0 15 "CosineSeries$RootSearch" "ends" "[J") (by decide +kernel)) (by first | rfl | simp [va_up, *]) dX0_push_20 ?_
    refine lv_aload_n hx hb dX0_push_23 rfl (lv_at hl 0 rfl) ?_
    refine zget (q := 27) (k := 2) (v := .int (nI w)) hx hb hts hinX0 hown hAm hP (by omega) (zC_se) rfl (by decide) (hts (.fieldLink RX0 29 "CosineSeries$RootSearch" "waiting" "I") (by decide +kernel)) (by first | rfl | simp [va_up, *]) dX0_push_24 ?_
    refine lv_lload_n hx hb dX0_push_27 rfl (lv_at hl 1 rfl) ?_
    refine zlast (q := 29) (k := w) (E' := (zCE cL cR F T top (pv, rt, (vp_updL en w x), w, co, lo))) hx hb hAm hP hF hS (by omega) (zC_en) (by omega) (by decide) dX0_push_28 (zC_uen) (fun H locs hP hS => ?_)
    refine lv_aload_n hx hb dX0_push_29 rfl (lv_at hl 0 rfl) ?_
    refine lv_dup hx hb dX0_push_30 rfl ?_
    refine zget (q := 27) (k := 2) (v := .int (nI w)) hx hb hts hinX0 hown hAm hP (by omega) (zC_se) rfl (by decide) (hts (.fieldLink RX0 29 "CosineSeries$RootSearch" "waiting" "I") (by decide +kernel)) (by first | rfl | simp [va_up, *]) dX0_push_31 ?_
    refine lv_iconst (v := nI 1) hx hb dX0_push_34 (by decide +kernel) ?_
    refine ziadd (d := (w + 1)) hx hb (by omega) dX0_push_35 ?_
    refine zput (q := 27) (k := 2) (ty := .int) (E' := (zCE cL cR F T top (pv, rt, (vp_updL en w x), (w + 1), co, lo))) hx hb hts hinX0 tyX0 tyX0_ok nmX0 hown hAm hP hF hS (by omega) (zC_se) rfl (by decide) (hts (.fieldLink RX0 29 "CosineSeries$RootSearch" "waiting" "I") (by decide +kernel)) rfl rfl rfl rfl (Nat.le_of_ble_eq_true rfl) dX0_push_36 (zC_use) (fun H locs hP hS => ?_)
    exact zretV hx hb hr hlk hS hP dX0_push_39 ⟨rfl, rfl⟩

set_option maxHeartbeats 4000000 in
set_option maxRecDepth 100000 in
theorem kX0_nextEnd (l : Launch) (D : va_G) (cL cI cR : ClassId) (A : Nat → Prop) (F : Nat → Nat) (hF : zq_F A F 30) (T : Nat → Nat → Int64) (top : Nat → Nat) (pv rt en : Nat → Int64) (k co lo : Nat) (hk : k < 32) : zCt l yX0_nextEnd wsX0_nextEnd 0 0 D cL cI cR A F 30 (zCE cL cR F T top (pv, rt, en, (k + 1), co, lo)) [.ref (F 27)] (fun v2 E2 => v2 = (some (.long (en k))) ∧ E2 = (zCE cL cR F T top (pv, rt, en, (k + 1), co, lo))) := by
  refine zStart (cc := cX0_nextEnd) (maxL := 2) (ret := (some .long)) (by decide +kernel) rfl (Nat.le_of_ble_eq_true rfl) ?_
  intro p e s m below meth c hx hb hr hml hlk hown hts hAm H hP hS ls hl
  have hown : s.vm.findClass RX0 = some m.cls := hown
  have hl : lv_has ls 2 [(0, .ref (F 27))] := hl
  have hinX0 : ∀ w ∈ u_ws RX0 TX0 5, w ∈ wsX0_nextEnd := by decide +kernel
  refine lv_aload_n hx hb dX0_nextEnd_0 rfl (lv_at hl 0 rfl) ?_
  refine zget (q := 27) (k := 2) (v := .int (nI (k + 1))) hx hb hts hinX0 hown hAm hP (by omega) (zC_se) rfl (by decide) (hts (.fieldLink RX0 29 "CosineSeries$RootSearch" "waiting" "I") (by decide +kernel)) (by first | rfl | simp [va_up, *]) dX0_nextEnd_1 ?_
  refine lv_iconst (v := nI 1) hx hb dX0_nextEnd_4 (by decide +kernel) ?_
  refine zisub (d := k) hx hb (by omega) dX0_nextEnd_5 ?_
  refine lv_istore_n (lv' := [(1, .int (nI k)), (0, .ref (F 27))]) hx hb dX0_nextEnd_6 rfl hl (by decide) rfl (fun ls hl => ?_)
  refine lv_iload_n hx hb dX0_nextEnd_7 rfl (lv_at hl 0 rfl) ?_
  refine zf_lt (tgt := 29) hx hb dX0_nextEnd_8 (by decide) (by omega) ?_
  refine lv_iload_n hx hb dX0_nextEnd_11 rfl (lv_at hl 0 rfl) ?_
  refine lv_aload_n hx hb dX0_nextEnd_12 rfl (lv_at hl 1 rfl) ?_
  refine zget (q := 27) (k := 1) (v := .ref (F 29)) hx hb hts hinX0 hown hAm hP (by omega) (zC_se) rfl (by decide) (hts (.fieldLink RX0 15 "CosineSeries$RootSearch" "ends" "[J") (by decide +kernel)) (by first | rfl | simp [va_up, *]) dX0_nextEnd_13 ?_
  refine zalen (N := 32) (q := 29) (t0 := 0) hx hb hAm hP (by omega) (zC_en) rfl rfl dX0_nextEnd_16 ?_
  refine zi_ge (tgt := 29) hx hb dX0_nextEnd_17 (by decide) (by omega) (by omega) (fun c1 => ?_) (fun c1 => ?_)
  ·
    exfalso; omega
  ·
    refine lv_aload_n hx hb dX0_nextEnd_20 rfl (lv_at hl 1 rfl) ?_
    refine zget (q := 27) (k := 1) (v := .ref (F 29)) hx hb hts hinX0 hown hAm hP (by omega) (zC_se) rfl (by decide) (hts (.fieldLink RX0 15 "CosineSeries$RootSearch" "ends" "[J") (by decide +kernel)) (by first | rfl | simp [va_up, *]) dX0_nextEnd_21 ?_
    refine lv_iload_n hx hb dX0_nextEnd_24 rfl (lv_at hl 0 rfl) ?_
    refine zlald (q := 29) (k := k) (v := (en k)) hx hb hAm hP (by omega) (zC_en) (by omega) (by decide) (by first | rfl | simp [va_up, *]) dX0_nextEnd_25 ?_
    refine lv_goto (tgt := 30) hx hb dX0_nextEnd_26 (by decide) ?_
    exact zretL hx hb hr hlk hS hP dX0_nextEnd_30 ⟨rfl, rfl⟩

set_option maxHeartbeats 4000000 in
set_option maxRecDepth 100000 in
theorem kX0_note_skip (l : Launch) (D : va_G) (cL cI cR : ClassId) (A : Nat → Prop) (F : Nat → Nat) (hF : zq_F A F 30) (T : Nat → Nat → Int64) (top : Nat → Nat) (pv rt en : Nat → Int64) (w co lo : Nat) (m0 a0 : Int64) (hco : 0 < co ∧ co ≤ 24) (hs : a0 - 16 ≤ rt (co - 1)) : zCt l yX0_note wsX0_note 1 21 D cL cI cR A F 30 (zCE cL cR F T top (pv, rt, en, w, co, lo)) [.ref (F 27), .long m0, .long a0] (fun v2 E2 => v2 = none ∧ E2 = (zCE cL cR F T top (pv, rt, en, w, co, lo))) := by
  refine zStart (cc := cX0_note) (maxL := 5) (ret := none) (by decide +kernel) rfl (Nat.le_of_ble_eq_true rfl) ?_
  intro p e s m below meth c hx hb hr hml hlk hown hts hAm H hP hS ls hl
  have hown : s.vm.findClass RX0 = some m.cls := hown
  have hl : lv_has ls 5 [(0, .ref (F 27)), (1, .long m0), (3, .long a0)] := hl
  have hinX0 : ∀ w ∈ u_ws RX0 TX0 5, w ∈ wsX0_note := by decide +kernel
  refine lv_aload_n hx hb dX0_note_0 rfl (lv_at hl 0 rfl) ?_
  refine zget (q := 27) (k := 3) (v := .int (nI co)) hx hb hts hinX0 hown hAm hP (by omega) (zC_se) rfl (by decide) (hts (.fieldLink RX0 18 "CosineSeries$RootSearch" "count" "I") (by decide +kernel)) (by first | rfl | simp [va_up, *]) dX0_note_1 ?_
  refine zf_le (tgt := 27) hx hb dX0_note_4 (by decide) (by omega) (fun c1 => ?_) (fun c1 => ?_)
  ·
    exfalso; omega
  ·
    refine lv_aload_n hx hb dX0_note_7 rfl (lv_at hl 0 rfl) ?_
    refine lv_aload_n hx hb dX0_note_8 rfl (lv_at hl 0 rfl) ?_
    refine zget (q := 27) (k := 3) (v := .int (nI co)) hx hb hts hinX0 hown hAm hP (by omega) (zC_se) rfl (by decide) (hts (.fieldLink RX0 18 "CosineSeries$RootSearch" "count" "I") (by decide +kernel)) (by first | rfl | simp [va_up, *]) dX0_note_9 ?_
    refine lv_iconst (v := nI 1) hx hb dX0_note_12 (by decide +kernel) ?_
    refine zisub (d := (co - 1)) hx hb (by omega) dX0_note_13 ?_
    refine zcallV (As := [.int (nI (co - 1))]) (rest := []) (q := 27) (k := 1) hx hb hml hown hts (kX0_found l D cL cI cR A F hF T top pv rt en w co lo (co - 1) (by omega)) gX0_note_X0_found rfl (by decide +kernel) ⟨Nat.le_of_ble_eq_true rfl, Nat.le_of_ble_eq_true rfl⟩ rfl (by omega) (zC_se) rfl rfl hAm hP hS rfl hl.1 rfl (Nat.le_of_ble_eq_true rfl) dX0_note_14 ⟨Nat.zero_le _, Nat.zero_le _⟩ (zkn (fun H locs hP hS => ?_))
    refine W.eq (g2 := F0 m 17 ls [.long (rt (co - 1))]) rfl ?_
    refine lv_lload_n hx hb dX0_note_17 rfl (lv_at hl 2 rfl) ?_
    refine lv_ldc2 hx hb hown (hts (.constantLong RX0 58 (16)) (by decide +kernel)) dX0_note_18 ?_
    refine lv_lsub hx hb dX0_note_21 ?_
    refine zl_lt (tgt := 27) hx hb dX0_note_22 dX0_note_23 (by decide) (fun c2 => ?_) (fun c2 => ?_)
    ·
      exact absurd hs (Int64.not_le.mpr c2)
    ·
      exact zretV hx hb hr hlk hS hP dX0_note_26 ⟨rfl, rfl⟩

set_option maxHeartbeats 4000000 in
set_option maxRecDepth 100000 in
theorem kX0_note_add (l : Launch) (D : va_G) (cL cI cR : ClassId) (A : Nat → Prop) (F : Nat → Nat) (hF : zq_F A F 30) (T : Nat → Nat → Int64) (top : Nat → Nat) (pv rt en : Nat → Int64) (w co lo : Nat) (m0 a0 : Int64) (hco : co < 24) (hs : co = 0 ∨ rt (co - 1) < a0 - 16) : zCt l yX0_note wsX0_note 1 21 D cL cI cR A F 30 (zCE cL cR F T top (pv, rt, en, w, co, lo)) [.ref (F 27), .long m0, .long a0] (fun v2 E2 => v2 = none ∧ E2 = (zCE cL cR F T top (pv, (vp_updL rt co m0), en, w, (co + 1), lo))) := by
  refine zStart (cc := cX0_note) (maxL := 5) (ret := none) (by decide +kernel) rfl (Nat.le_of_ble_eq_true rfl) ?_
  intro p e s m below meth c hx hb hr hml hlk hown hts hAm H hP hS ls hl
  have hown : s.vm.findClass RX0 = some m.cls := hown
  have hl : lv_has ls 5 [(0, .ref (F 27)), (1, .long m0), (3, .long a0)] := hl
  have hinX0 : ∀ w ∈ u_ws RX0 TX0 5, w ∈ wsX0_note := by decide +kernel
  refine lv_aload_n hx hb dX0_note_0 rfl (lv_at hl 0 rfl) ?_
  refine zget (q := 27) (k := 3) (v := .int (nI co)) hx hb hts hinX0 hown hAm hP (by omega) (zC_se) rfl (by decide) (hts (.fieldLink RX0 18 "CosineSeries$RootSearch" "count" "I") (by decide +kernel)) (by first | rfl | simp [va_up, *]) dX0_note_1 ?_
  refine zf_le (tgt := 27) hx hb dX0_note_4 (by decide) (by omega) (fun c1 => ?_) (fun c1 => ?_)
  ·
    refine lv_aload_n hx hb dX0_note_27 rfl (lv_at hl 0 rfl) ?_
    refine zget (q := 27) (k := 3) (v := .int (nI co)) hx hb hts hinX0 hown hAm hP (by omega) (zC_se) rfl (by decide) (hts (.fieldLink RX0 18 "CosineSeries$RootSearch" "count" "I") (by decide +kernel)) (by first | rfl | simp [va_up, *]) dX0_note_28 ?_
    refine zf_lt (tgt := 66) hx hb dX0_note_31 (by decide) (by omega) ?_
    refine lv_aload_n hx hb dX0_note_34 rfl (lv_at hl 0 rfl) ?_
    refine zget (q := 27) (k := 3) (v := .int (nI co)) hx hb hts hinX0 hown hAm hP (by omega) (zC_se) rfl (by decide) (hts (.fieldLink RX0 18 "CosineSeries$RootSearch" "count" "I") (by decide +kernel)) (by first | rfl | simp [va_up, *]) dX0_note_35 ?_
    refine lv_aload_n hx hb dX0_note_38 rfl (lv_at hl 0 rfl) ?_
    refine zget (q := 27) (k := 0) (v := .ref (F 28)) hx hb hts hinX0 hown hAm hP (by omega) (zC_se) rfl (by decide) (hts (.fieldLink RX0 11 "CosineSeries$RootSearch" "roots" "[J") (by decide +kernel)) (by first | rfl | simp [va_up, *]) dX0_note_39 ?_
    refine zalen (N := 24) (q := 28) (t0 := 0) hx hb hAm hP (by omega) (zC_rt) rfl rfl dX0_note_42 ?_
    refine zi_ge (tgt := 66) hx hb dX0_note_43 (by decide) (by omega) (by omega) (fun c2 => ?_) (fun c2 => ?_)
    ·
      exfalso; omega
    ·
      refine lv_aload_n hx hb dX0_note_46 rfl (lv_at hl 0 rfl) ?_
      refine zget (q := 27) (k := 0) (v := .ref (F 28)) hx hb hts hinX0 hown hAm hP (by omega) (zC_se) rfl (by decide) (hts (.fieldLink RX0 11 "CosineSeries$RootSearch" "roots" "[J") (by decide +kernel)) (by first | rfl | simp [va_up, *]) dX0_note_47 ?_
      refine lv_aload_n hx hb dX0_note_50 rfl (lv_at hl 0 rfl) ?_
      refine zget (q := 27) (k := 3) (v := .int (nI co)) hx hb hts hinX0 hown hAm hP (by omega) (zC_se) rfl (by decide) (hts (.fieldLink RX0 18 "CosineSeries$RootSearch" "count" "I") (by decide +kernel)) (by first | rfl | simp [va_up, *]) dX0_note_51 ?_
      refine lv_lload_n hx hb dX0_note_54 rfl (lv_at hl 1 rfl) ?_
      refine zlast (q := 28) (k := co) (E' := (zCE cL cR F T top (pv, (vp_updL rt co m0), en, w, co, lo))) hx hb hAm hP hF hS (by omega) (zC_rt) (by omega) (by decide) dX0_note_55 (zC_urt) (fun H locs hP hS => ?_)
      refine lv_aload_n hx hb dX0_note_56 rfl (lv_at hl 0 rfl) ?_
      refine lv_dup hx hb dX0_note_57 rfl ?_
      refine zget (q := 27) (k := 3) (v := .int (nI co)) hx hb hts hinX0 hown hAm hP (by omega) (zC_se) rfl (by decide) (hts (.fieldLink RX0 18 "CosineSeries$RootSearch" "count" "I") (by decide +kernel)) (by first | rfl | simp [va_up, *]) dX0_note_58 ?_
      refine lv_iconst (v := nI 1) hx hb dX0_note_61 (by decide +kernel) ?_
      refine ziadd (d := (co + 1)) hx hb (by omega) dX0_note_62 ?_
      refine zput (q := 27) (k := 3) (ty := .int) (E' := (zCE cL cR F T top (pv, (vp_updL rt co m0), en, w, (co + 1), lo))) hx hb hts hinX0 tyX0 tyX0_ok nmX0 hown hAm hP hF hS (by omega) (zC_se) rfl (by decide) (hts (.fieldLink RX0 18 "CosineSeries$RootSearch" "count" "I") (by decide +kernel)) rfl rfl rfl rfl (Nat.le_of_ble_eq_true rfl) dX0_note_63 (zC_use) (fun H locs hP hS => ?_)
      exact zretV hx hb hr hlk hS hP dX0_note_66 ⟨rfl, rfl⟩
  ·
    refine lv_aload_n hx hb dX0_note_7 rfl (lv_at hl 0 rfl) ?_
    refine lv_aload_n hx hb dX0_note_8 rfl (lv_at hl 0 rfl) ?_
    refine zget (q := 27) (k := 3) (v := .int (nI co)) hx hb hts hinX0 hown hAm hP (by omega) (zC_se) rfl (by decide) (hts (.fieldLink RX0 18 "CosineSeries$RootSearch" "count" "I") (by decide +kernel)) (by first | rfl | simp [va_up, *]) dX0_note_9 ?_
    refine lv_iconst (v := nI 1) hx hb dX0_note_12 (by decide +kernel) ?_
    refine zisub (d := (co - 1)) hx hb (by omega) dX0_note_13 ?_
    refine zcallV (As := [.int (nI (co - 1))]) (rest := []) (q := 27) (k := 1) hx hb hml hown hts (kX0_found l D cL cI cR A F hF T top pv rt en w co lo (co - 1) (by omega)) gX0_note_X0_found rfl (by decide +kernel) ⟨Nat.le_of_ble_eq_true rfl, Nat.le_of_ble_eq_true rfl⟩ rfl (by omega) (zC_se) rfl rfl hAm hP hS rfl hl.1 rfl (Nat.le_of_ble_eq_true rfl) dX0_note_14 ⟨Nat.zero_le _, Nat.zero_le _⟩ (zkn (fun H locs hP hS => ?_))
    refine W.eq (g2 := F0 m 17 ls [.long (rt (co - 1))]) rfl ?_
    refine lv_lload_n hx hb dX0_note_17 rfl (lv_at hl 2 rfl) ?_
    refine lv_ldc2 hx hb hown (hts (.constantLong RX0 58 (16)) (by decide +kernel)) dX0_note_18 ?_
    refine lv_lsub hx hb dX0_note_21 ?_
    refine zl_lt (tgt := 27) hx hb dX0_note_22 dX0_note_23 (by decide) (fun c3 => ?_) (fun c3 => ?_)
    ·
      refine lv_aload_n hx hb dX0_note_27 rfl (lv_at hl 0 rfl) ?_
      refine zget (q := 27) (k := 3) (v := .int (nI co)) hx hb hts hinX0 hown hAm hP (by omega) (zC_se) rfl (by decide) (hts (.fieldLink RX0 18 "CosineSeries$RootSearch" "count" "I") (by decide +kernel)) (by first | rfl | simp [va_up, *]) dX0_note_28 ?_
      refine zf_lt (tgt := 66) hx hb dX0_note_31 (by decide) (by omega) ?_
      refine lv_aload_n hx hb dX0_note_34 rfl (lv_at hl 0 rfl) ?_
      refine zget (q := 27) (k := 3) (v := .int (nI co)) hx hb hts hinX0 hown hAm hP (by omega) (zC_se) rfl (by decide) (hts (.fieldLink RX0 18 "CosineSeries$RootSearch" "count" "I") (by decide +kernel)) (by first | rfl | simp [va_up, *]) dX0_note_35 ?_
      refine lv_aload_n hx hb dX0_note_38 rfl (lv_at hl 0 rfl) ?_
      refine zget (q := 27) (k := 0) (v := .ref (F 28)) hx hb hts hinX0 hown hAm hP (by omega) (zC_se) rfl (by decide) (hts (.fieldLink RX0 11 "CosineSeries$RootSearch" "roots" "[J") (by decide +kernel)) (by first | rfl | simp [va_up, *]) dX0_note_39 ?_
      refine zalen (N := 24) (q := 28) (t0 := 0) hx hb hAm hP (by omega) (zC_rt) rfl rfl dX0_note_42 ?_
      refine zi_ge (tgt := 66) hx hb dX0_note_43 (by decide) (by omega) (by omega) (fun c4 => ?_) (fun c4 => ?_)
      ·
        exfalso; omega
      ·
        refine lv_aload_n hx hb dX0_note_46 rfl (lv_at hl 0 rfl) ?_
        refine zget (q := 27) (k := 0) (v := .ref (F 28)) hx hb hts hinX0 hown hAm hP (by omega) (zC_se) rfl (by decide) (hts (.fieldLink RX0 11 "CosineSeries$RootSearch" "roots" "[J") (by decide +kernel)) (by first | rfl | simp [va_up, *]) dX0_note_47 ?_
        refine lv_aload_n hx hb dX0_note_50 rfl (lv_at hl 0 rfl) ?_
        refine zget (q := 27) (k := 3) (v := .int (nI co)) hx hb hts hinX0 hown hAm hP (by omega) (zC_se) rfl (by decide) (hts (.fieldLink RX0 18 "CosineSeries$RootSearch" "count" "I") (by decide +kernel)) (by first | rfl | simp [va_up, *]) dX0_note_51 ?_
        refine lv_lload_n hx hb dX0_note_54 rfl (lv_at hl 1 rfl) ?_
        refine zlast (q := 28) (k := co) (E' := (zCE cL cR F T top (pv, (vp_updL rt co m0), en, w, co, lo))) hx hb hAm hP hF hS (by omega) (zC_rt) (by omega) (by decide) dX0_note_55 (zC_urt) (fun H locs hP hS => ?_)
        refine lv_aload_n hx hb dX0_note_56 rfl (lv_at hl 0 rfl) ?_
        refine lv_dup hx hb dX0_note_57 rfl ?_
        refine zget (q := 27) (k := 3) (v := .int (nI co)) hx hb hts hinX0 hown hAm hP (by omega) (zC_se) rfl (by decide) (hts (.fieldLink RX0 18 "CosineSeries$RootSearch" "count" "I") (by decide +kernel)) (by first | rfl | simp [va_up, *]) dX0_note_58 ?_
        refine lv_iconst (v := nI 1) hx hb dX0_note_61 (by decide +kernel) ?_
        refine ziadd (d := (co + 1)) hx hb (by omega) dX0_note_62 ?_
        refine zput (q := 27) (k := 3) (ty := .int) (E' := (zCE cL cR F T top (pv, (vp_updL rt co m0), en, w, (co + 1), lo))) hx hb hts hinX0 tyX0 tyX0_ok nmX0 hown hAm hP hF hS (by omega) (zC_se) rfl (by decide) (hts (.fieldLink RX0 18 "CosineSeries$RootSearch" "count" "I") (by decide +kernel)) rfl rfl rfl rfl (Nat.le_of_ble_eq_true rfl) dX0_note_63 (zC_use) (fun H locs hP hS => ?_)
        exact zretV hx hb hr hlk hS hP dX0_note_66 ⟨rfl, rfl⟩
    ·
      exact absurd (hs.resolve_left (by omega)) c3

set_option maxHeartbeats 4000000 in
set_option maxRecDepth 100000 in
theorem kX0_steepnessOf (l : Launch) (D : va_G) (cL cI cR : ClassId) (A : Nat → Prop) (F : Nat → Nat) (hF : zq_F A F 30) (T : Nat → Nat → Int64) (top : Nat → Nat) (pv rt en : Nat → Int64) (w co lo : Nat) (i : Nat) (hi : i < 12) (h48 : top i ≤ 48) : zCt l yX0_steepnessOf wsX0_steepnessOf 1 21 D cL cI cR A F 30 (zCE cL cR F T top (pv, rt, en, w, co, lo)) [.ref (F i)] (fun v2 E2 => v2 = (some (.long (zstp (T i) (top i)))) ∧ E2 = (zCE cL cR F T top (pv, rt, en, w, co, lo))) := by
  refine zStart (cc := cX0_steepnessOf) (maxL := 4) (ret := (some .long)) (by decide +kernel) rfl (Nat.le_of_ble_eq_true rfl) ?_
  intro p e s m below meth c hx hb hr hml hlk hown hts hAm H hP hS ls hl
  have hown : s.vm.findClass RX0 = some m.cls := hown
  have hl : lv_has ls 4 [(0, .ref (F i))] := hl
  refine lv_lconst (v := (0 : Int64)) hx hb dX0_steepnessOf_0 (by decide +kernel) ?_
  refine lv_lstore_n (lv' := [(1, .long (0 : Int64)), (0, .ref (F i))]) hx hb dX0_steepnessOf_1 rfl hl (by decide) rfl (fun ls hl => ?_)
  refine lv_iconst (v := nI 1) hx hb dX0_steepnessOf_2 (by decide +kernel) ?_
  refine lv_istore_n (lv' := [(3, .int (nI 1)), (1, .long (0 : Int64)), (0, .ref (F i))]) hx hb dX0_steepnessOf_3 rfl hl (by decide) rfl (fun ls hl => ?_)
  have L4 : ∀ (n : Nat) (m0 : Nat) (u : Int64) (hm : m0 ≤ top i) (hu : u = zstp (T i) m0) (hn : top i - m0 < n) (H : Heap) (locs : List Loc), va_P D vwCl (zq_wd F 30 (zCE cL cR F T top (pv, rt, en, w, co, lo))) H → va_S A s.heap H locs → ∀ (ls : Array Slot), lv_has ls 4 [(0, .ref (F i)), (1, .long u), (3, .int (nI (m0 + 1)))] → W p l e ({ frames := 1, cells := 0, slots := 0, locals := 21 }) s m ([.ref (F i)] : List Value).toArray below meth c H locs 0 0 (zQ below D A F 30 [.ref (F i)] s (fun v2 E2 => v2 = (some (.long (zstp (T i) (top i)))) ∧ E2 = (zCE cL cR F T top (pv, rt, en, w, co, lo)))) (F0 m 4 ls []) := by
    intro n
    induction n with
    | zero =>
      intro m0 u hm hu hn
      exact absurd hn (Nat.not_lt_zero _)
    | succ n ih4 =>
      intro m0 u hm hu hn H locs hP hS ls hl
      refine lv_iload_n hx hb dX0_steepnessOf_4 rfl (lv_at hl 2 rfl) ?_
      refine lv_aload_n hx hb dX0_steepnessOf_5 rfl (lv_at hl 0 rfl) ?_
      refine zcallV (As := []) (rest := [.int (nI (m0 + 1))]) (q := i) (k := 0) hx hb hml hown hts (kX1_top l D cL cI cR A F hF T top (pv, rt, en, w, co, lo) i (by omega) (top i) (by first | rfl | simp [va_up, *])) gX0_steepnessOf_X1_top rfl (by decide +kernel) ⟨Nat.le_of_ble_eq_true rfl, Nat.le_of_ble_eq_true rfl⟩ rfl (by omega) (zC_s (by omega)) rfl rfl hAm hP hS rfl hl.1 rfl (Nat.le_of_ble_eq_true rfl) dX0_steepnessOf_6 ⟨Nat.zero_le _, Nat.zero_le _⟩ (zkn (fun H locs hP hS => ?_))
      refine W.eq (g2 := F0 m 9 ls [.int (nI (top i)), .int (nI (m0 + 1))]) rfl ?_
      refine zi_gt (tgt := 34) hx hb dX0_steepnessOf_9 (by decide) (by omega) (by omega) (fun c1 => ?_) (fun c1 => ?_)
      ·
        refine lv_lload_n hx hb dX0_steepnessOf_34 rfl (lv_at hl 1 rfl) ?_
        exact zretL hx hb hr hlk hS hP dX0_steepnessOf_35 ⟨by rw [hu, show m0 = top i by omega], rfl⟩
      ·
        have hsq := zsq (m := m0) (by omega)
        refine lv_lload_n hx hb dX0_steepnessOf_12 rfl (lv_at hl 1 rfl) ?_
        refine lv_iload_n hx hb dX0_steepnessOf_13 rfl (lv_at hl 2 rfl) ?_
        refine lv_iload_n hx hb dX0_steepnessOf_14 rfl (lv_at hl 2 rfl) ?_
        refine zimul (d := ((m0 + 1) * (m0 + 1))) hx hb rfl dX0_steepnessOf_15 ?_
        refine zi2l hx hb (by omega) dX0_steepnessOf_16 ?_
        refine lv_aload_n hx hb dX0_steepnessOf_17 rfl (lv_at hl 0 rfl) ?_
        refine lv_iload_n hx hb dX0_steepnessOf_18 rfl (lv_at hl 2 rfl) ?_
        refine zcallV (As := [.int (nI (m0 + 1))]) (rest := [.long (lN ((m0 + 1) * (m0 + 1))), .long u]) (q := i) (k := 1) hx hb hml hown hts (kX1_at l D cL cI cR A F hF T top (pv, rt, en, w, co, lo) i (by omega) (m0 + 1) (by omega) ((T i) (m0 + 1)) (by first | rfl | simp [va_up, *])) gX0_steepnessOf_X1_at rfl (by decide +kernel) ⟨Nat.le_of_ble_eq_true rfl, Nat.le_of_ble_eq_true rfl⟩ rfl (by omega) (zC_s (by omega)) rfl rfl hAm hP hS rfl hl.1 rfl (Nat.le_of_ble_eq_true rfl) dX0_steepnessOf_19 ⟨Nat.zero_le _, Nat.zero_le _⟩ (zkn (fun H locs hP hS => ?_))
        refine W.eq (g2 := F0 m 22 ls [.long ((T i) (m0 + 1)), .long (lN ((m0 + 1) * (m0 + 1))), .long u]) rfl ?_
        refine va_mabs_long hx hb (hml.trans hl.1.symm) hown (hts (.methodLink RX0 74 Lib.MathLoose.abs_long.x) (by decide +kernel)) (hts (.static Lib.MathLoose.abs_long.x) (by decide +kernel)) (hts (.initialized "java/lang/Math") (by decide +kernel)) (hts (.code Lib.MathLoose.abs_long.x Lib.MathLoose.abs_long.code 2 (some .long)) (by decide +kernel)) (Nat.le_of_ble_eq_true rfl) (Nat.le_of_ble_eq_true rfl) (Nat.zero_le _) (Nat.zero_le _) dX0_steepnessOf_22 ?_
        refine W.eq (g2 := F0 m 25 ls [.long (zabs ((T i) (m0 + 1))), .long (lN ((m0 + 1) * (m0 + 1))), .long u]) rfl ?_
        refine lv_lmul hx hb dX0_steepnessOf_25 ?_
        refine lv_ladd hx hb dX0_steepnessOf_26 ?_
        refine lv_lstore_n (lv' := [(1, .long (u + ((lN ((m0 + 1) * (m0 + 1))) * (zabs ((T i) (m0 + 1)))))), (0, .ref (F i)), (3, .int (nI (m0 + 1)))]) hx hb dX0_steepnessOf_27 rfl hl (by decide) rfl (fun ls hl => ?_)
        refine lv_iinc (v := (nI (m0 + 2))) (lv' := [(3, .int (nI (m0 + 2))), (1, .long (u + ((lN ((m0 + 1) * (m0 + 1))) * (zabs ((T i) (m0 + 1)))))), (0, .ref (F i))]) hx hb dX0_steepnessOf_28 hl (k := 2) rfl (zinc (by omega)) (by decide) rfl (fun ls hl => ?_)
        refine lv_goto (tgt := 4) hx hb dX0_steepnessOf_31 (by decide) ?_
        exact ih4 (m0 + 1) (u + ((lN ((m0 + 1) * (m0 + 1))) * (zabs ((T i) (m0 + 1))))) (by omega) (by rw [hu]; rfl) (by omega) H _ hP hS ls (lv_sub hl [2, 1, 0] rfl)
  exact L4 _ 0 0 (by omega) rfl (Nat.lt_succ_self _) H _ hP hS ls (lv_sub hl [2, 1, 0] rfl)

set_option maxHeartbeats 4000000 in
set_option maxRecDepth 100000 in
theorem kX0_isFree (l : Launch) (D : va_G) (cL cI cR : ClassId) (A : Nat → Prop) (F : Nat → Nat) (hF : zq_F A F 30) (T : Nat → Nat → Int64) (top : Nat → Nat) (pv rt en : Nat → Int64) (w co lo : Nat) (i : Nat) (hi : i < 12) (h48 : top i ≤ 48) (st0 m0 h0 : Int64) (b : Nat) (hv : b = zbN (zR (st0 * h0) 1048576 + 8 * lN (top i + 1) < zabs (zval (T i) (top i) m0))) : zCt l yX0_isFree wsX0_isFree 3 81 D cL cI cR A F 30 (zCE cL cR F T top (pv, rt, en, w, co, lo)) [.ref (F i), .long st0, .long m0, .long h0] (fun v2 E2 => v2 = (some (.int (nI b))) ∧ E2 = (zCE cL cR F T top (pv, rt, en, w, co, lo))) := by
  refine zStart (cc := cX0_isFree) (maxL := 9) (ret := (some .boolean)) (by decide +kernel) rfl (Nat.le_of_ble_eq_true rfl) ?_
  intro p e s m below meth c hx hb hr hml hlk hown hts hAm H hP hS ls hl
  have hown : s.vm.findClass RX0 = some m.cls := hown
  have hl : lv_has ls 9 [(0, .ref (F i)), (1, .long st0), (3, .long m0), (5, .long h0)] := hl
  refine lv_ldc2 hx hb hown (hts (.constantLong RX0 78 (8)) (by decide +kernel)) dX0_isFree_0 ?_
  refine lv_aload_n hx hb dX0_isFree_3 rfl (lv_at hl 0 rfl) ?_
  refine zcallV (As := []) (rest := [.long (8 : Int64)]) (q := i) (k := 0) hx hb hml hown hts (kX1_top l D cL cI cR A F hF T top (pv, rt, en, w, co, lo) i (by omega) (top i) (by first | rfl | simp [va_up, *])) gX0_isFree_X1_top rfl (by decide +kernel) ⟨Nat.le_of_ble_eq_true rfl, Nat.le_of_ble_eq_true rfl⟩ rfl (by omega) (zC_s (by omega)) rfl rfl hAm hP hS rfl hl.1 rfl (Nat.le_of_ble_eq_true rfl) dX0_isFree_4 ⟨Nat.zero_le _, Nat.zero_le _⟩ (zkn (fun H locs hP hS => ?_))
  refine W.eq (g2 := F0 m 7 ls [.int (nI (top i)), .long (8 : Int64)]) rfl ?_
  refine lv_iconst (v := nI 1) hx hb dX0_isFree_7 (by decide +kernel) ?_
  refine ziadd (d := ((top i) + 1)) hx hb (by omega) dX0_isFree_8 ?_
  refine zi2l hx hb (by omega) dX0_isFree_9 ?_
  refine lv_lmul hx hb dX0_isFree_10 ?_
  refine lv_lstore (lv' := [(7, .long ((8 : Int64) * (lN ((top i) + 1)))), (0, .ref (F i)), (1, .long st0), (3, .long m0), (5, .long h0)]) hx hb dX0_isFree_11 hl (by decide) rfl (fun ls hl => ?_)
  refine lv_aload_n hx hb dX0_isFree_13 rfl (lv_at hl 1 rfl) ?_
  refine lv_lload_n hx hb dX0_isFree_14 rfl (lv_at hl 3 rfl) ?_
  refine zcallV (As := [.long m0]) (rest := []) (q := i) (k := 1) hx hb hml hown hts (kX1_valueAt l D cL cI cR A F hF T top (pv, rt, en, w, co, lo) i hi m0 (T i) rfl (top i) rfl h48) gX0_isFree_X1_valueAt rfl (by decide +kernel) ⟨Nat.le_of_ble_eq_true rfl, Nat.le_of_ble_eq_true rfl⟩ rfl (by omega) (zC_s (by omega)) rfl rfl hAm hP hS rfl hl.1 rfl (Nat.le_of_ble_eq_true rfl) dX0_isFree_15 ⟨Nat.zero_le _, Nat.zero_le _⟩ (zkn (fun H locs hP hS => ?_))
  refine W.eq (g2 := F0 m 18 ls [.long (zval (T i) (top i) m0)]) rfl ?_
  refine va_mabs_long hx hb (hml.trans hl.1.symm) hown (hts (.methodLink RX0 74 Lib.MathLoose.abs_long.x) (by decide +kernel)) (hts (.static Lib.MathLoose.abs_long.x) (by decide +kernel)) (hts (.initialized "java/lang/Math") (by decide +kernel)) (hts (.code Lib.MathLoose.abs_long.x Lib.MathLoose.abs_long.code 2 (some .long)) (by decide +kernel)) (Nat.le_of_ble_eq_true rfl) (Nat.le_of_ble_eq_true rfl) (Nat.zero_le _) (Nat.zero_le _) dX0_isFree_18 ?_
  refine W.eq (g2 := F0 m 21 ls [.long (zabs (zval (T i) (top i) m0))]) rfl ?_
  refine lv_lload_n hx hb dX0_isFree_21 rfl (lv_at hl 2 rfl) ?_
  refine lv_lload hx hb dX0_isFree_22 (lv_at hl 4 rfl) ?_
  refine lv_lmul hx hb dX0_isFree_24 ?_
  refine lv_ldc2 hx hb hown (hts (.constantLong RX0 32 (1048576)) (by decide +kernel)) dX0_isFree_25 ?_
  refine zcallN (As := [.long (st0 * h0), .long (1048576 : Int64)]) (rest := [.long (zabs (zval (T i) (top i) m0))]) (k := 2) hx hb hml hown hts (kX2_rounded l D cL cI cR A F 30 (zCE cL cR F T top (pv, rt, en, w, co, lo)) (st0 * h0) (1048576 : Int64) (by decide)) gX0_isFree_X2_rounded_n83 rfl hAm.2.2.1 (hts (.initialized RX2) (by decide +kernel)) (hts (.static yX2_rounded) (by decide +kernel)) (by decide +kernel) ⟨Nat.le_of_ble_eq_true rfl, Nat.le_of_ble_eq_true rfl⟩ hAm hP hS rfl hl.1 rfl (Nat.le_of_ble_eq_true rfl) dX0_isFree_28 ⟨Nat.zero_le _, Nat.zero_le _⟩ (zkn (fun H locs hP hS => ?_))
  refine W.eq (g2 := F0 m 31 ls [.long (zR (st0 * h0) (1048576 : Int64)), .long (zabs (zval (T i) (top i) m0))]) rfl ?_
  refine lv_lload hx hb dX0_isFree_31 (lv_at hl 0 rfl) ?_
  refine lv_ladd hx hb dX0_isFree_33 ?_
  refine zl_le (tgt := 42) hx hb dX0_isFree_34 dX0_isFree_35 (by decide) (fun c1 => ?_) (fun c1 => ?_)
  ·
    refine lv_iconst (v := nI 0) hx hb dX0_isFree_42 (by decide +kernel) ?_
    exact zretZ hx hb hr hlk hS hP (by first | rfl | (rw [hv]; unfold zbN; split <;> rfl)) dX0_isFree_43 ⟨by rw [hv]; unfold zbN; rw [if_neg (Int64.not_lt.mpr c1)], rfl⟩
  ·
    refine lv_iconst (v := nI 1) hx hb dX0_isFree_38 (by decide +kernel) ?_
    refine lv_goto (tgt := 43) hx hb dX0_isFree_39 (by decide) ?_
    exact zretZ hx hb hr hlk hS hP (by first | rfl | (rw [hv]; unfold zbN; split <;> rfl)) dX0_isFree_43 ⟨by rw [hv]; unfold zbN; rw [if_pos (Int64.not_le.mp c1)], rfl⟩

set_option maxHeartbeats 4000000 in
set_option maxRecDepth 100000 in
theorem kX0_run (l : Launch) (D : va_G) (cL cI cR : ClassId) (A : Nat → Prop) (F : Nat → Nat) (hF : zq_F A F 30) (T : Nat → Nat → Int64) (top : Nat → Nat) (pv rt en : Nat → Int64) (w co lo : Nat) (i : Nat) (hi : i < 12) (h48 : top i ≤ 48) : zCt l yX0_run wsX0_run 4 109 D cL cI cR A F 30 (zCE cL cR F T top (pv, rt, en, w, co, lo)) [.ref (F 27), .ref (F i)] (fun v2 E2 => ∃ (rt2 en2 : Nat → Int64) (w2 : Nat), v2 = none ∧ E2 = zCE cL cR F T top (pv, rt2, en2, w2, (zroots (T i) (top i)).1.length, (zroots (T i) (top i)).2) ∧ zrts rt2 (zroots (T i) (top i)).1) := by
  refine zStart (cc := cX0_run) (maxL := 11) (ret := none) (by decide +kernel) rfl (Nat.le_of_ble_eq_true rfl) ?_
  intro p e s m below meth c hx hb hr hml hlk hown hts hAm H hP hS ls hl
  have hown : s.vm.findClass RX0 = some m.cls := hown
  have hl : lv_has ls 11 [(0, .ref (F 27)), (1, .ref (F i))] := hl
  have hinX0 : ∀ w ∈ u_ws RX0 TX0 5, w ∈ wsX0_run := by decide +kernel
  refine lv_aload_n hx hb dX0_run_0 rfl (lv_at hl 1 rfl) ?_
  refine zcallS (As := [.ref (F i)]) (rest := []) (k := 1) hx hb hml hown hts (kX0_steepnessOf l D cL cI cR A F hF T top pv rt en w co lo i hi h48) gX0_run_X0_steepnessOf rfl (by decide +kernel) ⟨Nat.le_of_ble_eq_true rfl, Nat.le_of_ble_eq_true rfl⟩ hAm hP hS rfl hl.1 rfl (Nat.le_of_ble_eq_true rfl) dX0_run_1 ⟨Nat.zero_le _, Nat.zero_le _⟩ (zkn (fun H locs hP hS => ?_))
  refine W.eq (g2 := F0 m 4 ls [.long (zstp (T i) (top i))]) rfl ?_
  refine lv_lstore_n (lv' := [(2, .long (zstp (T i) (top i))), (0, .ref (F 27)), (1, .ref (F i))]) hx hb dX0_run_4 rfl hl (by decide) rfl (fun ls hl => ?_)
  refine lv_aload_n hx hb dX0_run_5 rfl (lv_at hl 1 rfl) ?_
  refine lv_iconst (v := nI 0) hx hb dX0_run_6 (by decide +kernel) ?_
  refine zput (q := 27) (k := 3) (ty := .int) (E' := (zCE cL cR F T top (pv, rt, en, w, 0, lo))) hx hb hts hinX0 tyX0 tyX0_ok nmX0 hown hAm hP hF hS (by omega) (zC_se) rfl (by decide) (hts (.fieldLink RX0 18 "CosineSeries$RootSearch" "count" "I") (by decide +kernel)) rfl rfl rfl rfl (Nat.le_of_ble_eq_true rfl) dX0_run_7 (zC_use) (fun H locs hP hS => ?_)
  refine lv_aload_n hx hb dX0_run_10 rfl (lv_at hl 1 rfl) ?_
  refine lv_iconst (v := nI 0) hx hb dX0_run_11 (by decide +kernel) ?_
  refine zput (q := 27) (k := 4) (ty := .int) (E' := (zCE cL cR F T top (pv, rt, en, w, 0, 0))) hx hb hts hinX0 tyX0 tyX0_ok nmX0 hown hAm hP hF hS (by omega) (zC_se) rfl (by decide) (hts (.fieldLink RX0 22 "CosineSeries$RootSearch" "lookedAt" "I") (by decide +kernel)) rfl rfl rfl rfl (Nat.le_of_ble_eq_true rfl) dX0_run_12 (zC_use) (fun H locs hP hS => ?_)
  refine lv_aload_n hx hb dX0_run_15 rfl (lv_at hl 1 rfl) ?_
  refine lv_iconst (v := nI 0) hx hb dX0_run_16 (by decide +kernel) ?_
  refine zput (q := 27) (k := 2) (ty := .int) (E' := (zCE cL cR F T top (pv, rt, en, 0, 0, 0))) hx hb hts hinX0 tyX0 tyX0_ok nmX0 hown hAm hP hF hS (by omega) (zC_se) rfl (by decide) (hts (.fieldLink RX0 29 "CosineSeries$RootSearch" "waiting" "I") (by decide +kernel)) rfl rfl rfl rfl (Nat.le_of_ble_eq_true rfl) dX0_run_17 (zC_use) (fun H locs hP hS => ?_)
  refine lv_aload_n hx hb dX0_run_20 rfl (lv_at hl 1 rfl) ?_
  refine lv_ldc2 hx hb hown (hts (.constantLong RX0 32 (1048576)) (by decide +kernel)) dX0_run_21 ?_
  refine zcallV (As := [.long (1048576 : Int64)]) (rest := []) (q := 27) (k := 1) hx hb hml hown hts (kX0_push l D cL cI cR A F hF T top pv rt en 0 0 0 (by omega) 1048576) gX0_run_X0_push rfl (by decide +kernel) ⟨Nat.le_of_ble_eq_true rfl, Nat.le_of_ble_eq_true rfl⟩ rfl (by omega) (zC_se) rfl rfl hAm hP hS rfl hl.1 rfl (Nat.le_of_ble_eq_true rfl) dX0_run_24 ⟨Nat.zero_le _, Nat.zero_le _⟩ (zkn (fun H locs hP hS => ?_))
  refine W.eq (g2 := F0 m 27 ls []) rfl ?_
  refine lv_ldc2 hx hb hown (hts (.constantLong RX0 38 (-1048576)) (by decide +kernel)) dX0_run_27 ?_
  refine lv_lstore (lv' := [(4, .long (-1048576 : Int64)), (2, .long (zstp (T i) (top i))), (0, .ref (F 27)), (1, .ref (F i))]) hx hb dX0_run_30 hl (by decide) rfl (fun ls hl => ?_)
  have L32 : ∀ (n : Nat) (u : Nat) (a : Int64) (en : Nat → Int64) (w : Nat) (rt : Nat → Int64) (fs : List Int64) (lo : Nat) (hu : u + lo = 2001 ∧ lo ≤ 2000) (hsp : zsea (zfr (T i) (top i)) u (zadj en w a) fs lo = zroots (T i) (top i)) (hok : zok (zadj en w a)) (hrt : fs.length ≤ 24 ∧ zrts rt fs) (hw32 : w ≤ 32) (hn : u < n) (H : Heap) (locs : List Loc), va_P D vwCl (zq_wd F 30 (zCE cL cR F T top (pv, rt, en, w, fs.length, lo))) H → va_S A s.heap H locs → ∀ (ls : Array Slot), lv_has ls 11 [(0, .ref (F 27)), (1, .ref (F i)), (2, .long (zstp (T i) (top i))), (4, .long a)] → W p l e ({ frames := 4, cells := 0, slots := 0, locals := 109 }) s m ([.ref (F 27), .ref (F i)] : List Value).toArray below meth c H locs 0 0 (zQ below D A F 30 [.ref (F 27), .ref (F i)] s (fun v2 E2 => ∃ (rt2 en2 : Nat → Int64) (w2 : Nat), v2 = none ∧ E2 = zCE cL cR F T top (pv, rt2, en2, w2, (zroots (T i) (top i)).1.length, (zroots (T i) (top i)).2) ∧ zrts rt2 (zroots (T i) (top i)).1)) (F0 m 32 ls []) := by
    intro n
    induction n with
    | zero =>
      intro u a en w rt fs lo hu hsp hok hrt hw32 hn
      exact absurd hn (Nat.not_lt_zero _)
    | succ n ih32 =>
      intro u a en w rt fs lo hu hsp hok hrt hw32 hn H locs hP hS ls hl
      obtain ⟨hrl, hrt⟩ := hrt
      obtain ⟨u, rfl⟩ : ∃ j, u = j + 1 := ⟨u - 1, by omega⟩
      refine lv_aload_n hx hb dX0_run_32 rfl (lv_at hl 0 rfl) ?_
      refine zget (q := 27) (k := 2) (v := .int (nI w)) hx hb hts hinX0 hown hAm hP (by omega) (zC_se) rfl (by decide) (hts (.fieldLink RX0 29 "CosineSeries$RootSearch" "waiting" "I") (by decide +kernel)) (by first | rfl | simp [va_up, *]) dX0_run_33 ?_
      refine zf_le (tgt := 163) hx hb dX0_run_36 (by decide) (by omega) (fun c1 => ?_) (fun c1 => ?_)
      ·
        have hw0 : w = 0 := c1
        have hfin : (fs, lo) = zroots (T i) (top i) := by rw [← hsp, hw0]; rfl
        exact zretV hx hb hr hlk hS hP dX0_run_163 ⟨_, _, _, rfl, by rw [← hfin], by rw [← hfin]; exact hrt⟩
      ·
        obtain ⟨k, rfl⟩ : ∃ j, w = j + 1 := ⟨w - 1, by omega⟩
        have hk17 : k ≤ 17 := by have := hok.2.2.1; rw [zadj_len] at this; exact this
        have hmid := zok_mid hok.1.1 hok.1.2.1 hok.1.2.2
        have hP : va_P D vwCl (zq_wd F 30 (zCE cL cR F T top (pv, rt, en, (k + 1), fs.length, lo))) H := hP
        refine lv_aload_n hx hb dX0_run_39 rfl (lv_at hl 0 rfl) ?_
        refine zget (q := 27) (k := 3) (v := .int (nI fs.length)) hx hb hts hinX0 hown hAm hP (by omega) (zC_se) rfl (by decide) (hts (.fieldLink RX0 18 "CosineSeries$RootSearch" "count" "I") (by decide +kernel)) (by first | rfl | simp [va_up, *]) dX0_run_40 ?_
        refine lv_bipush (v := nI 24) hx hb dX0_run_43 (by decide +kernel) ?_
        refine zi_ge (tgt := 163) hx hb dX0_run_45 (by decide) (by omega) (by omega) (fun c2 => ?_) (fun c2 => ?_)
        ·
          have hfin : (fs, lo) = zroots (T i) (top i) := by rw [← hsp, zadj, zsea, if_neg (by omega)]
          exact zretV hx hb hr hlk hS hP dX0_run_163 ⟨_, _, _, rfl, by rw [← hfin], by rw [← hfin]; exact hrt⟩
        ·
          refine lv_aload_n hx hb dX0_run_48 rfl (lv_at hl 0 rfl) ?_
          refine zget (q := 27) (k := 4) (v := .int (nI lo)) hx hb hts hinX0 hown hAm hP (by omega) (zC_se) rfl (by decide) (hts (.fieldLink RX0 22 "CosineSeries$RootSearch" "lookedAt" "I") (by decide +kernel)) (by first | rfl | simp [va_up, *]) dX0_run_49 ?_
          refine lv_sipush (v := nI 2000) hx hb dX0_run_52 (by decide +kernel) ?_
          refine zi_ge (tgt := 163) hx hb dX0_run_55 (by decide) (by omega) (by omega) (fun c3 => ?_) (fun c3 => ?_)
          ·
            have hfin : (fs, lo) = zroots (T i) (top i) := by rw [← hsp, zadj, zsea, if_neg (by omega)]
            exact zretV hx hb hr hlk hS hP dX0_run_163 ⟨_, _, _, rfl, by rw [← hfin], by rw [← hfin]; exact hrt⟩
          ·
            rw [zadj, zsea, if_pos ⟨by omega, by omega⟩] at hsp
            refine lv_aload_n hx hb dX0_run_58 rfl (lv_at hl 0 rfl) ?_
            refine lv_dup hx hb dX0_run_59 rfl ?_
            refine zget (q := 27) (k := 4) (v := .int (nI lo)) hx hb hts hinX0 hown hAm hP (by omega) (zC_se) rfl (by decide) (hts (.fieldLink RX0 22 "CosineSeries$RootSearch" "lookedAt" "I") (by decide +kernel)) (by first | rfl | simp [va_up, *]) dX0_run_60 ?_
            refine lv_iconst (v := nI 1) hx hb dX0_run_63 (by decide +kernel) ?_
            refine ziadd (d := (lo + 1)) hx hb (by omega) dX0_run_64 ?_
            refine zput (q := 27) (k := 4) (ty := .int) (E' := (zCE cL cR F T top (pv, rt, en, (k + 1), fs.length, (lo + 1)))) hx hb hts hinX0 tyX0 tyX0_ok nmX0 hown hAm hP hF hS (by omega) (zC_se) rfl (by decide) (hts (.fieldLink RX0 22 "CosineSeries$RootSearch" "lookedAt" "I") (by decide +kernel)) rfl rfl rfl rfl (Nat.le_of_ble_eq_true rfl) dX0_run_65 (zC_use) (fun H locs hP hS => ?_)
            refine lv_aload_n hx hb dX0_run_68 rfl (lv_at hl 0 rfl) ?_
            refine zcallV (As := []) (rest := []) (q := 27) (k := 0) hx hb hml hown hts (kX0_nextEnd l D cL cI cR A F hF T top pv rt en k fs.length (lo + 1) (by omega)) gX0_run_X0_nextEnd rfl (by decide +kernel) ⟨Nat.le_of_ble_eq_true rfl, Nat.le_of_ble_eq_true rfl⟩ rfl (by omega) (zC_se) rfl rfl hAm hP hS rfl hl.1 rfl (Nat.le_of_ble_eq_true rfl) dX0_run_69 ⟨Nat.zero_le _, Nat.zero_le _⟩ (zkn (fun H locs hP hS => ?_))
            refine W.eq (g2 := F0 m 72 ls [.long (en k)]) rfl ?_
            refine lv_lstore (lv' := [(6, .long (en k)), (0, .ref (F 27)), (1, .ref (F i)), (2, .long (zstp (T i) (top i))), (4, .long a)]) hx hb dX0_run_72 hl (by decide) rfl (fun ls hl => ?_)
            refine lv_lload hx hb dX0_run_74 (lv_at hl 4 rfl) ?_
            refine lv_lload hx hb dX0_run_76 (lv_at hl 0 rfl) ?_
            refine lv_ladd hx hb dX0_run_78 ?_
            refine lv_iconst (v := nI 2) hx hb dX0_run_79 (by decide +kernel) ?_
            refine zcallS (As := [.long (a + (en k)), .int (nI 2)]) (rest := []) (k := 2) hx hb hml hown hts (kJ9_floorDiv_b2ac5 l D cL cI cR A F 30 (zCE cL cR F T top (pv, rt, en, (k + 1), fs.length, (lo + 1))) (a + en k) (nI 2) (by decide)) gX0_run_J9_floorDiv_b2ac5 rfl (by decide +kernel) ⟨Nat.le_of_ble_eq_true rfl, Nat.le_of_ble_eq_true rfl⟩ hAm hP hS rfl hl.1 rfl (Nat.le_of_ble_eq_true rfl) dX0_run_80 ⟨Nat.zero_le _, Nat.zero_le _⟩ (zkn (fun H locs hP hS => ?_))
            refine W.eq (g2 := F0 m 83 ls [.long (zfl (a + en k) (nI 2).toInt64)]) rfl ?_
            refine W.eq (g2 := F0 m 83 ls [.long (zfl (a + en k) 2)]) (by rfl) ?_
            refine lv_lstore (lv' := [(8, .long (zfl (a + en k) 2)), (6, .long (en k)), (0, .ref (F 27)), (1, .ref (F i)), (2, .long (zstp (T i) (top i))), (4, .long a)]) hx hb dX0_run_83 hl (by decide) rfl (fun ls hl => ?_)
            refine lv_aload_n hx hb dX0_run_85 rfl (lv_at hl 3 rfl) ?_
            refine lv_lload_n hx hb dX0_run_86 rfl (lv_at hl 4 rfl) ?_
            refine lv_lload hx hb dX0_run_87 (lv_at hl 0 rfl) ?_
            refine lv_lload hx hb dX0_run_89 (lv_at hl 1 rfl) ?_
            refine lv_lload hx hb dX0_run_91 (lv_at hl 0 rfl) ?_
            refine lv_lsub hx hb dX0_run_93 ?_
            refine lv_lload hx hb dX0_run_94 (lv_at hl 0 rfl) ?_
            refine lv_lload hx hb dX0_run_96 (lv_at hl 5 rfl) ?_
            refine lv_lsub hx hb dX0_run_98 ?_
            refine va_mmax_long hx hb (hml.trans hl.1.symm) hown (hts (.methodLink RX0 50 Lib.MathLoose.max_long.x) (by decide +kernel)) (hts (.static Lib.MathLoose.max_long.x) (by decide +kernel)) (hts (.initialized "java/lang/Math") (by decide +kernel)) (hts (.code Lib.MathLoose.max_long.x Lib.MathLoose.max_long.code 4 (some .long)) (by decide +kernel)) (Nat.le_of_ble_eq_true rfl) (Nat.le_of_ble_eq_true rfl) (Nat.zero_le _) (Nat.zero_le _) dX0_run_99 ?_
            refine W.eq (g2 := F0 m 102 ls [.long (zmax ((en k) - (zfl (a + en k) 2)) ((zfl (a + en k) 2) - a)), .long (zfl (a + en k) 2), .long (zstp (T i) (top i)), .ref (F i)]) rfl ?_
            by_cases hfree : zfr (T i) (top i) a (en k) = true
            ·
              rw [if_pos hfree] at hsp
              refine zcallS (As := [.ref (F i), .long (zstp (T i) (top i)), .long (zfl (a + en k) 2), .long (zmax ((en k) - (zfl (a + en k) 2)) ((zfl (a + en k) 2) - a))]) (rest := []) (k := 4) hx hb hml hown hts (kX0_isFree l D cL cI cR A F hF T top pv rt en (k + 1) fs.length (lo + 1) i hi h48 (zstp (T i) (top i)) (zfl (a + en k) 2) (zmax (en k - (zfl (a + en k) 2)) ((zfl (a + en k) 2) - a)) 1 (by unfold zfr at hfree; unfold zbN; rw [if_pos (of_decide_eq_true hfree)])) gX0_run_X0_isFree rfl (by decide +kernel) ⟨Nat.le_of_ble_eq_true rfl, Nat.le_of_ble_eq_true rfl⟩ hAm hP hS rfl hl.1 rfl (Nat.le_of_ble_eq_true rfl) dX0_run_102 ⟨Nat.zero_le _, Nat.zero_le _⟩ (zkn (fun H locs hP hS => ?_))
              refine W.eq (g2 := F0 m 105 ls [.int (nI 1)]) rfl ?_
              refine lv_istore (lv' := [(10, .int (nI 1)), (8, .long (zfl (a + en k) 2)), (6, .long (en k)), (0, .ref (F 27)), (1, .ref (F i)), (2, .long (zstp (T i) (top i))), (4, .long a)]) hx hb dX0_run_105 hl (by decide) rfl (fun ls hl => ?_)
              refine lv_iload hx hb dX0_run_107 (lv_at hl 0 rfl) ?_
              refine zf_ne (tgt := 133) hx hb dX0_run_109 (by decide) (by omega) (fun c4 => ?_) (fun c4 => ?_)
              ·
                refine lv_iload hx hb dX0_run_133 (lv_at hl 0 rfl) ?_
                refine zf_ne (tgt := 146) hx hb dX0_run_135 (by decide) (by omega) (fun c5 => ?_) (fun c5 => ?_)
                ·
                  refine lv_aload_n hx hb dX0_run_146 rfl (lv_at hl 3 rfl) ?_
                  refine lv_dup hx hb dX0_run_147 rfl ?_
                  refine zget (q := 27) (k := 2) (v := .int (nI (k + 1))) hx hb hts hinX0 hown hAm hP (by omega) (zC_se) rfl (by decide) (hts (.fieldLink RX0 29 "CosineSeries$RootSearch" "waiting" "I") (by decide +kernel)) (by first | rfl | simp [va_up, *]) dX0_run_148 ?_
                  refine lv_iconst (v := nI 1) hx hb dX0_run_151 (by decide +kernel) ?_
                  refine zisub (d := k) hx hb (by omega) dX0_run_152 ?_
                  refine zput (q := 27) (k := 2) (ty := .int) (E' := (zCE cL cR F T top (pv, rt, en, k, fs.length, (lo + 1)))) hx hb hts hinX0 tyX0 tyX0_ok nmX0 hown hAm hP hF hS (by omega) (zC_se) rfl (by decide) (hts (.fieldLink RX0 29 "CosineSeries$RootSearch" "waiting" "I") (by decide +kernel)) rfl rfl rfl rfl (Nat.le_of_ble_eq_true rfl) dX0_run_153 (zC_use) (fun H locs hP hS => ?_)
                  refine lv_lload hx hb dX0_run_156 (lv_at hl 2 rfl) ?_
                  refine lv_lstore (lv' := [(4, .long (en k)), (10, .int (nI 1)), (8, .long (zfl (a + en k) 2)), (6, .long (en k)), (0, .ref (F 27)), (1, .ref (F i)), (2, .long (zstp (T i) (top i)))]) hx hb dX0_run_158 hl (by decide) rfl (fun ls hl => ?_)
                  refine lv_goto (tgt := 32) hx hb dX0_run_160 (by decide) ?_
                  exact ih32 u (en k) en k rt fs (lo + 1) (by omega) hsp hok.2.2.2 ⟨hrl, hrt⟩ (by omega) (by omega) H _ hP hS ls (lv_sub hl [4, 5, 6, 0] rfl)
                ·
                  exfalso; omega
              ·
                exfalso; omega
            ·
              rw [if_neg hfree] at hsp
              refine zcallS (As := [.ref (F i), .long (zstp (T i) (top i)), .long (zfl (a + en k) 2), .long (zmax ((en k) - (zfl (a + en k) 2)) ((zfl (a + en k) 2) - a))]) (rest := []) (k := 4) hx hb hml hown hts (kX0_isFree l D cL cI cR A F hF T top pv rt en (k + 1) fs.length (lo + 1) i hi h48 (zstp (T i) (top i)) (zfl (a + en k) 2) (zmax (en k - (zfl (a + en k) 2)) ((zfl (a + en k) 2) - a)) 0 (by unfold zfr at hfree; unfold zbN; rw [if_neg (fun h => hfree (decide_eq_true h))])) gX0_run_X0_isFree rfl (by decide +kernel) ⟨Nat.le_of_ble_eq_true rfl, Nat.le_of_ble_eq_true rfl⟩ hAm hP hS rfl hl.1 rfl (Nat.le_of_ble_eq_true rfl) dX0_run_102 ⟨Nat.zero_le _, Nat.zero_le _⟩ (zkn (fun H locs hP hS => ?_))
              refine W.eq (g2 := F0 m 105 ls [.int (nI 0)]) rfl ?_
              refine lv_istore (lv' := [(10, .int (nI 0)), (8, .long (zfl (a + en k) 2)), (6, .long (en k)), (0, .ref (F 27)), (1, .ref (F i)), (2, .long (zstp (T i) (top i))), (4, .long a)]) hx hb dX0_run_105 hl (by decide) rfl (fun ls hl => ?_)
              refine lv_iload hx hb dX0_run_107 (lv_at hl 0 rfl) ?_
              refine zf_ne (tgt := 133) hx hb dX0_run_109 (by decide) (by omega) (fun c6 => ?_) (fun c6 => ?_)
              ·
                exfalso; omega
              ·
                refine lv_lload hx hb dX0_run_112 (lv_at hl 2 rfl) ?_
                refine lv_lload hx hb dX0_run_114 (lv_at hl 6 rfl) ?_
                refine lv_lsub hx hb dX0_run_116 ?_
                refine lv_ldc2 hx hb hown (hts (.constantLong RX0 58 (16)) (by decide +kernel)) dX0_run_117 ?_
                refine zl_le (tgt := 133) hx hb dX0_run_120 dX0_run_121 (by decide) (fun c7 => ?_) (fun c7 => ?_)
                ·
                  rw [if_neg (Int64.not_lt.mpr c7)] at hsp
                  refine lv_iload hx hb dX0_run_133 (lv_at hl 0 rfl) ?_
                  refine zf_ne (tgt := 146) hx hb dX0_run_135 (by decide) (by omega) (fun c8 => ?_) (fun c8 => ?_)
                  ·
                    exfalso; omega
                  ·
                    refine lv_aload_n hx hb dX0_run_138 rfl (lv_at hl 3 rfl) ?_
                    refine lv_lload hx hb dX0_run_139 (lv_at hl 1 rfl) ?_
                    refine lv_lload hx hb dX0_run_141 (lv_at hl 6 rfl) ?_
                    by_cases hnear : znear fs a = true
                    ·
                      rw [if_pos hnear] at hsp
                      have hns : 0 < fs.length ∧ a - 16 ≤ rt (fs.length - 1) := by
                        cases fs with
                        | nil => exact absurd hnear (by simp [znear])
                        | cons r fs => exact ⟨by rw [List.length_cons]; omega, by rw [List.length_cons, Nat.add_sub_cancel, hrt.1]; exact of_decide_eq_true hnear⟩
                      refine zcallV (As := [.long (zfl (a + en k) 2), .long a]) (rest := []) (q := 27) (k := 2) hx hb hml hown hts (kX0_note_skip l D cL cI cR A F hF T top pv rt en (k + 1) fs.length (lo + 1) (zfl (a + en k) 2) a ⟨hns.1, by omega⟩ hns.2) gX0_run_X0_note rfl (by decide +kernel) ⟨Nat.le_of_ble_eq_true rfl, Nat.le_of_ble_eq_true rfl⟩ rfl (by omega) (zC_se) rfl rfl hAm hP hS rfl hl.1 rfl (Nat.le_of_ble_eq_true rfl) dX0_run_143 ⟨Nat.zero_le _, Nat.zero_le _⟩ (zkn (fun H locs hP hS => ?_))
                      refine W.eq (g2 := F0 m 146 ls []) rfl ?_
                      refine lv_aload_n hx hb dX0_run_146 rfl (lv_at hl 3 rfl) ?_
                      refine lv_dup hx hb dX0_run_147 rfl ?_
                      refine zget (q := 27) (k := 2) (v := .int (nI (k + 1))) hx hb hts hinX0 hown hAm hP (by omega) (zC_se) rfl (by decide) (hts (.fieldLink RX0 29 "CosineSeries$RootSearch" "waiting" "I") (by decide +kernel)) (by first | rfl | simp [va_up, *]) dX0_run_148 ?_
                      refine lv_iconst (v := nI 1) hx hb dX0_run_151 (by decide +kernel) ?_
                      refine zisub (d := k) hx hb (by omega) dX0_run_152 ?_
                      refine zput (q := 27) (k := 2) (ty := .int) (E' := (zCE cL cR F T top (pv, rt, en, k, fs.length, (lo + 1)))) hx hb hts hinX0 tyX0 tyX0_ok nmX0 hown hAm hP hF hS (by omega) (zC_se) rfl (by decide) (hts (.fieldLink RX0 29 "CosineSeries$RootSearch" "waiting" "I") (by decide +kernel)) rfl rfl rfl rfl (Nat.le_of_ble_eq_true rfl) dX0_run_153 (zC_use) (fun H locs hP hS => ?_)
                      refine lv_lload hx hb dX0_run_156 (lv_at hl 2 rfl) ?_
                      refine lv_lstore (lv' := [(4, .long (en k)), (10, .int (nI 0)), (8, .long (zfl (a + en k) 2)), (6, .long (en k)), (0, .ref (F 27)), (1, .ref (F i)), (2, .long (zstp (T i) (top i)))]) hx hb dX0_run_158 hl (by decide) rfl (fun ls hl => ?_)
                      refine lv_goto (tgt := 32) hx hb dX0_run_160 (by decide) ?_
                      exact ih32 u (en k) en k rt fs (lo + 1) (by omega) hsp hok.2.2.2 ⟨hrl, hrt⟩ (by omega) (by omega) H _ hP hS ls (lv_sub hl [4, 5, 6, 0] rfl)
                    ·
                      rw [if_neg hnear] at hsp
                      have hns : fs.length = 0 ∨ rt (fs.length - 1) < a - 16 := by
                        cases fs with
                        | nil => exact Or.inl rfl
                        | cons r fs => exact Or.inr (by rw [List.length_cons, Nat.add_sub_cancel, hrt.1]; exact Int64.not_le.mp (fun h => hnear (decide_eq_true h)))
                      refine zcallV (As := [.long (zfl (a + en k) 2), .long a]) (rest := []) (q := 27) (k := 2) hx hb hml hown hts (kX0_note_add l D cL cI cR A F hF T top pv rt en (k + 1) fs.length (lo + 1) (zfl (a + en k) 2) a (by omega) hns) gX0_run_X0_note rfl (by decide +kernel) ⟨Nat.le_of_ble_eq_true rfl, Nat.le_of_ble_eq_true rfl⟩ rfl (by omega) (zC_se) rfl rfl hAm hP hS rfl hl.1 rfl (Nat.le_of_ble_eq_true rfl) dX0_run_143 ⟨Nat.zero_le _, Nat.zero_le _⟩ (zkn (fun H locs hP hS => ?_))
                      refine W.eq (g2 := F0 m 146 ls []) rfl ?_
                      refine lv_aload_n hx hb dX0_run_146 rfl (lv_at hl 3 rfl) ?_
                      refine lv_dup hx hb dX0_run_147 rfl ?_
                      refine zget (q := 27) (k := 2) (v := .int (nI (k + 1))) hx hb hts hinX0 hown hAm hP (by omega) (zC_se) rfl (by decide) (hts (.fieldLink RX0 29 "CosineSeries$RootSearch" "waiting" "I") (by decide +kernel)) (by first | rfl | simp [va_up, *]) dX0_run_148 ?_
                      refine lv_iconst (v := nI 1) hx hb dX0_run_151 (by decide +kernel) ?_
                      refine zisub (d := k) hx hb (by omega) dX0_run_152 ?_
                      refine zput (q := 27) (k := 2) (ty := .int) (E' := (zCE cL cR F T top (pv, (vp_updL rt fs.length (zfl (a + en k) 2)), en, k, (fs.length + 1), (lo + 1)))) hx hb hts hinX0 tyX0 tyX0_ok nmX0 hown hAm hP hF hS (by omega) (zC_se) rfl (by decide) (hts (.fieldLink RX0 29 "CosineSeries$RootSearch" "waiting" "I") (by decide +kernel)) rfl rfl rfl rfl (Nat.le_of_ble_eq_true rfl) dX0_run_153 (zC_use) (fun H locs hP hS => ?_)
                      refine lv_lload hx hb dX0_run_156 (lv_at hl 2 rfl) ?_
                      refine lv_lstore (lv' := [(4, .long (en k)), (10, .int (nI 0)), (8, .long (zfl (a + en k) 2)), (6, .long (en k)), (0, .ref (F 27)), (1, .ref (F i)), (2, .long (zstp (T i) (top i)))]) hx hb dX0_run_158 hl (by decide) rfl (fun ls hl => ?_)
                      refine lv_goto (tgt := 32) hx hb dX0_run_160 (by decide) ?_
                      exact ih32 u (en k) en k (vp_updL rt fs.length (zfl (a + en k) 2)) ((zfl (a + en k) 2) :: fs) (lo + 1) (by omega) hsp hok.2.2.2 ⟨by rw [List.length_cons]; omega, by simp [vp_updL], zrts_up fs (Nat.le_refl _) hrt⟩ (by omega) (by omega) H _ hP hS ls (lv_sub hl [4, 5, 6, 0] rfl)
                ·
                  have hsp16 := Int64.not_le.mp c7
                  rw [if_pos hsp16] at hsp
                  have hspl := zok_split hok hsp16
                  have hadj : zadj (vp_updL en (k + 1) (zfl (a + en k) 2)) (k + 2) a = (a, (zfl (a + en k) 2)) :: ((zfl (a + en k) 2), en k) :: zadj en k (en k) := by
                    have e1 : vp_updL en (k + 1) (zfl (a + en k) 2) (k + 1) = (zfl (a + en k) 2) := by simp [vp_updL]
                    have e2 : vp_updL en (k + 1) (zfl (a + en k) 2) k = en k := by unfold vp_updL; rw [if_neg (by omega)]
                    rw [zadj, zadj, e1, e2, zadj_up _ _ _ _ _ (by omega)]
                  refine lv_aload_n hx hb dX0_run_124 rfl (lv_at hl 3 rfl) ?_
                  refine lv_lload hx hb dX0_run_125 (lv_at hl 1 rfl) ?_
                  refine zcallV (As := [.long (zfl (a + en k) 2)]) (rest := []) (q := 27) (k := 1) hx hb hml hown hts (kX0_push l D cL cI cR A F hF T top pv rt en (k + 1) fs.length (lo + 1) (by omega) (zfl (a + en k) 2)) gX0_run_X0_push rfl (by decide +kernel) ⟨Nat.le_of_ble_eq_true rfl, Nat.le_of_ble_eq_true rfl⟩ rfl (by omega) (zC_se) rfl rfl hAm hP hS rfl hl.1 rfl (Nat.le_of_ble_eq_true rfl) dX0_run_127 ⟨Nat.zero_le _, Nat.zero_le _⟩ (zkn (fun H locs hP hS => ?_))
                  refine W.eq (g2 := F0 m 130 ls []) rfl ?_
                  refine lv_goto (tgt := 160) hx hb dX0_run_130 (by decide) ?_
                  refine lv_goto (tgt := 32) hx hb dX0_run_160 (by decide) ?_
                  exact ih32 u a (vp_updL en (k + 1) (zfl (a + en k) 2)) (k + 2) rt fs (lo + 1) (by omega) (by rw [hadj]; exact hsp) (by rw [hadj]; exact hspl.1) ⟨hrl, hrt⟩ (by omega) (by omega) H _ hP hS ls (lv_sub hl [3, 4, 5, 6] rfl)
  exact L32 _ 2001 (-1048576) (vp_updL en 0 1048576) 1 rt [] 0 (by omega) rfl zok_0 ⟨by decide, trivial⟩ (by decide) (Nat.lt_succ_self _) H _ hP hS ls (lv_sub hl [2, 3, 1, 0] rfl)
