/-! Series: the methods that read and that trim -/
theorem zupx {T : Nat → Nat → Int64} {i : Nat} {f g : Nat → Int64} (h : ∀ j, j < 49 → f j = g j) : ∀ a, a < 12 → ∀ j, j < 49 → va_up T i f a j = va_up T i g a j := by
  intro a _ j hj
  by_cases ha : a = i
  · subst ha; rw [va_up_eq, va_up_eq]; exact h j hj
  · simp [va_up, ha]
theorem zC_ut2 {cL cR : ClassId} {F : Nat → Nat} {T : Nat → Nat → Int64} {top : Nat → Nat} {Z : zZC} {i : Nat} {f g : Nat → Int64} (h : i < 12) : va_up (zCE cL cR F (va_up T i f) top Z) (i + 12) (.inl (cL, 49, .inr (.inl g))) = zCE cL cR F (va_up T i g) top Z := by
  rw [zC_ut h, bx_uu]
theorem zC_us2 {cL cR : ClassId} {F : Nat → Nat} {T : Nat → Nat → Int64} {top : Nat → Nat} {Z : zZC} {i v w : Nat} (h : i < 12) : va_up (zCE cL cR F T (va_up top i w) Z) i (.inr (1, [.ref (F (i + 12)), .int (nI v)])) = zCE cL cR F T (va_up top i v) Z := by
  rw [zC_us h, bx_uu]
theorem zbig_of {f : Nat → Int64} {k : Nat} (h : 268435456 < zabs (f k)) : ∀ m, k < m → zbig f m = true := by
  intro m
  induction m with
  | zero => intro h1; omega
  | succ m ih =>
    intro h1
    unfold zbig
    rcases Nat.lt_or_ge k m with h2 | h2
    · rw [ih h2]; rfl
    · have : k = m := by omega
      subst this
      simp [h]
theorem zbig_s {f : Nat → Int64} {k : Nat} (h : zbig f k = false) (h2 : zabs (f k) ≤ 268435456) : zbig f (k + 1) = false := by
  unfold zbig
  rw [h]
  simp only [Bool.false_or, decide_eq_false_iff_not]
  exact Int64.not_lt.mpr h2
theorem zmax0 {n : Nat} (h : n < 2147483648) : (if nI n < nI 0 then nI 0 else nI n) = nI n := by
  rw [if_neg]
  rw [nI_0]
  exact nI_pos h
/-- to which degree a cut leads -/
def ztw (c : Nat → Int64) (tol : Int64) : Nat → Int64 → Nat
  | 0, _ => 0
  | n + 1, s => if s + zabs (c (n + 1)) ≤ tol then ztw c tol n (s + zabs (c (n + 1))) else n + 1
theorem ztw_le (c : Nat → Int64) (tol : Int64) : ∀ (n : Nat) (s : Int64), ztw c tol n s ≤ n := by
  intro n
  induction n with
  | zero => intro s; exact Nat.le_refl _
  | succ n ih =>
    intro s
    unfold ztw
    split
    · have := ih (s + zabs (c (n + 1))); omega
    · omega
def zcut (f : Nat → Int64) (n : Nat) : Nat → Int64 := fun j => if j ≤ n then f j else 0
/-- how many of the first m coefficients come before that of index k -/
def zplace (c : Nat → Int64) (k : Nat) : Nat → Nat
  | 0 => 0
  | m + 1 => zplace c k m + (if zabs (c k) < zabs (c m) ∨ (zabs (c m) = zabs (c k) ∧ m < k) then 1 else 0)
theorem zplace_le (c : Nat → Int64) (k m : Nat) : zplace c k m ≤ m := by
  induction m with
  | zero => exact Nat.le_refl _
  | succ m ih =>
    unfold zplace
    split <;> omega

set_option maxHeartbeats 4000000 in
set_option maxRecDepth 100000 in
theorem kJ7_fill_d0a16 (l : Launch) (D : va_G) (cL cI cR : ClassId) (A : Nat → Prop) (F : Nat → Nat) (hF : zq_F A F 30) (T : Nat → Nat → Int64) (top : Nat → Nat) (Z : zZC) (i : Nat) (hi : i < 12) (v0 : Int64) : zCt l yJ7_fill_d0a16 wsJ7_fill_d0a16 0 0 D cL cI cR A F 30 (zCE cL cR F T top Z) [.ref (F (i + 12)), .long v0] (fun v2 E2 => v2 = none ∧ E2 = (zCE cL cR F (va_up T i (fun _ => v0)) top Z)) := by
  refine zStartF (cc := cJ7_fill_d0a16) (maxL := 5) (ret := none) (by decide +kernel) rfl (Nat.le_of_ble_eq_true rfl) ?_
  intro p e s m below meth c hx hb hr hml hlk hown hts hAm H hP hS ls hl
  have hown : s.vm.findClass RJ7 = some m.cls := hown
  have hl : lv_has ls 5 [(0, .ref (F (i + 12))), (1, .long v0)] := hl
  refine lv_iconst (v := nI 0) hx hb dJ7_fill_d0a16_0 (by decide +kernel) ?_
  refine lv_istore_n (lv' := [(3, .int (nI 0)), (0, .ref (F (i + 12))), (1, .long v0)]) hx hb dJ7_fill_d0a16_1 rfl hl (by decide) rfl (fun ls hl => ?_)
  refine lv_aload_n hx hb dJ7_fill_d0a16_2 rfl (lv_at hl 1 rfl) ?_
  refine zalen (N := 49) (q := (i + 12)) (t0 := 0) hx hb hAm hP (by omega) (zC_t (by omega)) rfl rfl dJ7_fill_d0a16_3 ?_
  refine lv_istore (lv' := [(4, .int (nI 49)), (3, .int (nI 0)), (0, .ref (F (i + 12))), (1, .long v0)]) hx hb dJ7_fill_d0a16_4 hl (by decide) rfl (fun ls hl => ?_)
  have hP : va_P D vwCl (zq_wd F 30 (zCE cL cR F (va_up T i (T i)) top Z)) H := by rw [zup_self]; exact hP
  have L6 : ∀ (n : Nat) (k : Nat) (f : Nat → Int64) (hk : k ≤ 49) (hf : ∀ j, j < k → f j = v0) (hn : 49 - k < n) (H : Heap) (locs : List Loc), va_P D vwCl (zq_wd F 30 (zCE cL cR F (va_up T i f) top Z)) H → va_S A s.heap H locs → ∀ (ls : Array Slot), lv_has ls 5 [(0, .ref (F (i + 12))), (1, .long v0), (3, .int (nI k)), (4, .int (nI 49))] → W p l e ({ frames := 0, cells := 0, slots := 0, locals := 0 }) s m ([.ref (F (i + 12)), .long v0] : List Value).toArray below meth c H locs 0 0 (zQ below D A F 30 [.ref (F (i + 12)), .long v0] s (fun v2 E2 => v2 = none ∧ E2 = (zCE cL cR F (va_up T i (fun _ => v0)) top Z))) (F0 m 6 ls []) := by
    intro n
    induction n with
    | zero =>
      intro k f hk hf hn
      exact absurd hn (Nat.not_lt_zero _)
    | succ n ih6 =>
      intro k f hk hf hn H locs hP hS ls hl
      refine lv_iload_n hx hb dJ7_fill_d0a16_6 rfl (lv_at hl 2 rfl) ?_
      refine lv_iload hx hb dJ7_fill_d0a16_7 (lv_at hl 3 rfl) ?_
      refine zi_ge (tgt := 22) hx hb dJ7_fill_d0a16_9 (by decide) (by omega) (by omega) (fun c1 => ?_) (fun c1 => ?_)
      ·
        have hP : va_P D vwCl (zq_wd F 30 (zCE cL cR F (va_up T i (fun _ => v0)) top Z)) H := zC_extT hP (zupx (fun j hj => hf j (by omega)))
        exact zretV hx hb hr hlk hS hP dJ7_fill_d0a16_22 ⟨rfl, rfl⟩
      ·
        refine lv_aload_n hx hb dJ7_fill_d0a16_12 rfl (lv_at hl 0 rfl) ?_
        refine lv_iload_n hx hb dJ7_fill_d0a16_13 rfl (lv_at hl 2 rfl) ?_
        refine lv_lload_n hx hb dJ7_fill_d0a16_14 rfl (lv_at hl 1 rfl) ?_
        refine zlast (q := (i + 12)) (k := k) (E' := (zCE cL cR F (va_up T i (vp_updL f k v0)) top Z)) hx hb hAm hP hF hS (by omega) (zC_t (by omega)) (by omega) (by decide) dJ7_fill_d0a16_15 (by first | exact zC_ut (by omega) | (rw [zC_ut (by omega)]; simp only [bx_uu, va_up_eq])) (fun H locs hP hS => ?_)
        refine lv_iinc (v := (nI (k + 1))) (lv' := [(3, .int (nI (k + 1))), (0, .ref (F (i + 12))), (1, .long v0), (4, .int (nI 49))]) hx hb dJ7_fill_d0a16_16 hl (k := 2) rfl (zinc (by omega)) (by decide) rfl (fun ls hl => ?_)
        refine lv_goto (tgt := 6) hx hb dJ7_fill_d0a16_19 (by decide) ?_
        exact ih6 (k + 1) _ (by omega) (fun j hj => by unfold vp_updL; split; rfl; exact hf j (by omega)) (by omega) H _ hP hS ls (lv_sub hl [1, 2, 0, 3] rfl)
  exact L6 _ 0 _ (by omega) (fun j hj => absurd hj (Nat.not_lt_zero _)) (Nat.lt_succ_self _) H _ hP hS ls (lv_sub hl [2, 3, 1, 0] rfl)

set_option maxHeartbeats 4000000 in
set_option maxRecDepth 100000 in
theorem kX1_top (l : Launch) (D : va_G) (cL cI cR : ClassId) (A : Nat → Prop) (F : Nat → Nat) (hF : zq_F A F 30) (T : Nat → Nat → Int64) (top : Nat → Nat) (Z : zZC) (i : Nat) (hi : i < 12) (t : Nat) (ht : top i = t) : zCt l yX1_top wsX1_top 0 0 D cL cI cR A F 30 (zCE cL cR F T top Z) [.ref (F i)] (fun v2 E2 => v2 = (some (.int (nI t))) ∧ E2 = (zCE cL cR F T top Z)) := by
  refine zStart (cc := cX1_top) (maxL := 1) (ret := (some .int)) (by decide +kernel) rfl (Nat.le_of_ble_eq_true rfl) ?_
  intro p e s m below meth c hx hb hr hml hlk hown hts hAm H hP hS ls hl
  have hown : s.vm.findClass RX1 = some m.cls := hown
  have hl : lv_has ls 1 [(0, .ref (F i))] := hl
  have hinX1 : ∀ w ∈ u_ws RX1 TX1 2, w ∈ wsX1_top := by decide +kernel
  subst ht
  refine lv_aload_n hx hb dX1_top_0 rfl (lv_at hl 0 rfl) ?_
  refine zget (q := i) (k := 1) (v := .int (nI (top i))) hx hb hts hinX1 hown hAm hP (by omega) (zC_s (by omega)) rfl (by decide) (hts (.fieldLink RX1 15 "CosineSeries$Series" "top" "I") (by decide +kernel)) (by first | rfl | simp [va_up, *]) dX1_top_1 ?_
  exact zretI hx hb hr hlk hS hP dX1_top_4 ⟨rfl, rfl⟩

set_option maxHeartbeats 4000000 in
set_option maxRecDepth 100000 in
theorem kX1_at (l : Launch) (D : va_G) (cL cI cR : ClassId) (A : Nat → Prop) (F : Nat → Nat) (hF : zq_F A F 30) (T : Nat → Nat → Int64) (top : Nat → Nat) (Z : zZC) (i : Nat) (hi : i < 12) (j : Nat) (hj : j < 49) (v : Int64) (hv : T i j = v) : zCt l yX1_at wsX1_at 0 0 D cL cI cR A F 30 (zCE cL cR F T top Z) [.ref (F i), .int (nI j)] (fun v2 E2 => v2 = (some (.long v)) ∧ E2 = (zCE cL cR F T top Z)) := by
  refine zStart (cc := cX1_at) (maxL := 2) (ret := (some .long)) (by decide +kernel) rfl (Nat.le_of_ble_eq_true rfl) ?_
  intro p e s m below meth c hx hb hr hml hlk hown hts hAm H hP hS ls hl
  have hown : s.vm.findClass RX1 = some m.cls := hown
  have hl : lv_has ls 2 [(0, .ref (F i)), (1, .int (nI j))] := hl
  have hinX1 : ∀ w ∈ u_ws RX1 TX1 2, w ∈ wsX1_at := by decide +kernel
  subst hv
  refine lv_iload_n hx hb dX1_at_0 rfl (lv_at hl 1 rfl) ?_
  refine zf_lt (tgt := 22) hx hb dX1_at_1 (by decide) (by omega) ?_
  refine lv_iload_n hx hb dX1_at_4 rfl (lv_at hl 1 rfl) ?_
  refine lv_aload_n hx hb dX1_at_5 rfl (lv_at hl 0 rfl) ?_
  refine zget (q := i) (k := 0) (v := .ref (F (i + 12))) hx hb hts hinX1 hown hAm hP (by omega) (zC_s (by omega)) rfl (by decide) (hts (.fieldLink RX1 9 "CosineSeries$Series" "terms" "[J") (by decide +kernel)) (by first | rfl | simp [va_up, *]) dX1_at_6 ?_
  refine zalen (N := 49) (q := (i + 12)) (t0 := 0) hx hb hAm hP (by omega) (zC_t (by omega)) rfl rfl dX1_at_9 ?_
  refine zi_ge (tgt := 22) hx hb dX1_at_10 (by decide) (by omega) (by omega) (fun c1 => ?_) (fun c1 => ?_)
  ·
    exfalso; omega
  ·
    refine lv_aload_n hx hb dX1_at_13 rfl (lv_at hl 0 rfl) ?_
    refine zget (q := i) (k := 0) (v := .ref (F (i + 12))) hx hb hts hinX1 hown hAm hP (by omega) (zC_s (by omega)) rfl (by decide) (hts (.fieldLink RX1 9 "CosineSeries$Series" "terms" "[J") (by decide +kernel)) (by first | rfl | simp [va_up, *]) dX1_at_14 ?_
    refine lv_iload_n hx hb dX1_at_17 rfl (lv_at hl 1 rfl) ?_
    refine zlald (q := (i + 12)) (k := j) (v := ((T i) j)) hx hb hAm hP (by omega) (zC_t (by omega)) (by omega) (by decide) (by first | rfl | simp [va_up, *]) dX1_at_18 ?_
    refine lv_goto (tgt := 23) hx hb dX1_at_19 (by decide) ?_
    exact zretL hx hb hr hlk hS hP dX1_at_23 ⟨rfl, rfl⟩

set_option maxHeartbeats 4000000 in
set_option maxRecDepth 100000 in
theorem kX1_put (l : Launch) (D : va_G) (cL cI cR : ClassId) (A : Nat → Prop) (F : Nat → Nat) (hF : zq_F A F 30) (T : Nat → Nat → Int64) (top : Nat → Nat) (Z : zZC) (i : Nat) (hi : i < 12) (j : Nat) (hj : j < 49) (x : Int64) (T2 : Nat → Nat → Int64) (hT2 : va_up T i (vp_updL (T i) j x) = T2) : zCt l yX1_put wsX1_put 0 0 D cL cI cR A F 30 (zCE cL cR F T top Z) [.ref (F i), .int (nI j), .long x] (fun v2 E2 => v2 = none ∧ E2 = (zCE cL cR F T2 top Z)) := by
  refine zStart (cc := cX1_put) (maxL := 4) (ret := none) (by decide +kernel) rfl (Nat.le_of_ble_eq_true rfl) ?_
  intro p e s m below meth c hx hb hr hml hlk hown hts hAm H hP hS ls hl
  have hown : s.vm.findClass RX1 = some m.cls := hown
  have hl : lv_has ls 4 [(0, .ref (F i)), (1, .int (nI j)), (2, .long x)] := hl
  have hinX1 : ∀ w ∈ u_ws RX1 TX1 2, w ∈ wsX1_put := by decide +kernel
  subst hT2
  refine lv_iload_n hx hb dX1_put_0 rfl (lv_at hl 1 rfl) ?_
  refine zf_lt (tgt := 20) hx hb dX1_put_1 (by decide) (by omega) ?_
  refine lv_iload_n hx hb dX1_put_4 rfl (lv_at hl 1 rfl) ?_
  refine lv_aload_n hx hb dX1_put_5 rfl (lv_at hl 0 rfl) ?_
  refine zget (q := i) (k := 0) (v := .ref (F (i + 12))) hx hb hts hinX1 hown hAm hP (by omega) (zC_s (by omega)) rfl (by decide) (hts (.fieldLink RX1 9 "CosineSeries$Series" "terms" "[J") (by decide +kernel)) (by first | rfl | simp [va_up, *]) dX1_put_6 ?_
  refine zalen (N := 49) (q := (i + 12)) (t0 := 0) hx hb hAm hP (by omega) (zC_t (by omega)) rfl rfl dX1_put_9 ?_
  refine zi_ge (tgt := 20) hx hb dX1_put_10 (by decide) (by omega) (by omega) (fun c1 => ?_) (fun c1 => ?_)
  ·
    exfalso; omega
  ·
    refine lv_aload_n hx hb dX1_put_13 rfl (lv_at hl 0 rfl) ?_
    refine zget (q := i) (k := 0) (v := .ref (F (i + 12))) hx hb hts hinX1 hown hAm hP (by omega) (zC_s (by omega)) rfl (by decide) (hts (.fieldLink RX1 9 "CosineSeries$Series" "terms" "[J") (by decide +kernel)) (by first | rfl | simp [va_up, *]) dX1_put_14 ?_
    refine lv_iload_n hx hb dX1_put_17 rfl (lv_at hl 1 rfl) ?_
    refine lv_lload_n hx hb dX1_put_18 rfl (lv_at hl 2 rfl) ?_
    refine zlast (q := (i + 12)) (k := j) (E' := (zCE cL cR F (va_up T i (vp_updL (T i) j x)) top Z)) hx hb hAm hP hF hS (by omega) (zC_t (by omega)) (by omega) (by decide) dX1_put_19 (by first | exact zC_ut (by omega) | (rw [zC_ut (by omega)]; simp only [bx_uu, va_up_eq])) (fun H locs hP hS => ?_)
    exact zretV hx hb hr hlk hS hP dX1_put_20 ⟨rfl, rfl⟩

set_option maxHeartbeats 4000000 in
set_option maxRecDepth 100000 in
theorem kX1_clear (l : Launch) (D : va_G) (cL cI cR : ClassId) (A : Nat → Prop) (F : Nat → Nat) (hF : zq_F A F 30) (T : Nat → Nat → Int64) (top : Nat → Nat) (Z : zZC) (i : Nat) (hi : i < 12) : zCt l yX1_clear wsX1_clear 1 24 D cL cI cR A F 30 (zCE cL cR F T top Z) [.ref (F i)] (fun v2 E2 => v2 = none ∧ E2 = (zCE cL cR F (va_up T i (fun _ => 0)) (va_up top i 0) Z)) := by
  refine zStart (cc := cX1_clear) (maxL := 1) (ret := none) (by decide +kernel) rfl (Nat.le_of_ble_eq_true rfl) ?_
  intro p e s m below meth c hx hb hr hml hlk hown hts hAm H hP hS ls hl
  have hown : s.vm.findClass RX1 = some m.cls := hown
  have hl : lv_has ls 1 [(0, .ref (F i))] := hl
  have hinX1 : ∀ w ∈ u_ws RX1 TX1 2, w ∈ wsX1_clear := by decide +kernel
  refine lv_aload_n hx hb dX1_clear_0 rfl (lv_at hl 0 rfl) ?_
  refine zget (q := i) (k := 0) (v := .ref (F (i + 12))) hx hb hts hinX1 hown hAm hP (by omega) (zC_s (by omega)) rfl (by decide) (hts (.fieldLink RX1 9 "CosineSeries$Series" "terms" "[J") (by decide +kernel)) (by first | rfl | simp [va_up, *]) dX1_clear_1 ?_
  refine lv_lconst (v := (0 : Int64)) hx hb dX1_clear_4 (by decide +kernel) ?_
  refine zcallS (As := [.ref (F (i + 12)), .long (0 : Int64)]) (rest := []) (k := 2) hx hb hml hown hts (kJ7_fill_d0a16 l D cL cI cR A F hF T top Z i hi 0) gX1_clear_J7_fill_d0a16 rfl (by decide +kernel) ⟨Nat.le_of_ble_eq_true rfl, Nat.le_of_ble_eq_true rfl⟩ hAm hP hS rfl hl.1 rfl (Nat.le_of_ble_eq_true rfl) dX1_clear_5 ⟨Nat.zero_le _, Nat.zero_le _⟩ (zkn (fun H locs hP hS => ?_))
  refine W.eq (g2 := F0 m 8 ls []) rfl ?_
  refine lv_aload_n hx hb dX1_clear_8 rfl (lv_at hl 0 rfl) ?_
  refine lv_iconst (v := nI 0) hx hb dX1_clear_9 (by decide +kernel) ?_
  refine zput (q := i) (k := 1) (ty := .int) (E' := (zCE cL cR F (va_up T i (fun _ => 0)) (va_up top i 0) Z)) hx hb hts hinX1 tyX1 tyX1_ok nmX1 hown hAm hP hF hS (by omega) (zC_s (by omega)) rfl (by decide) (hts (.fieldLink RX1 15 "CosineSeries$Series" "top" "I") (by decide +kernel)) rfl rfl rfl rfl (Nat.le_of_ble_eq_true rfl) dX1_clear_10 (by first | exact zC_us (by omega) | (rw [List.set_cons_succ, List.set_cons_zero, zC_us (by omega)]; simp only [bx_uu, va_up_eq])) (fun H locs hP hS => ?_)
  exact zretV hx hb hr hlk hS hP dX1_clear_13 ⟨rfl, rfl⟩

set_option maxHeartbeats 4000000 in
set_option maxRecDepth 100000 in
theorem kX1_take (l : Launch) (D : va_G) (cL cI cR : ClassId) (A : Nat → Prop) (F : Nat → Nat) (hF : zq_F A F 30) (T : Nat → Nat → Int64) (top : Nat → Nat) (Z : zZC) (i : Nat) (hi : i < 12) (a : Nat) (ha : a < 12) (f9 : Nat → Int64) (hf9 : T a = f9) (t9 : Nat) (ht9 : top a = t9) : zCt l yX1_take wsX1_take 1 21 D cL cI cR A F 30 (zCE cL cR F T top Z) [.ref (F i), .ref (F a)] (fun v2 E2 => v2 = none ∧ E2 = (zCE cL cR F (va_up T i f9) (va_up top i t9) Z)) := by
  refine zStart (cc := cX1_take) (maxL := 3) (ret := none) (by decide +kernel) rfl (Nat.le_of_ble_eq_true rfl) ?_
  intro p e s m below meth c hx hb hr hml hlk hown hts hAm H hP hS ls hl
  have hown : s.vm.findClass RX1 = some m.cls := hown
  have hl : lv_has ls 3 [(0, .ref (F i)), (1, .ref (F a))] := hl
  have hinX1 : ∀ w ∈ u_ws RX1 TX1 2, w ∈ wsX1_take := by decide +kernel
  refine lv_iconst (v := nI 0) hx hb dX1_take_0 (by decide +kernel) ?_
  refine lv_istore_n (lv' := [(2, .int (nI 0)), (0, .ref (F i)), (1, .ref (F a))]) hx hb dX1_take_1 rfl hl (by decide) rfl (fun ls hl => ?_)
  have hP : va_P D vwCl (zq_wd F 30 (zCE cL cR F (va_up T i (T i)) top Z)) H := by rw [zup_self]; exact hP
  have L2 : ∀ (n : Nat) (k : Nat) (f : Nat → Int64) (hk : k ≤ 49) (hf : ∀ j, j < k → f j = T a j) (hai : a = i → f = T i) (hn : 49 - k < n) (H : Heap) (locs : List Loc), va_P D vwCl (zq_wd F 30 (zCE cL cR F (va_up T i f) top Z)) H → va_S A s.heap H locs → ∀ (ls : Array Slot), lv_has ls 3 [(0, .ref (F i)), (1, .ref (F a)), (2, .int (nI k))] → W p l e ({ frames := 1, cells := 0, slots := 0, locals := 21 }) s m ([.ref (F i), .ref (F a)] : List Value).toArray below meth c H locs 0 0 (zQ below D A F 30 [.ref (F i), .ref (F a)] s (fun v2 E2 => v2 = none ∧ E2 = (zCE cL cR F (va_up T i f9) (va_up top i t9) Z))) (F0 m 2 ls []) := by
    intro n
    induction n with
    | zero =>
      intro k f hk hf hai hn
      exact absurd hn (Nat.not_lt_zero _)
    | succ n ih2 =>
      intro k f hk hf hai hn H locs hP hS ls hl
      refine lv_iload_n hx hb dX1_take_2 rfl (lv_at hl 2 rfl) ?_
      refine lv_aload_n hx hb dX1_take_3 rfl (lv_at hl 0 rfl) ?_
      refine zget (q := i) (k := 0) (v := .ref (F (i + 12))) hx hb hts hinX1 hown hAm hP (by omega) (zC_s (by omega)) rfl (by decide) (hts (.fieldLink RX1 9 "CosineSeries$Series" "terms" "[J") (by decide +kernel)) (by first | rfl | simp [va_up, *]) dX1_take_4 ?_
      refine zalen (N := 49) (q := (i + 12)) (t0 := 0) hx hb hAm hP (by omega) (zC_t (by omega)) rfl rfl dX1_take_7 ?_
      refine zi_ge (tgt := 28) hx hb dX1_take_8 (by decide) (by omega) (by omega) (fun c1 => ?_) (fun c1 => ?_)
      ·
        have hP : va_P D vwCl (zq_wd F 30 (zCE cL cR F (va_up T i (T a)) top Z)) H := zC_extT hP (zupx (fun j hj => hf j (by omega)))
        refine lv_aload_n hx hb dX1_take_28 rfl (lv_at hl 0 rfl) ?_
        refine lv_aload_n hx hb dX1_take_29 rfl (lv_at hl 1 rfl) ?_
        refine zget (q := a) (k := 1) (v := .int (nI (top a))) hx hb hts hinX1 hown hAm hP (by omega) (zC_s (by omega)) rfl (by decide) (hts (.fieldLink RX1 15 "CosineSeries$Series" "top" "I") (by decide +kernel)) (by first | rfl | simp [va_up, *]) dX1_take_30 ?_
        refine zput (q := i) (k := 1) (ty := .int) (E' := (zCE cL cR F (va_up T i (T a)) (va_up top i (top a)) Z)) hx hb hts hinX1 tyX1 tyX1_ok nmX1 hown hAm hP hF hS (by omega) (zC_s (by omega)) rfl (by decide) (hts (.fieldLink RX1 15 "CosineSeries$Series" "top" "I") (by decide +kernel)) rfl rfl rfl rfl (Nat.le_of_ble_eq_true rfl) dX1_take_33 (by first | exact zC_us (by omega) | (rw [List.set_cons_succ, List.set_cons_zero, zC_us (by omega)]; simp only [bx_uu, va_up_eq])) (fun H locs hP hS => ?_)
        exact zretV hx hb hr hlk hS hP dX1_take_36 ⟨rfl, by rw [hf9, ht9]⟩
      ·
        have hva : va_up T i f a k = T a k := by
          by_cases h : a = i
          · rw [hai h]; subst h; rw [va_up_eq]
          · simp [va_up, h]
        refine lv_aload_n hx hb dX1_take_11 rfl (lv_at hl 0 rfl) ?_
        refine zget (q := i) (k := 0) (v := .ref (F (i + 12))) hx hb hts hinX1 hown hAm hP (by omega) (zC_s (by omega)) rfl (by decide) (hts (.fieldLink RX1 9 "CosineSeries$Series" "terms" "[J") (by decide +kernel)) (by first | rfl | simp [va_up, *]) dX1_take_12 ?_
        refine lv_iload_n hx hb dX1_take_15 rfl (lv_at hl 2 rfl) ?_
        refine lv_aload_n hx hb dX1_take_16 rfl (lv_at hl 1 rfl) ?_
        refine lv_iload_n hx hb dX1_take_17 rfl (lv_at hl 2 rfl) ?_
        refine zcallV (As := [.int (nI k)]) (rest := [.int (nI k), .ref (F (i + 12))]) (q := a) (k := 1) hx hb hml hown hts (kX1_at l D cL cI cR A F hF (va_up T i f) top Z a ha k (by omega) (T a k) hva) gX1_take_X1_at rfl (by decide +kernel) ⟨Nat.le_of_ble_eq_true rfl, Nat.le_of_ble_eq_true rfl⟩ rfl (by omega) (zC_s (by omega)) rfl rfl hAm hP hS rfl hl.1 rfl (Nat.le_of_ble_eq_true rfl) dX1_take_18 ⟨Nat.zero_le _, Nat.zero_le _⟩ (zkn (fun H locs hP hS => ?_))
        refine W.eq (g2 := F0 m 21 ls [.long (T a k), .int (nI k), .ref (F (i + 12))]) rfl ?_
        refine zlast (q := (i + 12)) (k := k) (E' := (zCE cL cR F (va_up T i (vp_updL f k (T a k))) top Z)) hx hb hAm hP hF hS (by omega) (zC_t (by omega)) (by omega) (by decide) dX1_take_21 (by first | exact zC_ut (by omega) | (rw [zC_ut (by omega)]; simp only [bx_uu, va_up_eq])) (fun H locs hP hS => ?_)
        refine lv_iinc (v := (nI (k + 1))) (lv' := [(2, .int (nI (k + 1))), (0, .ref (F i)), (1, .ref (F a))]) hx hb dX1_take_22 hl (k := 2) rfl (zinc (by omega)) (by decide) rfl (fun ls hl => ?_)
        refine lv_goto (tgt := 2) hx hb dX1_take_25 (by decide) ?_
        exact ih2 (k + 1) _ (by omega) (fun j hj => by unfold vp_updL; split; rename_i h; rw [h]; exact hf j (by omega)) (fun h => by rw [hai h]; subst h; funext j; unfold vp_updL; split; rename_i h; rw [h]; rfl) (by omega) H _ hP hS ls (lv_sub hl [1, 2, 0] rfl)
  exact L2 _ 0 _ (by omega) (fun j hj => absurd hj (Nat.not_lt_zero _)) (fun _ => rfl) (Nat.lt_succ_self _) H _ hP hS ls (lv_sub hl [1, 2, 0] rfl)

set_option maxHeartbeats 4000000 in
set_option maxRecDepth 100000 in
theorem kX1_trim (l : Launch) (D : va_G) (cL cI cR : ClassId) (A : Nat → Prop) (F : Nat → Nat) (hF : zq_F A F 30) (T : Nat → Nat → Int64) (top : Nat → Nat) (Z : zZC) (i : Nat) (hi : i < 12) (f : Nat → Int64) (hf : T i = f) (t2 : Nat → Nat) (ht2 : va_up top i (ztop f 48) = t2) : zCt l yX1_trim wsX1_trim 0 0 D cL cI cR A F 30 (zCE cL cR F T top Z) [.ref (F i)] (fun v2 E2 => v2 = none ∧ E2 = (zCE cL cR F T t2 Z)) := by
  refine zStart (cc := cX1_trim) (maxL := 2) (ret := none) (by decide +kernel) rfl (Nat.le_of_ble_eq_true rfl) ?_
  intro p e s m below meth c hx hb hr hml hlk hown hts hAm H hP hS ls hl
  have hown : s.vm.findClass RX1 = some m.cls := hown
  have hl : lv_has ls 2 [(0, .ref (F i))] := hl
  have hinX1 : ∀ w ∈ u_ws RX1 TX1 2, w ∈ wsX1_trim := by decide +kernel
  subst hf
  refine lv_aload_n hx hb dX1_trim_0 rfl (lv_at hl 0 rfl) ?_
  refine lv_iconst (v := nI 0) hx hb dX1_trim_1 (by decide +kernel) ?_
  refine zput (q := i) (k := 1) (ty := .int) (E' := (zCE cL cR F T (va_up top i 0) Z)) hx hb hts hinX1 tyX1 tyX1_ok nmX1 hown hAm hP hF hS (by omega) (zC_s (by omega)) rfl (by decide) (hts (.fieldLink RX1 15 "CosineSeries$Series" "top" "I") (by decide +kernel)) rfl rfl rfl rfl (Nat.le_of_ble_eq_true rfl) dX1_trim_2 (by first | exact zC_us (by omega) | (rw [List.set_cons_succ, List.set_cons_zero, zC_us (by omega)]; simp only [bx_uu, va_up_eq])) (fun H locs hP hS => ?_)
  refine lv_iconst (v := nI 1) hx hb dX1_trim_5 (by decide +kernel) ?_
  refine lv_istore_n (lv' := [(1, .int (nI 1)), (0, .ref (F i))]) hx hb dX1_trim_6 rfl hl (by decide) rfl (fun ls hl => ?_)
  have L7 : ∀ (n : Nat) (j t : Nat) (hj : j ≤ 48) (ht : t = ztop (T i) j) (hn : 48 - j < n) (H : Heap) (locs : List Loc), va_P D vwCl (zq_wd F 30 (zCE cL cR F T (va_up top i t) Z)) H → va_S A s.heap H locs → ∀ (ls : Array Slot), lv_has ls 2 [(0, .ref (F i)), (1, .int (nI (j + 1)))] → W p l e ({ frames := 0, cells := 0, slots := 0, locals := 0 }) s m ([.ref (F i)] : List Value).toArray below meth c H locs 0 0 (zQ below D A F 30 [.ref (F i)] s (fun v2 E2 => v2 = none ∧ E2 = (zCE cL cR F T t2 Z))) (F0 m 7 ls []) := by
    intro n
    induction n with
    | zero =>
      intro j t hj ht hn
      exact absurd hn (Nat.not_lt_zero _)
    | succ n ih7 =>
      intro j t hj ht hn H locs hP hS ls hl
      refine lv_iload_n hx hb dX1_trim_7 rfl (lv_at hl 1 rfl) ?_
      refine lv_aload_n hx hb dX1_trim_8 rfl (lv_at hl 0 rfl) ?_
      refine zget (q := i) (k := 0) (v := .ref (F (i + 12))) hx hb hts hinX1 hown hAm hP (by omega) (zC_s (by omega)) rfl (by decide) (hts (.fieldLink RX1 9 "CosineSeries$Series" "terms" "[J") (by decide +kernel)) (by first | rfl | simp [va_up, *]) dX1_trim_9 ?_
      refine zalen (N := 49) (q := (i + 12)) (t0 := 0) hx hb hAm hP (by omega) (zC_t (by omega)) rfl rfl dX1_trim_12 ?_
      refine zi_ge (tgt := 38) hx hb dX1_trim_13 (by decide) (by omega) (by omega) (fun c1 => ?_) (fun c1 => ?_)
      ·
        exact zretV hx hb hr hlk hS hP dX1_trim_38 ⟨rfl, by rw [← ht2, ht, show j = 48 by omega]⟩
      ·
        refine lv_aload_n hx hb dX1_trim_16 rfl (lv_at hl 0 rfl) ?_
        refine zget (q := i) (k := 0) (v := .ref (F (i + 12))) hx hb hts hinX1 hown hAm hP (by omega) (zC_s (by omega)) rfl (by decide) (hts (.fieldLink RX1 9 "CosineSeries$Series" "terms" "[J") (by decide +kernel)) (by first | rfl | simp [va_up, *]) dX1_trim_17 ?_
        refine lv_iload_n hx hb dX1_trim_20 rfl (lv_at hl 1 rfl) ?_
        refine zlald (q := (i + 12)) (k := (j + 1)) (v := ((T i) (j + 1))) hx hb hAm hP (by omega) (zC_t (by omega)) (by omega) (by decide) (by first | rfl | simp [va_up, *]) dX1_trim_21 ?_
        refine lv_lconst (v := (0 : Int64)) hx hb dX1_trim_22 (by decide +kernel) ?_
        refine zl_eq (tgt := 32) hx hb dX1_trim_23 dX1_trim_24 (by decide) (fun c2 => ?_) (fun c2 => ?_)
        ·
          refine lv_iinc (v := (nI (j + 2))) (lv' := [(1, .int (nI (j + 2))), (0, .ref (F i))]) hx hb dX1_trim_32 hl (k := 1) rfl (zinc (by omega)) (by decide) rfl (fun ls hl => ?_)
          refine lv_goto (tgt := 7) hx hb dX1_trim_35 (by decide) ?_
          exact ih7 (j + 1) t (by omega) (by simp [ztop, *]) (by omega) H _ hP hS ls (lv_sub hl [1, 0] rfl)
        ·
          refine lv_aload_n hx hb dX1_trim_27 rfl (lv_at hl 0 rfl) ?_
          refine lv_iload_n hx hb dX1_trim_28 rfl (lv_at hl 1 rfl) ?_
          refine zput (q := i) (k := 1) (ty := .int) (E' := (zCE cL cR F T (va_up top i (j + 1)) Z)) hx hb hts hinX1 tyX1 tyX1_ok nmX1 hown hAm hP hF hS (by omega) (zC_s (by omega)) rfl (by decide) (hts (.fieldLink RX1 15 "CosineSeries$Series" "top" "I") (by decide +kernel)) rfl rfl rfl rfl (Nat.le_of_ble_eq_true rfl) dX1_trim_29 (by first | exact zC_us (by omega) | (rw [List.set_cons_succ, List.set_cons_zero, zC_us (by omega)]; simp only [bx_uu, va_up_eq])) (fun H locs hP hS => ?_)
          refine lv_iinc (v := (nI (j + 2))) (lv' := [(1, .int (nI (j + 2))), (0, .ref (F i))]) hx hb dX1_trim_32 hl (k := 1) rfl (zinc (by omega)) (by decide) rfl (fun ls hl => ?_)
          refine lv_goto (tgt := 7) hx hb dX1_trim_35 (by decide) ?_
          exact ih7 (j + 1) (j + 1) (by omega) (by simp [ztop, *]) (by omega) H _ hP hS ls (lv_sub hl [1, 0] rfl)
  exact L7 _ 0 0 (by omega) rfl (Nat.lt_succ_self _) H _ hP hS ls (lv_sub hl [1, 0] rfl)

set_option maxHeartbeats 4000000 in
set_option maxRecDepth 100000 in
theorem kX1_error (l : Launch) (D : va_G) (cL cI cR : ClassId) (A : Nat → Prop) (F : Nat → Nat) (hF : zq_F A F 30) (T : Nat → Nat → Int64) (top : Nat → Nat) (Z : zZC) (i : Nat) (hi : i < 12) (f : Nat → Int64) (hf : T i = f) (t : Nat) (ht : top i = t) (hi48 : t < 1000) : zCt l yX1_error wsX1_error 1 13 D cL cI cR A F 30 (zCE cL cR F T top Z) [.ref (F i)] (fun v2 E2 => v2 = (some (.long (zerr f t 49))) ∧ E2 = (zCE cL cR F T top Z)) := by
  refine zStart (cc := cX1_error) (maxL := 6) (ret := (some .long)) (by decide +kernel) rfl (Nat.le_of_ble_eq_true rfl) ?_
  intro p e s m below meth c hx hb hr hml hlk hown hts hAm H hP hS ls hl
  have hown : s.vm.findClass RX1 = some m.cls := hown
  have hl : lv_has ls 6 [(0, .ref (F i))] := hl
  have hinX1 : ∀ w ∈ u_ws RX1 TX1 2, w ∈ wsX1_error := by decide +kernel
  subst hf; subst ht
  refine lv_aload_n hx hb dX1_error_0 rfl (lv_at hl 0 rfl) ?_
  refine zget (q := i) (k := 1) (v := .int (nI (top i))) hx hb hts hinX1 hown hAm hP (by omega) (zC_s (by omega)) rfl (by decide) (hts (.fieldLink RX1 15 "CosineSeries$Series" "top" "I") (by decide +kernel)) (by first | rfl | simp [va_up, *]) dX1_error_1 ?_
  refine lv_bipush (v := nI 24) hx hb dX1_error_4 (by decide +kernel) ?_
  refine zi_le (tgt := 13) hx hb dX1_error_6 (by decide) (by omega) (by omega) (fun c1 => ?_) (fun c1 => ?_)
  ·
    refine lv_aload_n hx hb dX1_error_13 rfl (lv_at hl 0 rfl) ?_
    refine zget (q := i) (k := 0) (v := .ref (F (i + 12))) hx hb hts hinX1 hown hAm hP (by omega) (zC_s (by omega)) rfl (by decide) (hts (.fieldLink RX1 9 "CosineSeries$Series" "terms" "[J") (by decide +kernel)) (by first | rfl | simp [va_up, *]) dX1_error_14 ?_
    refine lv_astore_n (lv' := [(1, .ref (F (i + 12))), (0, .ref (F i))]) hx hb dX1_error_17 rfl hl (by decide) rfl (fun ls hl => ?_)
    refine lv_aload_n hx hb dX1_error_18 rfl (lv_at hl 0 rfl) ?_
    refine zalen (N := 49) (q := (i + 12)) (t0 := 0) hx hb hAm hP (by omega) (zC_t (by omega)) rfl rfl dX1_error_19 ?_
    refine lv_istore_n (lv' := [(2, .int (nI 49)), (1, .ref (F (i + 12))), (0, .ref (F i))]) hx hb dX1_error_20 rfl hl (by decide) rfl (fun ls hl => ?_)
    refine lv_iconst (v := nI 0) hx hb dX1_error_21 (by decide +kernel) ?_
    refine lv_istore_n (lv' := [(3, .int (nI 0)), (2, .int (nI 49)), (1, .ref (F (i + 12))), (0, .ref (F i))]) hx hb dX1_error_22 rfl hl (by decide) rfl (fun ls hl => ?_)
    have L23 : ∀ (n : Nat) (k : Nat) (hk : k ≤ 49) (hg : zbig (T i) k = false) (hn : 49 - k < n) (H : Heap) (locs : List Loc), va_P D vwCl (zq_wd F 30 (zCE cL cR F T top Z)) H → va_S A s.heap H locs → ∀ (ls : Array Slot), lv_has ls 6 [(0, .ref (F i)), (1, .ref (F (i + 12))), (2, .int (nI 49)), (3, .int (nI k))] → W p l e ({ frames := 1, cells := 0, slots := 0, locals := 13 }) s m ([.ref (F i)] : List Value).toArray below meth c H locs 0 0 (zQ below D A F 30 [.ref (F i)] s (fun v2 E2 => v2 = (some (.long (zerr (T i) (top i) 49))) ∧ E2 = (zCE cL cR F T top Z))) (F0 m 23 ls []) := by
      intro n
      induction n with
      | zero =>
        intro k hk hg hn
        exact absurd hn (Nat.not_lt_zero _)
      | succ n ih23 =>
        intro k hk hg hn H locs hP hS ls hl
        refine lv_iload_n hx hb dX1_error_23 rfl (lv_at hl 3 rfl) ?_
        refine lv_iload_n hx hb dX1_error_24 rfl (lv_at hl 2 rfl) ?_
        refine zi_ge (tgt := 55) hx hb dX1_error_25 (by decide) (by omega) (by omega) (fun c2 => ?_) (fun c2 => ?_)
        ·
          refine lv_lconst (v := (0 : Int64)) hx hb dX1_error_55 (by decide +kernel) ?_
          exact zretL hx hb hr hlk hS hP dX1_error_56 ⟨by unfold zerr; rw [if_neg (by omega), show (49 : Nat) = k by omega, hg]; rfl, rfl⟩
        ·
          refine lv_aload_n hx hb dX1_error_28 rfl (lv_at hl 1 rfl) ?_
          refine lv_iload_n hx hb dX1_error_29 rfl (lv_at hl 3 rfl) ?_
          refine zlald (q := (i + 12)) (k := k) (v := ((T i) k)) hx hb hAm hP (by omega) (zC_t (by omega)) (by omega) (by decide) (by first | rfl | simp [va_up, *]) dX1_error_30 ?_
          refine lv_lstore (lv' := [(4, .long ((T i) k)), (0, .ref (F i)), (1, .ref (F (i + 12))), (2, .int (nI 49)), (3, .int (nI k))]) hx hb dX1_error_31 hl (by decide) rfl (fun ls hl => ?_)
          refine lv_lload hx hb dX1_error_33 (lv_at hl 0 rfl) ?_
          refine va_mabs_long hx hb (hml.trans hl.1.symm) hown (hts (.methodLink RX1 31 Lib.MathLoose.abs_long.x) (by decide +kernel)) (hts (.static Lib.MathLoose.abs_long.x) (by decide +kernel)) (hts (.initialized "java/lang/Math") (by decide +kernel)) (hts (.code Lib.MathLoose.abs_long.x Lib.MathLoose.abs_long.code 2 (some .long)) (by decide +kernel)) (Nat.le_of_ble_eq_true rfl) (Nat.le_of_ble_eq_true rfl) (Nat.zero_le _) (Nat.zero_le _) dX1_error_35 ?_
          refine W.eq (g2 := F0 m 38 ls [.long (zabs ((T i) k))]) rfl ?_
          refine lv_ldc2 hx hb hown (hts (.constantLong RX1 37 (268435456)) (by decide +kernel)) dX1_error_38 ?_
          refine zl_le (tgt := 49) hx hb dX1_error_41 dX1_error_42 (by decide) (fun c3 => ?_) (fun c3 => ?_)
          ·
            refine lv_iinc (v := (nI (k + 1))) (lv' := [(3, .int (nI (k + 1))), (4, .long ((T i) k)), (0, .ref (F i)), (1, .ref (F (i + 12))), (2, .int (nI 49))]) hx hb dX1_error_49 hl (k := 4) rfl (zinc (by omega)) (by decide) rfl (fun ls hl => ?_)
            refine lv_goto (tgt := 23) hx hb dX1_error_52 (by decide) ?_
            exact ih23 (k + 1) (by omega) (zbig_s hg c3) (by omega) H _ hP hS ls (lv_sub hl [2, 3, 4, 0] rfl)
          ·
            refine lv_ldc2 hx hb hown (hts (.constantLong RX1 39 (-9000000000000000003)) (by decide +kernel)) dX1_error_45 ?_
            exact zretL hx hb hr hlk hS hP dX1_error_48 ⟨by unfold zerr; rw [if_neg (by omega), if_pos (zbig_of (Int64.not_le.mp c3) 49 (by omega))], rfl⟩
    exact L23 _ 0 (by omega) rfl (Nat.lt_succ_self _) H _ hP hS ls (lv_sub hl [3, 2, 1, 0] rfl)
  ·
    refine lv_ldc2 hx hb hown (hts (.constantLong RX1 29 (-9000000000000000002)) (by decide +kernel)) dX1_error_9 ?_
    exact zretL hx hb hr hlk hS hP dX1_error_12 ⟨by unfold zerr; rw [if_pos c1], rfl⟩

set_option maxHeartbeats 4000000 in
set_option maxRecDepth 100000 in
theorem kX1_valueAt (l : Launch) (D : va_G) (cL cI cR : ClassId) (A : Nat → Prop) (F : Nat → Nat) (hF : zq_F A F 30) (T : Nat → Nat → Int64) (top : Nat → Nat) (Z : zZC) (i : Nat) (hi : i < 12) (x : Int64) (f : Nat → Int64) (hf : T i = f) (t : Nat) (ht : top i = t) (hi48 : t ≤ 48) : zCt l yX1_valueAt wsX1_valueAt 2 52 D cL cI cR A F 30 (zCE cL cR F T top Z) [.ref (F i), .long x] (fun v2 E2 => v2 = (some (.long (zval f t x))) ∧ E2 = (zCE cL cR F T top Z)) := by
  refine zStart (cc := cX1_valueAt) (maxL := 10) (ret := (some .long)) (by decide +kernel) rfl (Nat.le_of_ble_eq_true rfl) ?_
  intro p e s m below meth c hx hb hr hml hlk hown hts hAm H hP hS ls hl
  have hown : s.vm.findClass RX1 = some m.cls := hown
  have hl : lv_has ls 10 [(0, .ref (F i)), (1, .long x)] := hl
  have hinX1 : ∀ w ∈ u_ws RX1 TX1 2, w ∈ wsX1_valueAt := by decide +kernel
  subst hf; subst ht
  refine lv_lconst (v := (0 : Int64)) hx hb dX1_valueAt_0 (by decide +kernel) ?_
  refine lv_lstore_n (lv' := [(3, .long (0 : Int64)), (0, .ref (F i)), (1, .long x)]) hx hb dX1_valueAt_1 rfl hl (by decide) rfl (fun ls hl => ?_)
  refine lv_lconst (v := (0 : Int64)) hx hb dX1_valueAt_2 (by decide +kernel) ?_
  refine lv_lstore (lv' := [(5, .long (0 : Int64)), (3, .long (0 : Int64)), (0, .ref (F i)), (1, .long x)]) hx hb dX1_valueAt_3 hl (by decide) rfl (fun ls hl => ?_)
  refine lv_aload_n hx hb dX1_valueAt_5 rfl (lv_at hl 2 rfl) ?_
  refine zget (q := i) (k := 1) (v := .int (nI (top i))) hx hb hts hinX1 hown hAm hP (by omega) (zC_s (by omega)) rfl (by decide) (hts (.fieldLink RX1 15 "CosineSeries$Series" "top" "I") (by decide +kernel)) (by first | rfl | simp [va_up, *]) dX1_valueAt_6 ?_
  refine lv_istore (lv' := [(7, .int (nI (top i))), (5, .long (0 : Int64)), (3, .long (0 : Int64)), (0, .ref (F i)), (1, .long x)]) hx hb dX1_valueAt_9 hl (by decide) rfl (fun ls hl => ?_)
  have L11 : ∀ (n : Nat) (k : Nat) (b d : Int64) (hk : k ≤ 48) (hv : zclen (T i) x k b d = zval (T i) (top i) x) (hn : k < n) (H : Heap) (locs : List Loc), va_P D vwCl (zq_wd F 30 (zCE cL cR F T top Z)) H → va_S A s.heap H locs → ∀ (ls : Array Slot), lv_has ls 10 [(0, .ref (F i)), (1, .long x), (3, .long b), (5, .long d), (7, .int (nI k))] → W p l e ({ frames := 2, cells := 0, slots := 0, locals := 52 }) s m ([.ref (F i), .long x] : List Value).toArray below meth c H locs 0 0 (zQ below D A F 30 [.ref (F i), .long x] s (fun v2 E2 => v2 = (some (.long (zval (T i) (top i) x))) ∧ E2 = (zCE cL cR F T top Z))) (F0 m 11 ls []) := by
    intro n
    induction n with
    | zero =>
      intro k b d hk hv hn
      exact absurd hn (Nat.not_lt_zero _)
    | succ n ih11 =>
      intro k b d hk hv hn H locs hP hS ls hl
      refine lv_iload hx hb dX1_valueAt_11 (lv_at hl 4 rfl) ?_
      refine lv_iconst (v := nI 1) hx hb dX1_valueAt_13 (by decide +kernel) ?_
      refine zi_lt (tgt := 54) hx hb dX1_valueAt_14 (by decide) (by omega) (by omega) (fun c1 => ?_) (fun c1 => ?_)
      ·
        obtain rfl : k = 0 := by omega
        have hl : lv_has ls 10 [(0, .ref (F i)), (1, .long x), (3, .long b), (5, .long d), (7, .int (nI 0))] := by exact hl
        refine lv_aload_n hx hb dX1_valueAt_54 rfl (lv_at hl 0 rfl) ?_
        refine lv_iconst (v := nI 0) hx hb dX1_valueAt_55 (by decide +kernel) ?_
        refine zcallV (As := [.int (nI 0)]) (rest := []) (q := i) (k := 1) hx hb hml hown hts (kX1_at l D cL cI cR A F hF T top Z i (by omega) 0 (by omega) ((T i) 0) (by first | rfl | simp [va_up, *])) gX1_valueAt_X1_at rfl (by decide +kernel) ⟨Nat.le_of_ble_eq_true rfl, Nat.le_of_ble_eq_true rfl⟩ rfl (by omega) (zC_s (by omega)) rfl rfl hAm hP hS rfl hl.1 rfl (Nat.le_of_ble_eq_true rfl) dX1_valueAt_56 ⟨Nat.zero_le _, Nat.zero_le _⟩ (zkn (fun H locs hP hS => ?_))
        refine W.eq (g2 := F0 m 59 ls [.long ((T i) 0)]) rfl ?_
        refine lv_lload_n hx hb dX1_valueAt_59 rfl (lv_at hl 1 rfl) ?_
        refine lv_lload_n hx hb dX1_valueAt_60 rfl (lv_at hl 2 rfl) ?_
        refine lv_lmul hx hb dX1_valueAt_61 ?_
        refine lv_ldc2 hx hb hown (hts (.constantLong RX1 43 (1048576)) (by decide +kernel)) dX1_valueAt_62 ?_
        refine zcallN (As := [.long (x * b), .long (1048576 : Int64)]) (rest := [.long ((T i) 0)]) (k := 2) hx hb hml hown hts (kX2_rounded l D cL cI cR A F 30 (zCE cL cR F T top Z) (x * b) (1048576 : Int64) (by decide)) gX1_valueAt_X2_rounded_n45 rfl hAm.2.1 (hts (.initialized RX2) (by decide +kernel)) (hts (.static yX2_rounded) (by decide +kernel)) (by decide +kernel) ⟨Nat.le_of_ble_eq_true rfl, Nat.le_of_ble_eq_true rfl⟩ hAm hP hS rfl hl.1 rfl (Nat.le_of_ble_eq_true rfl) dX1_valueAt_65 ⟨Nat.zero_le _, Nat.zero_le _⟩ (zkn (fun H locs hP hS => ?_))
        refine W.eq (g2 := F0 m 68 ls [.long (zR (x * b) (1048576 : Int64)), .long ((T i) 0)]) rfl ?_
        refine lv_ladd hx hb dX1_valueAt_68 ?_
        refine lv_lload hx hb dX1_valueAt_69 (lv_at hl 3 rfl) ?_
        refine lv_lsub hx hb dX1_valueAt_71 ?_
        exact zretL hx hb hr hlk hS hP dX1_valueAt_72 ⟨by rw [← hv]; rfl, rfl⟩
      ·
        obtain ⟨k, rfl⟩ : ∃ j, k = j + 1 := ⟨k - 1, by omega⟩
        have hl : lv_has ls 10 [(0, .ref (F i)), (1, .long x), (3, .long b), (5, .long d), (7, .int (nI (k + 1)))] := by exact hl
        refine lv_aload_n hx hb dX1_valueAt_17 rfl (lv_at hl 0 rfl) ?_
        refine lv_iload hx hb dX1_valueAt_18 (lv_at hl 4 rfl) ?_
        refine zcallV (As := [.int (nI (k + 1))]) (rest := []) (q := i) (k := 1) hx hb hml hown hts (kX1_at l D cL cI cR A F hF T top Z i (by omega) (k + 1) (by omega) ((T i) (k + 1)) (by first | rfl | simp [va_up, *])) gX1_valueAt_X1_at rfl (by decide +kernel) ⟨Nat.le_of_ble_eq_true rfl, Nat.le_of_ble_eq_true rfl⟩ rfl (by omega) (zC_s (by omega)) rfl rfl hAm hP hS rfl hl.1 rfl (Nat.le_of_ble_eq_true rfl) dX1_valueAt_20 ⟨Nat.zero_le _, Nat.zero_le _⟩ (zkn (fun H locs hP hS => ?_))
        refine W.eq (g2 := F0 m 23 ls [.long ((T i) (k + 1))]) rfl ?_
        refine lv_ldc2 hx hb hown (hts (.constantLong RX1 41 (2)) (by decide +kernel)) dX1_valueAt_23 ?_
        refine lv_lload_n hx hb dX1_valueAt_26 rfl (lv_at hl 1 rfl) ?_
        refine lv_lmul hx hb dX1_valueAt_27 ?_
        refine lv_lload_n hx hb dX1_valueAt_28 rfl (lv_at hl 2 rfl) ?_
        refine lv_lmul hx hb dX1_valueAt_29 ?_
        refine lv_ldc2 hx hb hown (hts (.constantLong RX1 43 (1048576)) (by decide +kernel)) dX1_valueAt_30 ?_
        refine zcallN (As := [.long (((2 : Int64) * x) * b), .long (1048576 : Int64)]) (rest := [.long ((T i) (k + 1))]) (k := 2) hx hb hml hown hts (kX2_rounded l D cL cI cR A F 30 (zCE cL cR F T top Z) (((2 : Int64) * x) * b) (1048576 : Int64) (by decide)) gX1_valueAt_X2_rounded_n45 rfl hAm.2.1 (hts (.initialized RX2) (by decide +kernel)) (hts (.static yX2_rounded) (by decide +kernel)) (by decide +kernel) ⟨Nat.le_of_ble_eq_true rfl, Nat.le_of_ble_eq_true rfl⟩ hAm hP hS rfl hl.1 rfl (Nat.le_of_ble_eq_true rfl) dX1_valueAt_33 ⟨Nat.zero_le _, Nat.zero_le _⟩ (zkn (fun H locs hP hS => ?_))
        refine W.eq (g2 := F0 m 36 ls [.long (zR (((2 : Int64) * x) * b) (1048576 : Int64)), .long ((T i) (k + 1))]) rfl ?_
        refine lv_ladd hx hb dX1_valueAt_36 ?_
        refine lv_lload hx hb dX1_valueAt_37 (lv_at hl 3 rfl) ?_
        refine lv_lsub hx hb dX1_valueAt_39 ?_
        refine lv_lstore (lv' := [(8, .long ((((T i) (k + 1)) + (zR (((2 : Int64) * x) * b) (1048576 : Int64))) - d)), (0, .ref (F i)), (1, .long x), (3, .long b), (5, .long d), (7, .int (nI (k + 1)))]) hx hb dX1_valueAt_40 hl (by decide) rfl (fun ls hl => ?_)
        refine lv_lload_n hx hb dX1_valueAt_42 rfl (lv_at hl 3 rfl) ?_
        refine lv_lstore (lv' := [(5, .long b), (8, .long ((((T i) (k + 1)) + (zR (((2 : Int64) * x) * b) (1048576 : Int64))) - d)), (0, .ref (F i)), (1, .long x), (3, .long b), (7, .int (nI (k + 1)))]) hx hb dX1_valueAt_43 hl (by decide) rfl (fun ls hl => ?_)
        refine lv_lload hx hb dX1_valueAt_45 (lv_at hl 1 rfl) ?_
        refine lv_lstore_n (lv' := [(3, .long ((((T i) (k + 1)) + (zR (((2 : Int64) * x) * b) (1048576 : Int64))) - d)), (5, .long b), (8, .long ((((T i) (k + 1)) + (zR (((2 : Int64) * x) * b) (1048576 : Int64))) - d)), (0, .ref (F i)), (1, .long x), (7, .int (nI (k + 1)))]) hx hb dX1_valueAt_47 rfl hl (by decide) rfl (fun ls hl => ?_)
        refine lv_iinc (v := (nI k)) (lv' := [(7, .int (nI k)), (3, .long ((((T i) (k + 1)) + (zR (((2 : Int64) * x) * b) (1048576 : Int64))) - d)), (5, .long b), (8, .long ((((T i) (k + 1)) + (zR (((2 : Int64) * x) * b) (1048576 : Int64))) - d)), (0, .ref (F i)), (1, .long x)]) hx hb dX1_valueAt_48 hl (k := 5) rfl (zinc (by omega)) (by decide) rfl (fun ls hl => ?_)
        refine lv_goto (tgt := 11) hx hb dX1_valueAt_51 (by decide) ?_
        exact ih11 k ((((T i) (k + 1)) + (zR (((2 : Int64) * x) * b) (1048576 : Int64))) - d) b (by omega) hv (by omega) H _ hP hS ls (lv_sub hl [4, 5, 1, 2, 0] rfl)
  exact L11 _ (top i) 0 0 (by omega) rfl (Nat.lt_succ_self _) H _ hP hS ls (lv_sub hl [3, 4, 2, 1, 0] rfl)

set_option maxHeartbeats 4000000 in
set_option maxRecDepth 100000 in
theorem kX1_topWithin (l : Launch) (D : va_G) (cL cI cR : ClassId) (A : Nat → Prop) (F : Nat → Nat) (hF : zq_F A F 30) (T : Nat → Nat → Int64) (top : Nat → Nat) (Z : zZC) (i : Nat) (hi : i < 12) (tol : Int32) (f : Nat → Int64) (hf : T i = f) (t : Nat) (ht : top i = t) (hi48 : t ≤ 48) : zCt l yX1_topWithin wsX1_topWithin 1 21 D cL cI cR A F 30 (zCE cL cR F T top Z) [.ref (F i), .int tol] (fun v2 E2 => v2 = (some (.int (nI (ztw f tol.toInt64 t 0)))) ∧ E2 = (zCE cL cR F T top Z)) := by
  refine zStart (cc := cX1_topWithin) (maxL := 5) (ret := (some .int)) (by decide +kernel) rfl (Nat.le_of_ble_eq_true rfl) ?_
  intro p e s m below meth c hx hb hr hml hlk hown hts hAm H hP hS ls hl
  have hown : s.vm.findClass RX1 = some m.cls := hown
  have hl : lv_has ls 5 [(0, .ref (F i)), (1, .int tol)] := hl
  have hinX1 : ∀ w ∈ u_ws RX1 TX1 2, w ∈ wsX1_topWithin := by decide +kernel
  subst hf; subst ht
  refine lv_aload_n hx hb dX1_topWithin_0 rfl (lv_at hl 0 rfl) ?_
  refine zget (q := i) (k := 1) (v := .int (nI (top i))) hx hb hts hinX1 hown hAm hP (by omega) (zC_s (by omega)) rfl (by decide) (hts (.fieldLink RX1 15 "CosineSeries$Series" "top" "I") (by decide +kernel)) (by first | rfl | simp [va_up, *]) dX1_topWithin_1 ?_
  refine lv_istore_n (lv' := [(2, .int (nI (top i))), (0, .ref (F i)), (1, .int tol)]) hx hb dX1_topWithin_4 rfl hl (by decide) rfl (fun ls hl => ?_)
  refine lv_aload_n hx hb dX1_topWithin_5 rfl (lv_at hl 1 rfl) ?_
  refine lv_iload_n hx hb dX1_topWithin_6 rfl (lv_at hl 0 rfl) ?_
  refine zcallV (As := [.int (nI (top i))]) (rest := []) (q := i) (k := 1) hx hb hml hown hts (kX1_at l D cL cI cR A F hF T top Z i (by omega) (top i) (by omega) ((T i) (top i)) (by first | rfl | simp [va_up, *])) gX1_topWithin_X1_at rfl (by decide +kernel) ⟨Nat.le_of_ble_eq_true rfl, Nat.le_of_ble_eq_true rfl⟩ rfl (by omega) (zC_s (by omega)) rfl rfl hAm hP hS rfl hl.1 rfl (Nat.le_of_ble_eq_true rfl) dX1_topWithin_7 ⟨Nat.zero_le _, Nat.zero_le _⟩ (zkn (fun H locs hP hS => ?_))
  refine W.eq (g2 := F0 m 10 ls [.long ((T i) (top i))]) rfl ?_
  refine va_mabs_long hx hb (hml.trans hl.1.symm) hown (hts (.methodLink RX1 31 Lib.MathLoose.abs_long.x) (by decide +kernel)) (hts (.static Lib.MathLoose.abs_long.x) (by decide +kernel)) (hts (.initialized "java/lang/Math") (by decide +kernel)) (hts (.code Lib.MathLoose.abs_long.x Lib.MathLoose.abs_long.code 2 (some .long)) (by decide +kernel)) (Nat.le_of_ble_eq_true rfl) (Nat.le_of_ble_eq_true rfl) (Nat.zero_le _) (Nat.zero_le _) dX1_topWithin_10 ?_
  refine W.eq (g2 := F0 m 13 ls [.long (zabs ((T i) (top i)))]) rfl ?_
  refine lv_lstore_n (lv' := [(3, .long (zabs ((T i) (top i)))), (2, .int (nI (top i))), (0, .ref (F i)), (1, .int tol)]) hx hb dX1_topWithin_13 rfl hl (by decide) rfl (fun ls hl => ?_)
  have hl : lv_has ls 5 [(3, .long (0 + zabs (T i (top i)))), (2, .int (nI (top i))), (0, .ref (F i)), (1, .int tol)] := by rw [Int64.zero_add]; exact hl
  have L14 : ∀ (n : Nat) (k : Nat) (u : Int64) (hk : k ≤ 48) (hv : ztw (T i) tol.toInt64 k u = ztw (T i) tol.toInt64 (top i) 0) (hn : k < n) (H : Heap) (locs : List Loc), va_P D vwCl (zq_wd F 30 (zCE cL cR F T top Z)) H → va_S A s.heap H locs → ∀ (ls : Array Slot), lv_has ls 5 [(0, .ref (F i)), (1, .int tol), (2, .int (nI k)), (3, .long (u + zabs (T i k)))] → W p l e ({ frames := 1, cells := 0, slots := 0, locals := 21 }) s m ([.ref (F i), .int tol] : List Value).toArray below meth c H locs 0 0 (zQ below D A F 30 [.ref (F i), .int tol] s (fun v2 E2 => v2 = (some (.int (nI (ztw (T i) tol.toInt64 (top i) 0)))) ∧ E2 = (zCE cL cR F T top Z))) (F0 m 14 ls []) := by
    intro n
    induction n with
    | zero =>
      intro k u hk hv hn
      exact absurd hn (Nat.not_lt_zero _)
    | succ n ih14 =>
      intro k u hk hv hn H locs hP hS ls hl
      refine lv_iload_n hx hb dX1_topWithin_14 rfl (lv_at hl 2 rfl) ?_
      refine zf_le (tgt := 42) hx hb dX1_topWithin_15 (by decide) (by omega) (fun c1 => ?_) (fun c1 => ?_)
      ·
        have hk0 : k = 0 := c1
        refine lv_iload_n hx hb dX1_topWithin_42 rfl (lv_at hl 2 rfl) ?_
        exact zretI hx hb hr hlk hS hP dX1_topWithin_43 ⟨by rw [← hv, hk0]; rfl, rfl⟩
      ·
        obtain ⟨k, rfl⟩ : ∃ j, k = j + 1 := ⟨k - 1, by omega⟩
        have hl : lv_has ls 5 [(0, .ref (F i)), (1, .int tol), (2, .int (nI (k + 1))), (3, .long (u + zabs (T i (k + 1))))] := by exact hl
        refine lv_lload_n hx hb dX1_topWithin_18 rfl (lv_at hl 3 rfl) ?_
        refine lv_iload_n hx hb dX1_topWithin_19 rfl (lv_at hl 1 rfl) ?_
        refine lv_i2l (v := tol.toInt64) hx hb dX1_topWithin_20 rfl ?_
        refine zl_gt (tgt := 42) hx hb dX1_topWithin_21 dX1_topWithin_22 (by decide) (fun c2 => ?_) (fun c2 => ?_)
        ·
          refine lv_iload_n hx hb dX1_topWithin_42 rfl (lv_at hl 2 rfl) ?_
          exact zretI hx hb hr hlk hS hP dX1_topWithin_43 ⟨by rw [← hv]; simp only [ztw]; rw [if_neg (Int64.not_le.mpr c2)], rfl⟩
        ·
          have c2 := Int64.not_lt.mp c2
          refine lv_iinc (v := (nI k)) (lv' := [(2, .int (nI k)), (0, .ref (F i)), (1, .int tol), (3, .long (u + zabs (T i (k + 1))))]) hx hb dX1_topWithin_25 hl (k := 2) rfl (zinc (by omega)) (by decide) rfl (fun ls hl => ?_)
          refine lv_lload_n hx hb dX1_topWithin_28 rfl (lv_at hl 3 rfl) ?_
          refine lv_aload_n hx hb dX1_topWithin_29 rfl (lv_at hl 1 rfl) ?_
          refine lv_iload_n hx hb dX1_topWithin_30 rfl (lv_at hl 0 rfl) ?_
          refine zcallV (As := [.int (nI k)]) (rest := [.long (u + zabs (T i (k + 1)))]) (q := i) (k := 1) hx hb hml hown hts (kX1_at l D cL cI cR A F hF T top Z i (by omega) k (by omega) ((T i) k) (by first | rfl | simp [va_up, *])) gX1_topWithin_X1_at rfl (by decide +kernel) ⟨Nat.le_of_ble_eq_true rfl, Nat.le_of_ble_eq_true rfl⟩ rfl (by omega) (zC_s (by omega)) rfl rfl hAm hP hS rfl hl.1 rfl (Nat.le_of_ble_eq_true rfl) dX1_topWithin_31 ⟨Nat.zero_le _, Nat.zero_le _⟩ (zkn (fun H locs hP hS => ?_))
          refine W.eq (g2 := F0 m 34 ls [.long ((T i) k), .long (u + zabs (T i (k + 1)))]) rfl ?_
          refine va_mabs_long hx hb (hml.trans hl.1.symm) hown (hts (.methodLink RX1 31 Lib.MathLoose.abs_long.x) (by decide +kernel)) (hts (.static Lib.MathLoose.abs_long.x) (by decide +kernel)) (hts (.initialized "java/lang/Math") (by decide +kernel)) (hts (.code Lib.MathLoose.abs_long.x Lib.MathLoose.abs_long.code 2 (some .long)) (by decide +kernel)) (Nat.le_of_ble_eq_true rfl) (Nat.le_of_ble_eq_true rfl) (Nat.zero_le _) (Nat.zero_le _) dX1_topWithin_34 ?_
          refine W.eq (g2 := F0 m 37 ls [.long (zabs ((T i) k)), .long (u + zabs (T i (k + 1)))]) rfl ?_
          refine lv_ladd hx hb dX1_topWithin_37 ?_
          refine lv_lstore_n (lv' := [(3, .long ((u + zabs (T i (k + 1))) + (zabs ((T i) k)))), (2, .int (nI k)), (0, .ref (F i)), (1, .int tol)]) hx hb dX1_topWithin_38 rfl hl (by decide) rfl (fun ls hl => ?_)
          refine lv_goto (tgt := 14) hx hb dX1_topWithin_39 (by decide) ?_
          exact ih14 k (u + zabs (T i (k + 1))) (by omega) (by rw [← hv]; simp only [ztw]; rw [if_pos c2]) (by omega) H _ hP hS ls (lv_sub hl [2, 3, 1, 0] rfl)
  exact L14 _ (top i) 0 (by omega) rfl (Nat.lt_succ_self _) H _ hP hS ls (lv_sub hl [2, 3, 1, 0] rfl)

set_option maxHeartbeats 4000000 in
set_option maxRecDepth 100000 in
theorem kX1_dropAbove (l : Launch) (D : va_G) (cL cI cR : ClassId) (A : Nat → Prop) (F : Nat → Nat) (hF : zq_F A F 30) (T : Nat → Nat → Int64) (top : Nat → Nat) (Z : zZC) (i : Nat) (hi : i < 12) (m0 : Nat) (hm0 : m0 ≤ 48) (f0 : Nat → Int64) (hf0 : T i = f0) : zCt l yX1_dropAbove wsX1_dropAbove 1 21 D cL cI cR A F 30 (zCE cL cR F T top Z) [.ref (F i), .int (nI m0)] (fun v2 E2 => v2 = none ∧ E2 = (zCE cL cR F (va_up T i (zcut f0 m0)) (va_up top i (ztop (zcut f0 m0) 48)) Z)) := by
  refine zStart (cc := cX1_dropAbove) (maxL := 3) (ret := none) (by decide +kernel) rfl (Nat.le_of_ble_eq_true rfl) ?_
  intro p e s m below meth c hx hb hr hml hlk hown hts hAm H hP hS ls hl
  have hown : s.vm.findClass RX1 = some m.cls := hown
  have hl : lv_has ls 3 [(0, .ref (F i)), (1, .int (nI m0))] := hl
  have hinX1 : ∀ w ∈ u_ws RX1 TX1 2, w ∈ wsX1_dropAbove := by decide +kernel
  subst hf0
  refine lv_iload_n hx hb dX1_dropAbove_0 rfl (lv_at hl 1 rfl) ?_
  refine lv_iconst (v := nI 0) hx hb dX1_dropAbove_1 (by decide +kernel) ?_
  refine va_mmax hx hb (hml.trans hl.1.symm) hown (hts (.methodLink RX1 49 Lib.Math.max.name) (by decide +kernel)) (hts (.static Lib.Math.max.name) (by decide +kernel)) (hts (.initialized "java/lang/Math") (by decide +kernel)) (hts (.code Lib.Math.max.name Lib.Math.max.code 2 (some .int)) (by decide +kernel)) (Nat.le_of_ble_eq_true rfl) (Nat.le_of_ble_eq_true rfl) (Nat.zero_le _) (Nat.zero_le _) dX1_dropAbove_2 ?_
  refine W.eq (g2 := F0 m 5 ls [.int (nI m0)]) (by rw [zmax0 (by omega)]) ?_
  refine lv_iconst (v := nI 1) hx hb dX1_dropAbove_5 (by decide +kernel) ?_
  refine ziadd (d := (m0 + 1)) hx hb (by omega) dX1_dropAbove_6 ?_
  refine lv_istore_n (lv' := [(2, .int (nI (m0 + 1))), (0, .ref (F i)), (1, .int (nI m0))]) hx hb dX1_dropAbove_7 rfl hl (by decide) rfl (fun ls hl => ?_)
  have hP : va_P D vwCl (zq_wd F 30 (zCE cL cR F (va_up T i (T i)) top Z)) H := by rw [zup_self]; exact hP
  have L8 : ∀ (n : Nat) (k : Nat) (f : Nat → Int64) (hk : k ≤ 49 ∧ m0 < k) (hf : ∀ j, j < 49 → f j = if m0 < j ∧ j < k then 0 else T i j) (hn : 49 - k < n) (H : Heap) (locs : List Loc), va_P D vwCl (zq_wd F 30 (zCE cL cR F (va_up T i f) top Z)) H → va_S A s.heap H locs → ∀ (ls : Array Slot), lv_has ls 3 [(0, .ref (F i)), (2, .int (nI k))] → W p l e ({ frames := 1, cells := 0, slots := 0, locals := 21 }) s m ([.ref (F i), .int (nI m0)] : List Value).toArray below meth c H locs 0 0 (zQ below D A F 30 [.ref (F i), .int (nI m0)] s (fun v2 E2 => v2 = none ∧ E2 = (zCE cL cR F (va_up T i (zcut (T i) m0)) (va_up top i (ztop (zcut (T i) m0) 48)) Z))) (F0 m 8 ls []) := by
    intro n
    induction n with
    | zero =>
      intro k f hk hf hn
      exact absurd hn (Nat.not_lt_zero _)
    | succ n ih8 =>
      intro k f hk hf hn H locs hP hS ls hl
      refine lv_iload_n hx hb dX1_dropAbove_8 rfl (lv_at hl 1 rfl) ?_
      refine lv_aload_n hx hb dX1_dropAbove_9 rfl (lv_at hl 0 rfl) ?_
      refine zget (q := i) (k := 0) (v := .ref (F (i + 12))) hx hb hts hinX1 hown hAm hP (by omega) (zC_s (by omega)) rfl (by decide) (hts (.fieldLink RX1 9 "CosineSeries$Series" "terms" "[J") (by decide +kernel)) (by first | rfl | simp [va_up, *]) dX1_dropAbove_10 ?_
      refine zalen (N := 49) (q := (i + 12)) (t0 := 0) hx hb hAm hP (by omega) (zC_t (by omega)) rfl rfl dX1_dropAbove_13 ?_
      refine zi_ge (tgt := 30) hx hb dX1_dropAbove_14 (by decide) (by omega) (by omega) (fun c1 => ?_) (fun c1 => ?_)
      ·
        have hP : va_P D vwCl (zq_wd F 30 (zCE cL cR F (va_up T i (zcut (T i) m0)) top Z)) H := zC_extT hP (zupx (fun j hj => by rw [hf j hj]; unfold zcut; by_cases h : j ≤ m0; (rw [if_pos h, if_neg (by omega)]); (rw [if_neg h, if_pos (by omega)])))
        refine lv_aload_n hx hb dX1_dropAbove_30 rfl (lv_at hl 0 rfl) ?_
        refine zcallV (As := []) (rest := []) (q := i) (k := 0) hx hb hml hown hts (kX1_trim l D cL cI cR A F hF (va_up T i (zcut (T i) m0)) top Z i (by omega) (zcut (T i) m0) (by first | rfl | simp [va_up, *]) (va_up top i (ztop (zcut (T i) m0) 48)) (by first | rfl | simp only [bx_uu])) gX1_dropAbove_X1_trim rfl (by decide +kernel) ⟨Nat.le_of_ble_eq_true rfl, Nat.le_of_ble_eq_true rfl⟩ rfl (by omega) (zC_s (by omega)) rfl rfl hAm hP hS rfl hl.1 rfl (Nat.le_of_ble_eq_true rfl) dX1_dropAbove_31 ⟨Nat.zero_le _, Nat.zero_le _⟩ (zkn (fun H locs hP hS => ?_))
        refine W.eq (g2 := F0 m 34 ls []) rfl ?_
        exact zretV hx hb hr hlk hS hP dX1_dropAbove_34 ⟨rfl, rfl⟩
      ·
        refine lv_aload_n hx hb dX1_dropAbove_17 rfl (lv_at hl 0 rfl) ?_
        refine zget (q := i) (k := 0) (v := .ref (F (i + 12))) hx hb hts hinX1 hown hAm hP (by omega) (zC_s (by omega)) rfl (by decide) (hts (.fieldLink RX1 9 "CosineSeries$Series" "terms" "[J") (by decide +kernel)) (by first | rfl | simp [va_up, *]) dX1_dropAbove_18 ?_
        refine lv_iload_n hx hb dX1_dropAbove_21 rfl (lv_at hl 1 rfl) ?_
        refine lv_lconst (v := (0 : Int64)) hx hb dX1_dropAbove_22 (by decide +kernel) ?_
        refine zlast (q := (i + 12)) (k := k) (E' := (zCE cL cR F (va_up T i (vp_updL f k (0 : Int64))) top Z)) hx hb hAm hP hF hS (by omega) (zC_t (by omega)) (by omega) (by decide) dX1_dropAbove_23 (by first | exact zC_ut (by omega) | (rw [zC_ut (by omega)]; simp only [bx_uu, va_up_eq])) (fun H locs hP hS => ?_)
        refine lv_iinc (v := (nI (k + 1))) (lv' := [(2, .int (nI (k + 1))), (0, .ref (F i))]) hx hb dX1_dropAbove_24 hl (k := 1) rfl (zinc (by omega)) (by decide) rfl (fun ls hl => ?_)
        refine lv_goto (tgt := 8) hx hb dX1_dropAbove_27 (by decide) ?_
        exact ih8 (k + 1) _ (by omega) (fun j hj => by unfold vp_updL; split; (rw [if_pos (by omega)]); (rw [hf j hj]; by_cases h : m0 < j ∧ j < k; (rw [if_pos h, if_pos (by omega)]); (rw [if_neg h, if_neg (by omega)]))) (by omega) H _ hP hS ls (lv_sub hl [1, 0] rfl)
  exact L8 _ (m0 + 1) _ (by omega) (fun j _ => by rw [if_neg (by omega)]) (Nat.lt_succ_self _) H _ hP hS ls (lv_sub hl [1, 0] rfl)

set_option maxHeartbeats 4000000 in
set_option maxRecDepth 100000 in
theorem kX1_placeOf (l : Launch) (D : va_G) (cL cI cR : ClassId) (A : Nat → Prop) (F : Nat → Nat) (hF : zq_F A F 30) (T : Nat → Nat → Int64) (top : Nat → Nat) (Z : zZC) (i : Nat) (hi : i < 12) (k : Nat) (hk48 : k ≤ 48) (f : Nat → Int64) (hf : T i = f) (t : Nat) (ht0 : top i = t) (hi48 : t ≤ 48) : zCt l yX1_placeOf wsX1_placeOf 1 21 D cL cI cR A F 30 (zCE cL cR F T top Z) [.ref (F i), .int (nI k)] (fun v2 E2 => v2 = (some (.int (nI (zplace f k (t + 1))))) ∧ E2 = (zCE cL cR F T top Z)) := by
  refine zStart (cc := cX1_placeOf) (maxL := 8) (ret := (some .int)) (by decide +kernel) rfl (Nat.le_of_ble_eq_true rfl) ?_
  intro p e s m below meth c hx hb hr hml hlk hown hts hAm H hP hS ls hl
  have hown : s.vm.findClass RX1 = some m.cls := hown
  have hl : lv_has ls 8 [(0, .ref (F i)), (1, .int (nI k))] := hl
  have hinX1 : ∀ w ∈ u_ws RX1 TX1 2, w ∈ wsX1_placeOf := by decide +kernel
  subst hf; subst ht0
  refine lv_aload_n hx hb dX1_placeOf_0 rfl (lv_at hl 0 rfl) ?_
  refine lv_iload_n hx hb dX1_placeOf_1 rfl (lv_at hl 1 rfl) ?_
  refine zcallV (As := [.int (nI k)]) (rest := []) (q := i) (k := 1) hx hb hml hown hts (kX1_at l D cL cI cR A F hF T top Z i (by omega) k (by omega) ((T i) k) (by first | rfl | simp [va_up, *])) gX1_placeOf_X1_at rfl (by decide +kernel) ⟨Nat.le_of_ble_eq_true rfl, Nat.le_of_ble_eq_true rfl⟩ rfl (by omega) (zC_s (by omega)) rfl rfl hAm hP hS rfl hl.1 rfl (Nat.le_of_ble_eq_true rfl) dX1_placeOf_2 ⟨Nat.zero_le _, Nat.zero_le _⟩ (zkn (fun H locs hP hS => ?_))
  refine W.eq (g2 := F0 m 5 ls [.long ((T i) k)]) rfl ?_
  refine va_mabs_long hx hb (hml.trans hl.1.symm) hown (hts (.methodLink RX1 31 Lib.MathLoose.abs_long.x) (by decide +kernel)) (hts (.static Lib.MathLoose.abs_long.x) (by decide +kernel)) (hts (.initialized "java/lang/Math") (by decide +kernel)) (hts (.code Lib.MathLoose.abs_long.x Lib.MathLoose.abs_long.code 2 (some .long)) (by decide +kernel)) (Nat.le_of_ble_eq_true rfl) (Nat.le_of_ble_eq_true rfl) (Nat.zero_le _) (Nat.zero_le _) dX1_placeOf_5 ?_
  refine W.eq (g2 := F0 m 8 ls [.long (zabs ((T i) k))]) rfl ?_
  refine lv_lstore_n (lv' := [(2, .long (zabs ((T i) k))), (0, .ref (F i)), (1, .int (nI k))]) hx hb dX1_placeOf_8 rfl hl (by decide) rfl (fun ls hl => ?_)
  refine lv_iconst (v := nI 0) hx hb dX1_placeOf_9 (by decide +kernel) ?_
  refine lv_istore (lv' := [(4, .int (nI 0)), (2, .long (zabs ((T i) k))), (0, .ref (F i)), (1, .int (nI k))]) hx hb dX1_placeOf_10 hl (by decide) rfl (fun ls hl => ?_)
  refine lv_iconst (v := nI 0) hx hb dX1_placeOf_12 (by decide +kernel) ?_
  refine lv_istore (lv' := [(5, .int (nI 0)), (4, .int (nI 0)), (2, .long (zabs ((T i) k))), (0, .ref (F i)), (1, .int (nI k))]) hx hb dX1_placeOf_13 hl (by decide) rfl (fun ls hl => ?_)
  have L15 : ∀ (n : Nat) (o ct : Nat) (ho : o ≤ top i + 1) (ht : ct = zplace (T i) k o) (hct : ct ≤ o) (hn : top i + 1 - o < n) (H : Heap) (locs : List Loc), va_P D vwCl (zq_wd F 30 (zCE cL cR F T top Z)) H → va_S A s.heap H locs → ∀ (ls : Array Slot), lv_has ls 8 [(0, .ref (F i)), (1, .int (nI k)), (2, .long (zabs (T i k))), (4, .int (nI ct)), (5, .int (nI o))] → W p l e ({ frames := 1, cells := 0, slots := 0, locals := 21 }) s m ([.ref (F i), .int (nI k)] : List Value).toArray below meth c H locs 0 0 (zQ below D A F 30 [.ref (F i), .int (nI k)] s (fun v2 E2 => v2 = (some (.int (nI (zplace (T i) k (top i + 1))))) ∧ E2 = (zCE cL cR F T top Z))) (F0 m 15 ls []) := by
    intro n
    induction n with
    | zero =>
      intro o ct ho ht hct hn
      exact absurd hn (Nat.not_lt_zero _)
    | succ n ih15 =>
      intro o ct ho ht hct hn H locs hP hS ls hl
      refine lv_iload hx hb dX1_placeOf_15 (lv_at hl 4 rfl) ?_
      refine lv_aload_n hx hb dX1_placeOf_17 rfl (lv_at hl 0 rfl) ?_
      refine zget (q := i) (k := 1) (v := .int (nI (top i))) hx hb hts hinX1 hown hAm hP (by omega) (zC_s (by omega)) rfl (by decide) (hts (.fieldLink RX1 15 "CosineSeries$Series" "top" "I") (by decide +kernel)) (by first | rfl | simp [va_up, *]) dX1_placeOf_18 ?_
      refine zi_gt (tgt := 64) hx hb dX1_placeOf_21 (by decide) (by omega) (by omega) (fun c1 => ?_) (fun c1 => ?_)
      ·
        refine lv_iload hx hb dX1_placeOf_64 (lv_at hl 3 rfl) ?_
        exact zretI hx hb hr hlk hS hP dX1_placeOf_66 ⟨by rw [ht, show o = top i + 1 by omega], rfl⟩
      ·
        refine lv_aload_n hx hb dX1_placeOf_24 rfl (lv_at hl 0 rfl) ?_
        refine lv_iload hx hb dX1_placeOf_25 (lv_at hl 4 rfl) ?_
        refine zcallV (As := [.int (nI o)]) (rest := []) (q := i) (k := 1) hx hb hml hown hts (kX1_at l D cL cI cR A F hF T top Z i (by omega) o (by omega) ((T i) o) (by first | rfl | simp [va_up, *])) gX1_placeOf_X1_at rfl (by decide +kernel) ⟨Nat.le_of_ble_eq_true rfl, Nat.le_of_ble_eq_true rfl⟩ rfl (by omega) (zC_s (by omega)) rfl rfl hAm hP hS rfl hl.1 rfl (Nat.le_of_ble_eq_true rfl) dX1_placeOf_27 ⟨Nat.zero_le _, Nat.zero_le _⟩ (zkn (fun H locs hP hS => ?_))
        refine W.eq (g2 := F0 m 30 ls [.long ((T i) o)]) rfl ?_
        refine va_mabs_long hx hb (hml.trans hl.1.symm) hown (hts (.methodLink RX1 31 Lib.MathLoose.abs_long.x) (by decide +kernel)) (hts (.static Lib.MathLoose.abs_long.x) (by decide +kernel)) (hts (.initialized "java/lang/Math") (by decide +kernel)) (hts (.code Lib.MathLoose.abs_long.x Lib.MathLoose.abs_long.code 2 (some .long)) (by decide +kernel)) (Nat.le_of_ble_eq_true rfl) (Nat.le_of_ble_eq_true rfl) (Nat.zero_le _) (Nat.zero_le _) dX1_placeOf_30 ?_
        refine W.eq (g2 := F0 m 33 ls [.long (zabs ((T i) o))]) rfl ?_
        refine lv_lstore (lv' := [(6, .long (zabs ((T i) o))), (0, .ref (F i)), (1, .int (nI k)), (2, .long (zabs (T i k))), (4, .int (nI ct)), (5, .int (nI o))]) hx hb dX1_placeOf_33 hl (by decide) rfl (fun ls hl => ?_)
        refine lv_lload hx hb dX1_placeOf_35 (lv_at hl 0 rfl) ?_
        refine lv_lload_n hx hb dX1_placeOf_37 rfl (lv_at hl 3 rfl) ?_
        refine zl_gt (tgt := 55) hx hb dX1_placeOf_38 dX1_placeOf_39 (by decide) (fun c2 => ?_) (fun c2 => ?_)
        ·
          refine lv_iinc (v := (nI (ct + 1))) (lv' := [(4, .int (nI (ct + 1))), (6, .long (zabs ((T i) o))), (0, .ref (F i)), (1, .int (nI k)), (2, .long (zabs (T i k))), (5, .int (nI o))]) hx hb dX1_placeOf_55 hl (k := 4) rfl (zinc (by omega)) (by decide) rfl (fun ls hl => ?_)
          refine lv_iinc (v := (nI (o + 1))) (lv' := [(5, .int (nI (o + 1))), (4, .int (nI (ct + 1))), (6, .long (zabs ((T i) o))), (0, .ref (F i)), (1, .int (nI k)), (2, .long (zabs (T i k)))]) hx hb dX1_placeOf_58 hl (k := 5) rfl (zinc (by omega)) (by decide) rfl (fun ls hl => ?_)
          refine lv_goto (tgt := 15) hx hb dX1_placeOf_61 (by decide) ?_
          exact ih15 (o + 1) (ct + 1) (by omega) (by simp only [zplace]; rw [ht]; first | rw [if_pos (Or.inl (by assumption))] | rw [if_pos (Or.inr ⟨by assumption, by assumption⟩)] | (rw [if_neg (by rintro (h | h); exact absurd h (by assumption); first | exact absurd h.1 (by assumption) | omega), Nat.add_zero])) (by omega) (by omega) H _ hP hS ls (lv_sub hl [3, 4, 5, 1, 0] rfl)
        ·
          refine lv_lload hx hb dX1_placeOf_42 (lv_at hl 0 rfl) ?_
          refine lv_lload_n hx hb dX1_placeOf_44 rfl (lv_at hl 3 rfl) ?_
          refine zl_ne (tgt := 58) hx hb dX1_placeOf_45 dX1_placeOf_46 (by decide) (fun c3 => ?_) (fun c3 => ?_)
          ·
            refine lv_iinc (v := (nI (o + 1))) (lv' := [(5, .int (nI (o + 1))), (6, .long (zabs ((T i) o))), (0, .ref (F i)), (1, .int (nI k)), (2, .long (zabs (T i k))), (4, .int (nI ct))]) hx hb dX1_placeOf_58 hl (k := 5) rfl (zinc (by omega)) (by decide) rfl (fun ls hl => ?_)
            refine lv_goto (tgt := 15) hx hb dX1_placeOf_61 (by decide) ?_
            exact ih15 (o + 1) ct (by omega) (by simp only [zplace]; rw [ht]; first | rw [if_pos (Or.inl (by assumption))] | rw [if_pos (Or.inr ⟨by assumption, by assumption⟩)] | (rw [if_neg (by rintro (h | h); exact absurd h (by assumption); first | exact absurd h.1 (by assumption) | omega), Nat.add_zero])) (by omega) (by omega) H _ hP hS ls (lv_sub hl [2, 3, 4, 5, 0] rfl)
          ·
            refine lv_iload hx hb dX1_placeOf_49 (lv_at hl 5 rfl) ?_
            refine lv_iload_n hx hb dX1_placeOf_51 rfl (lv_at hl 2 rfl) ?_
            refine zi_ge (tgt := 58) hx hb dX1_placeOf_52 (by decide) (by omega) (by omega) (fun c4 => ?_) (fun c4 => ?_)
            ·
              refine lv_iinc (v := (nI (o + 1))) (lv' := [(5, .int (nI (o + 1))), (6, .long (zabs ((T i) o))), (0, .ref (F i)), (1, .int (nI k)), (2, .long (zabs (T i k))), (4, .int (nI ct))]) hx hb dX1_placeOf_58 hl (k := 5) rfl (zinc (by omega)) (by decide) rfl (fun ls hl => ?_)
              refine lv_goto (tgt := 15) hx hb dX1_placeOf_61 (by decide) ?_
              exact ih15 (o + 1) ct (by omega) (by simp only [zplace]; rw [ht]; first | rw [if_pos (Or.inl (by assumption))] | rw [if_pos (Or.inr ⟨by assumption, by assumption⟩)] | (rw [if_neg (by rintro (h | h); exact absurd h (by assumption); first | exact absurd h.1 (by assumption) | omega), Nat.add_zero])) (by omega) (by omega) H _ hP hS ls (lv_sub hl [2, 3, 4, 5, 0] rfl)
            ·
              refine lv_iinc (v := (nI (ct + 1))) (lv' := [(4, .int (nI (ct + 1))), (6, .long (zabs ((T i) o))), (0, .ref (F i)), (1, .int (nI k)), (2, .long (zabs (T i k))), (5, .int (nI o))]) hx hb dX1_placeOf_55 hl (k := 4) rfl (zinc (by omega)) (by decide) rfl (fun ls hl => ?_)
              refine lv_iinc (v := (nI (o + 1))) (lv' := [(5, .int (nI (o + 1))), (4, .int (nI (ct + 1))), (6, .long (zabs ((T i) o))), (0, .ref (F i)), (1, .int (nI k)), (2, .long (zabs (T i k)))]) hx hb dX1_placeOf_58 hl (k := 5) rfl (zinc (by omega)) (by decide) rfl (fun ls hl => ?_)
              refine lv_goto (tgt := 15) hx hb dX1_placeOf_61 (by decide) ?_
              exact ih15 (o + 1) (ct + 1) (by omega) (by simp only [zplace]; rw [ht]; first | rw [if_pos (Or.inl (by assumption))] | rw [if_pos (Or.inr ⟨by assumption, by assumption⟩)] | (rw [if_neg (by rintro (h | h); exact absurd h (by assumption); first | exact absurd h.1 (by assumption) | omega), Nat.add_zero])) (by omega) (by omega) H _ hP hS ls (lv_sub hl [3, 4, 5, 1, 0] rfl)
  exact L15 _ 0 0 (by omega) rfl (by omega) (Nat.lt_succ_self _) H _ hP hS ls (lv_sub hl [3, 4, 2, 1, 0] rfl)
