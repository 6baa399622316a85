/-! the reference: the private methods -/
theorem zM_rd {C : Nat → Nat → Int64} {s k : Nat} (h : k < 64) : (fun j => C (j / 64) (j % 64)) (64 * s + k) = C s k := by
  show C ((64 * s + k) / 64) ((64 * s + k) % 64) = C s k
  rw [show (64 * s + k) / 64 = s by omega, show (64 * s + k) % 64 = k by omega]
theorem zupm {C : Nat → Nat → Int64} {i : Nat} {f g : Nat → Int64} (h : ∀ j, j < 64 → f j = g j) : ∀ a, a < 12 → ∀ j, j < 64 → va_up C i f a j = va_up C i g a j := by
  intro a _ j hj
  by_cases ha : a = i
  · subst ha; rw [va_up_eq, va_up_eq]; exact h j hj
  · simp [va_up, ha]
theorem ztop_cut {f : Nat → Int64} {d : Nat} : ∀ N, d ≤ N → (∀ j, d < j → f j = 0) → ztop f N = ztop f d := by
  intro N
  induction N with
  | zero => intro h _; rw [show d = 0 by omega]
  | succ N ih =>
    intro h hz
    by_cases e : d = N + 1
    · rw [e]
    · have h1 : f (N + 1) = 0 := hz _ (by omega)
      conv => lhs; unfold ztop
      rw [if_pos h1]
      exact ih (by omega) hz
theorem ztop_ne {f : Nat → Int64} {d : Nat} (h : ¬ f d = 0) : ztop f d = d := by
  cases d with
  | zero => rfl
  | succ d => unfold ztop; rw [if_neg h]
theorem zbig_cut {f : Nat → Int64} {d : Nat} : ∀ N, d ≤ N → (∀ j, d ≤ j → f j = 0) → zbig f N = zbig f d := by
  intro N
  induction N with
  | zero => intro h _; rw [show d = 0 by omega]
  | succ N ih =>
    intro h hz
    by_cases e : d = N + 1
    · rw [e]
    · conv => lhs; unfold zbig
      rw [hz N (by omega), ih (by omega) hz]
      simp [zabs]
/-- above the degree there is nothing -/
theorem ztop_above {f : Nat → Int64} {N : Nat} : ∀ j, ztop f N < j → j ≤ N → f j = 0 := by
  induction N with
  | zero => intro j h1 h2; omega
  | succ N ih =>
    intro j h1 h2
    unfold ztop at h1
    split at h1
    · rename_i h0
      by_cases e : j = N + 1
      · rw [e]; exact h0
      · exact ih j h1 (by omega)
    · omega
theorem zke_of {f : Nat → Int64} {d : Nat} (hd : d ≤ 48) (hz : ∀ j, d < j → f j = 0) : zke f = zerr f (ztop f d) (ztop f d + 1) := by
  have e1 := ztop_cut (f := f) 48 hd hz
  have hle := ztop_le f d
  unfold zke zerr
  rw [e1, zbig_cut (f := f) (d := ztop f d + 1) 49 (by omega) (fun j hj => by
    rcases Nat.lt_or_ge d j with h | h
    · exact hz j h
    · exact ztop_above j (by omega) h)]
theorem zabs_ne {i q k : Nat} (h1 : ¬ i = k + q) (h2 : ¬ q = k + i) : ¬ i - q + (q - i) = k := by
  intro h
  rcases Nat.le_total q i with h3 | h3
  · exact h1 (by omega)
  · exact h2 (by omega)
theorem zsubeq {i j k : Nat} (hi : i < 1000) (hj : j < 1000) (hk : k < 1000) : nI i - nI j = nI k ↔ i = k + j := by
  constructor
  · intro h
    have e := pk_sub_toInt (a := i) (b := j) (by omega) (by omega)
    rw [h, nI_toInt (by omega)] at e
    omega
  · intro h
    rw [h, pk_sub (by omega), Nat.add_sub_cancel]
theorem zpin_0 {a b : Nat → Int64} {k i : Nat} {s : Int64} : ∀ m, (∀ q, q < m → i + q < k) → zpin a b k i m s = s := by
  intro m
  induction m with
  | zero => intro _; rfl
  | succ m ih =>
    intro h
    have h1 := h m (by omega)
    unfold zpin
    rw [ih (fun q hq => h q (by omega)), if_neg (by omega), if_neg (by omega), Int64.add_zero, Int64.add_zero]
theorem zpout_0 {a b : Nat → Int64} {nb k : Nat} : ∀ r, (r ≠ 0 → r - 1 + nb < k) → zpout a b nb k r = 0 := by
  intro r
  induction r with
  | zero => intro _; rfl
  | succ r ih =>
    intro h
    have h1 := h (by omega)
    unfold zpout
    rw [ih (fun _ => by omega), zpin_0 _ (fun q hq => by omega)]
theorem zprod_0 {a b : Nat → Int64} {na nb k : Nat} (h : na + nb < k) : zprod a na b nb k = 0 := by
  unfold zprod
  rw [zpout_0 _ (fun _ => by omega)]
  decide
theorem zring (fl p d c : Int64) : fl * p + c - d = fl * p + -1 * d + c := by
  rw [Int64.neg_mul, Int64.one_mul, Int64.sub_eq_add_neg, Int64.add_assoc, Int64.add_assoc, Int64.add_comm c]
theorem zring0 (fl p d : Int64) : fl * p - d = fl * p + -1 * d := by
  rw [Int64.neg_mul, Int64.one_mul, Int64.sub_eq_add_neg]
theorem zup8a {T : Nat → Nat → Int64} {v : Nat → Int64} {i k : Nat} (h : ¬ i = k) (j : Nat) : va_up T k v i j = T i j := by rw [zup8 _ _ h]
theorem zshr {p : Nat} (hp : p ≤ 4) : nI 16 >>> (nI p &&& 31) = nI (2 ^ (4 - p)) := by
  have h : p = 0 ∨ p = 1 ∨ p = 2 ∨ p = 3 ∨ p = 4 := by omega
  rcases h with rfl | rfl | rfl | rfl | rfl <;> decide
theorem zd16 {p : Nat} (hp : p ≤ 4) : nI 16 / nI (2 ^ p) = nI (2 ^ (4 - p)) := by
  have h : p = 0 ∨ p = 1 ∨ p = 2 ∨ p = 3 ∨ p = 4 := by omega
  rcases h with rfl | rfl | rfl | rfl | rfl <;> decide

set_option maxHeartbeats 4000000 in
set_option maxRecDepth 100000 in
theorem kX3_of (l : Launch) (D : va_G) (cL cI cR : ClassId) (A : Nat → Prop) (F : Nat → Nat) (hF : zq_F A F 7) (C : Nat → Nat → Int64) (dg : Nat → Nat) (Y : zZM) (s0 : Nat) (hs : s0 < 12) (k0 : Nat) (hk : k0 < 64) (v : Int64) (hv : C s0 k0 = v) : zCt l yX3_of wsX3_of 0 0 D cL cI cR A F 7 (zME cL cI F C dg Y) [.ref (F 0), .int (nI s0), .int (nI k0)] (fun v2 E2 => v2 = (some (.long v)) ∧ E2 = (zME cL cI F C dg Y)) := by
  refine zStart (cc := cX3_of) (maxL := 3) (ret := (some .long)) (by decide +kernel) rfl (Nat.le_of_ble_eq_true rfl) ?_
  intro p e s m below meth c hx hb hr hml hlk hown hts hAm H hP hS ls hl
  have hown : s.vm.findClass RX3 = some m.cls := hown
  have hl : lv_has ls 3 [(0, .ref (F 0)), (1, .int (nI s0)), (2, .int (nI k0))] := hl
  have hinX3 : ∀ w ∈ u_ws RX3 TX3 8, w ∈ wsX3_of := by decide +kernel
  subst hv
  refine lv_aload_n hx hb dX3_of_0 rfl (lv_at hl 0 rfl) ?_
  refine zget (q := 0) (k := 0) (v := .ref (F 1)) hx hb hts hinX3 hown hAm hP (by omega) (zM_o) rfl (by decide) (hts (.fieldLink RX3 7 "CosineSeriesModel" "c" "[J") (by decide +kernel)) (by first | rfl | simp [va_up, *]) dX3_of_1 ?_
  refine lv_bipush (v := nI 64) hx hb dX3_of_4 (by decide +kernel) ?_
  refine lv_iload_n hx hb dX3_of_6 rfl (lv_at hl 1 rfl) ?_
  refine zimul (d := (64 * s0)) hx hb (by omega) dX3_of_7 ?_
  refine lv_iload_n hx hb dX3_of_8 rfl (lv_at hl 2 rfl) ?_
  refine ziadd (d := (64 * s0 + k0)) hx hb (by omega) dX3_of_9 ?_
  refine zlald (q := 1) (k := (64 * s0 + k0)) (v := ((C s0) k0)) hx hb hAm hP (by omega) (zM_c) (by omega) (by decide) (zM_rd (by omega)) dX3_of_10 ?_
  exact zretL hx hb hr hlk hS hP dX3_of_11 ⟨rfl, rfl⟩

set_option maxHeartbeats 4000000 in
set_option maxRecDepth 100000 in
theorem kX3_sets (l : Launch) (D : va_G) (cL cI cR : ClassId) (A : Nat → Prop) (F : Nat → Nat) (hF : zq_F A F 7) (C : Nat → Nat → Int64) (dg : Nat → Nat) (Y : zZM) (s0 : Nat) (hs : s0 < 12) (k0 : Nat) (hk : k0 < 64) (x : Int64) (C2 : Nat → Nat → Int64) (hC2 : va_up C s0 (vp_updL (C s0) k0 x) = C2) : zCt l yX3_sets wsX3_sets 0 0 D cL cI cR A F 7 (zME cL cI F C dg Y) [.ref (F 0), .int (nI s0), .int (nI k0), .long x] (fun v2 E2 => v2 = none ∧ E2 = (zME cL cI F C2 dg Y)) := by
  refine zStart (cc := cX3_sets) (maxL := 5) (ret := none) (by decide +kernel) rfl (Nat.le_of_ble_eq_true rfl) ?_
  intro p e s m below meth c hx hb hr hml hlk hown hts hAm H hP hS ls hl
  have hown : s.vm.findClass RX3 = some m.cls := hown
  have hl : lv_has ls 5 [(0, .ref (F 0)), (1, .int (nI s0)), (2, .int (nI k0)), (3, .long x)] := hl
  have hinX3 : ∀ w ∈ u_ws RX3 TX3 8, w ∈ wsX3_sets := by decide +kernel
  subst hC2
  refine lv_aload_n hx hb dX3_sets_0 rfl (lv_at hl 0 rfl) ?_
  refine zget (q := 0) (k := 0) (v := .ref (F 1)) hx hb hts hinX3 hown hAm hP (by omega) (zM_o) rfl (by decide) (hts (.fieldLink RX3 7 "CosineSeriesModel" "c" "[J") (by decide +kernel)) (by first | rfl | simp [va_up, *]) dX3_sets_1 ?_
  refine lv_bipush (v := nI 64) hx hb dX3_sets_4 (by decide +kernel) ?_
  refine lv_iload_n hx hb dX3_sets_6 rfl (lv_at hl 1 rfl) ?_
  refine zimul (d := (64 * s0)) hx hb (by omega) dX3_sets_7 ?_
  refine lv_iload_n hx hb dX3_sets_8 rfl (lv_at hl 2 rfl) ?_
  refine ziadd (d := (64 * s0 + k0)) hx hb (by omega) dX3_sets_9 ?_
  refine lv_lload_n hx hb dX3_sets_10 rfl (lv_at hl 3 rfl) ?_
  refine zlast (q := 1) (k := (64 * s0 + k0)) (E' := (zME cL cI F (va_up C s0 (vp_updL (C s0) k0 x)) dg Y)) hx hb hAm hP hF hS (by omega) (zM_c) (by omega) (by decide) dX3_sets_11 (by first | exact zM_uc (by omega) | (rw [zM_uc (by omega)]; simp only [bx_uu, va_up_eq])) (fun H locs hP hS => ?_)
  exact zretV hx hb hr hlk hS hP dX3_sets_12 ⟨rfl, rfl⟩

set_option maxHeartbeats 4000000 in
set_option maxRecDepth 100000 in
theorem kX3_clears (l : Launch) (D : va_G) (cL cI cR : ClassId) (A : Nat → Prop) (F : Nat → Nat) (hF : zq_F A F 7) (C : Nat → Nat → Int64) (dg : Nat → Nat) (Y : zZM) (s0 : Nat) (hs : s0 < 12) (n1 : Nat) (hn1 : n1 < 1000) : zCt l yX3_clears wsX3_clears 1 24 D cL cI cR A F 7 (zME cL cI F C dg Y) [.ref (F 0), .int (nI s0), .int (nI n1)] (fun v2 E2 => v2 = none ∧ E2 = (zME cL cI F (va_up C s0 (fun _ => 0)) (va_up dg s0 n1) Y)) := by
  refine zStart (cc := cX3_clears) (maxL := 4) (ret := none) (by decide +kernel) rfl (Nat.le_of_ble_eq_true rfl) ?_
  intro p e s m below meth c hx hb hr hml hlk hown hts hAm H hP hS ls hl
  have hown : s.vm.findClass RX3 = some m.cls := hown
  have hl : lv_has ls 4 [(0, .ref (F 0)), (1, .int (nI s0)), (2, .int (nI n1))] := hl
  have hinX3 : ∀ w ∈ u_ws RX3 TX3 8, w ∈ wsX3_clears := by decide +kernel
  refine lv_aload_n hx hb dX3_clears_0 rfl (lv_at hl 0 rfl) ?_
  refine zget (q := 0) (k := 1) (v := .ref (F 2)) hx hb hts hinX3 hown hAm hP (by omega) (zM_o) rfl (by decide) (hts (.fieldLink RX3 13 "CosineSeriesModel" "degrees" "[I") (by decide +kernel)) (by first | rfl | simp [va_up, *]) dX3_clears_1 ?_
  refine lv_iload_n hx hb dX3_clears_4 rfl (lv_at hl 1 rfl) ?_
  refine lv_iload_n hx hb dX3_clears_5 rfl (lv_at hl 2 rfl) ?_
  refine ziast (q := 2) (k := s0) (E' := (zME cL cI F C (va_up dg s0 n1) Y)) hx hb hAm hP hF hS (by omega) (zM_d) (by omega) (by decide) dX3_clears_6 (by first | exact zM_ud | (rw [zM_ud]; simp only [bx_uu, va_up_eq])) (fun H locs hP hS => ?_)
  refine lv_iconst (v := nI 0) hx hb dX3_clears_7 (by decide +kernel) ?_
  refine lv_istore_n (lv' := [(3, .int (nI 0)), (0, .ref (F 0)), (1, .int (nI s0)), (2, .int (nI n1))]) hx hb dX3_clears_8 rfl hl (by decide) rfl (fun ls hl => ?_)
  have hP : va_P D vwCl (zq_wd F 7 (zME cL cI F (va_up C s0 (C s0)) (va_up dg s0 n1) Y)) H := by rw [zup_self]; exact hP
  have L9 : ∀ (n : Nat) (k : Nat) (f : Nat → Int64) (hk : k ≤ 64) (hf : ∀ j, j < k → f j = 0) (hn : 64 - k < n) (H : Heap) (locs : List Loc), va_P D vwCl (zq_wd F 7 (zME cL cI F (va_up C s0 f) (va_up dg s0 n1) Y)) H → va_S A s.heap H locs → ∀ (ls : Array Slot), lv_has ls 4 [(0, .ref (F 0)), (1, .int (nI s0)), (2, .int (nI n1)), (3, .int (nI k))] → W p l e ({ frames := 1, cells := 0, slots := 0, locals := 24 }) s m ([.ref (F 0), .int (nI s0), .int (nI n1)] : List Value).toArray below meth c H locs 0 0 (zQ below D A F 7 [.ref (F 0), .int (nI s0), .int (nI n1)] s (fun v2 E2 => v2 = none ∧ E2 = (zME cL cI F (va_up C s0 (fun _ => 0)) (va_up dg s0 n1) Y))) (F0 m 9 ls []) := by
    intro n
    induction n with
    | zero =>
      intro k f hk hf hn
      exact absurd hn (Nat.not_lt_zero _)
    | succ n ih9 =>
      intro k f hk hf hn H locs hP hS ls hl
      refine lv_iload_n hx hb dX3_clears_9 rfl (lv_at hl 3 rfl) ?_
      refine lv_bipush (v := nI 64) hx hb dX3_clears_10 (by decide +kernel) ?_
      refine zi_ge (tgt := 28) hx hb dX3_clears_12 (by decide) (by omega) (by omega) (fun c1 => ?_) (fun c1 => ?_)
      ·
        have hP : va_P D vwCl (zq_wd F 7 (zME cL cI F (va_up C s0 (fun _ => 0)) (va_up dg s0 n1) Y)) H := zM_extC hP (zupm (fun j hj => hf j (by omega)))
        exact zretV hx hb hr hlk hS hP dX3_clears_28 ⟨rfl, rfl⟩
      ·
        refine lv_aload_n hx hb dX3_clears_15 rfl (lv_at hl 0 rfl) ?_
        refine lv_iload_n hx hb dX3_clears_16 rfl (lv_at hl 1 rfl) ?_
        refine lv_iload_n hx hb dX3_clears_17 rfl (lv_at hl 3 rfl) ?_
        refine lv_lconst (v := (0 : Int64)) hx hb dX3_clears_18 (by decide +kernel) ?_
        refine zcallV (As := [.int (nI s0), .int (nI k), .long (0 : Int64)]) (rest := []) (q := 0) (k := 3) hx hb hml hown hts (kX3_sets l D cL cI cR A F hF (va_up C s0 f) (va_up dg s0 n1) Y s0 (by omega) k (by omega) (0 : Int64) (va_up C s0 (vp_updL f k (0 : Int64))) (by first | rfl | simp only [bx_uu, va_up_eq])) gX3_clears_X3_sets rfl (by decide +kernel) ⟨Nat.le_of_ble_eq_true rfl, Nat.le_of_ble_eq_true rfl⟩ rfl (by omega) (zM_o) rfl rfl hAm hP hS rfl hl.1 rfl (Nat.le_of_ble_eq_true rfl) dX3_clears_19 ⟨Nat.zero_le _, Nat.zero_le _⟩ (zkn (fun H locs hP hS => ?_))
        refine W.eq (g2 := F0 m 22 ls []) rfl ?_
        refine lv_iinc (v := (nI (k + 1))) (lv' := [(3, .int (nI (k + 1))), (0, .ref (F 0)), (1, .int (nI s0)), (2, .int (nI n1))]) hx hb dX3_clears_22 hl (k := 3) rfl (zinc (by omega)) (by decide) rfl (fun ls hl => ?_)
        refine lv_goto (tgt := 9) hx hb dX3_clears_25 (by decide) ?_
        exact ih9 (k + 1) _ (by omega) (fun j hj => by unfold vp_updL; split; rfl; exact hf j (by omega)) (by omega) H _ hP hS ls (lv_sub hl [1, 2, 3, 0] rfl)
  exact L9 _ 0 _ (by omega) (fun j hj => absurd hj (Nat.not_lt_zero _)) (Nat.lt_succ_self _) H _ hP hS ls (lv_sub hl [1, 2, 3, 0] rfl)

set_option maxHeartbeats 4000000 in
set_option maxRecDepth 100000 in
theorem kX3_copies (l : Launch) (D : va_G) (cL cI cR : ClassId) (A : Nat → Prop) (F : Nat → Nat) (hF : zq_F A F 7) (C : Nat → Nat → Int64) (dg : Nat → Nat) (Y : zZM) (a : Nat) (ha : a < 12) (t : Nat) (ht : t < 12) (f9 : Nat → Int64) (hf9 : C a = f9) (d9 : Nat) (hd9 : dg a = d9) (hd48 : d9 < 1000) : zCt l yX3_copies wsX3_copies 1 24 D cL cI cR A F 7 (zME cL cI F C dg Y) [.ref (F 0), .int (nI a), .int (nI t)] (fun v2 E2 => v2 = none ∧ E2 = (zME cL cI F (va_up C t f9) (va_up dg t d9) Y)) := by
  refine zStart (cc := cX3_copies) (maxL := 4) (ret := none) (by decide +kernel) rfl (Nat.le_of_ble_eq_true rfl) ?_
  intro p e s m below meth c hx hb hr hml hlk hown hts hAm H hP hS ls hl
  have hown : s.vm.findClass RX3 = some m.cls := hown
  have hl : lv_has ls 4 [(0, .ref (F 0)), (1, .int (nI a)), (2, .int (nI t))] := hl
  have hinX3 : ∀ w ∈ u_ws RX3 TX3 8, w ∈ wsX3_copies := by decide +kernel
  have hda : dg a < 1000 := by omega
  refine lv_aload_n hx hb dX3_copies_0 rfl (lv_at hl 0 rfl) ?_
  refine zget (q := 0) (k := 1) (v := .ref (F 2)) hx hb hts hinX3 hown hAm hP (by omega) (zM_o) rfl (by decide) (hts (.fieldLink RX3 13 "CosineSeriesModel" "degrees" "[I") (by decide +kernel)) (by first | rfl | simp [va_up, *]) dX3_copies_1 ?_
  refine lv_iload_n hx hb dX3_copies_4 rfl (lv_at hl 2 rfl) ?_
  refine lv_aload_n hx hb dX3_copies_5 rfl (lv_at hl 0 rfl) ?_
  refine zget (q := 0) (k := 1) (v := .ref (F 2)) hx hb hts hinX3 hown hAm hP (by omega) (zM_o) rfl (by decide) (hts (.fieldLink RX3 13 "CosineSeriesModel" "degrees" "[I") (by decide +kernel)) (by first | rfl | simp [va_up, *]) dX3_copies_6 ?_
  refine lv_iload_n hx hb dX3_copies_9 rfl (lv_at hl 1 rfl) ?_
  refine ziald (q := 2) (k := a) (v := (nI (dg a))) hx hb hAm hP (by omega) (zM_d) (by omega) (by decide) (by first | rfl | simp [va_up, *]) dX3_copies_10 ?_
  refine ziast (q := 2) (k := t) (E' := (zME cL cI F C (va_up dg t (dg a)) Y)) hx hb hAm hP hF hS (by omega) (zM_d) (by omega) (by decide) dX3_copies_11 (by first | exact zM_ud | (rw [zM_ud]; simp only [bx_uu, va_up_eq])) (fun H locs hP hS => ?_)
  refine lv_iconst (v := nI 0) hx hb dX3_copies_12 (by decide +kernel) ?_
  refine lv_istore_n (lv' := [(3, .int (nI 0)), (0, .ref (F 0)), (1, .int (nI a)), (2, .int (nI t))]) hx hb dX3_copies_13 rfl hl (by decide) rfl (fun ls hl => ?_)
  have hP : va_P D vwCl (zq_wd F 7 (zME cL cI F (va_up C t (C t)) (va_up dg t (dg a)) Y)) H := by rw [zup_self]; exact hP
  have L14 : ∀ (n : Nat) (k : Nat) (f : Nat → Int64) (hk : k ≤ 64) (hf : ∀ j, j < k → f j = C a j) (hai : a = t → f = C t) (hn : 64 - k < n) (H : Heap) (locs : List Loc), va_P D vwCl (zq_wd F 7 (zME cL cI F (va_up C t f) (va_up dg t (dg a)) Y)) H → va_S A s.heap H locs → ∀ (ls : Array Slot), lv_has ls 4 [(0, .ref (F 0)), (1, .int (nI a)), (2, .int (nI t)), (3, .int (nI k))] → W p l e ({ frames := 1, cells := 0, slots := 0, locals := 24 }) s m ([.ref (F 0), .int (nI a), .int (nI t)] : List Value).toArray below meth c H locs 0 0 (zQ below D A F 7 [.ref (F 0), .int (nI a), .int (nI t)] s (fun v2 E2 => v2 = none ∧ E2 = (zME cL cI F (va_up C t f9) (va_up dg t d9) Y))) (F0 m 14 ls []) := by
    intro n
    induction n with
    | zero =>
      intro k f hk hf hai hn
      exact absurd hn (Nat.not_lt_zero _)
    | succ n ih14 =>
      intro k f hk hf hai hn H locs hP hS ls hl
      refine lv_iload_n hx hb dX3_copies_14 rfl (lv_at hl 3 rfl) ?_
      refine lv_bipush (v := nI 64) hx hb dX3_copies_15 (by decide +kernel) ?_
      refine zi_ge (tgt := 38) hx hb dX3_copies_17 (by decide) (by omega) (by omega) (fun c1 => ?_) (fun c1 => ?_)
      ·
        have hP : va_P D vwCl (zq_wd F 7 (zME cL cI F (va_up C t (C a)) (va_up dg t (dg a)) Y)) H := zM_extC hP (zupm (fun j hj => hf j (by omega)))
        exact zretV hx hb hr hlk hS hP dX3_copies_38 ⟨rfl, by rw [hf9, hd9]⟩
      ·
        have hva : va_up C t f a k = C a k := by
          by_cases h : a = t
          · rw [hai h]; subst h; rw [va_up_eq]
          · simp [va_up, h]
        refine lv_aload_n hx hb dX3_copies_20 rfl (lv_at hl 0 rfl) ?_
        refine lv_iload_n hx hb dX3_copies_21 rfl (lv_at hl 2 rfl) ?_
        refine lv_iload_n hx hb dX3_copies_22 rfl (lv_at hl 3 rfl) ?_
        refine lv_aload_n hx hb dX3_copies_23 rfl (lv_at hl 0 rfl) ?_
        refine lv_iload_n hx hb dX3_copies_24 rfl (lv_at hl 1 rfl) ?_
        refine lv_iload_n hx hb dX3_copies_25 rfl (lv_at hl 3 rfl) ?_
        refine zcallV (As := [.int (nI a), .int (nI k)]) (rest := [.int (nI k), .int (nI t), .ref (F 0)]) (q := 0) (k := 2) hx hb hml hown hts (kX3_of l D cL cI cR A F hF (va_up C t f) (va_up dg t (dg a)) Y a ha k (by omega) (C a k) hva) gX3_copies_X3_of rfl (by decide +kernel) ⟨Nat.le_of_ble_eq_true rfl, Nat.le_of_ble_eq_true rfl⟩ rfl (by omega) (zM_o) rfl rfl hAm hP hS rfl hl.1 rfl (Nat.le_of_ble_eq_true rfl) dX3_copies_26 ⟨Nat.zero_le _, Nat.zero_le _⟩ (zkn (fun H locs hP hS => ?_))
        refine W.eq (g2 := F0 m 29 ls [.long (C a k), .int (nI k), .int (nI t), .ref (F 0)]) rfl ?_
        refine zcallV (As := [.int (nI t), .int (nI k), .long (C a k)]) (rest := []) (q := 0) (k := 3) hx hb hml hown hts (kX3_sets l D cL cI cR A F hF (va_up C t f) (va_up dg t (dg a)) Y t (by omega) k (by omega) (C a k) (va_up C t (vp_updL f k (C a k))) (by first | rfl | simp only [bx_uu, va_up_eq])) gX3_copies_X3_sets rfl (by decide +kernel) ⟨Nat.le_of_ble_eq_true rfl, Nat.le_of_ble_eq_true rfl⟩ rfl (by omega) (zM_o) rfl rfl hAm hP hS rfl hl.1 rfl (Nat.le_of_ble_eq_true rfl) dX3_copies_29 ⟨Nat.zero_le _, Nat.zero_le _⟩ (zkn (fun H locs hP hS => ?_))
        refine W.eq (g2 := F0 m 32 ls []) rfl ?_
        refine lv_iinc (v := (nI (k + 1))) (lv' := [(3, .int (nI (k + 1))), (0, .ref (F 0)), (1, .int (nI a)), (2, .int (nI t))]) hx hb dX3_copies_32 hl (k := 3) rfl (zinc (by omega)) (by decide) rfl (fun ls hl => ?_)
        refine lv_goto (tgt := 14) hx hb dX3_copies_35 (by decide) ?_
        exact ih14 (k + 1) _ (by omega) (fun j hj => by unfold vp_updL; split; rename_i h; rw [h]; exact hf j (by omega)) (fun h => by rw [hai h]; subst h; funext j; unfold vp_updL; split; rename_i h; rw [h]; rfl) (by omega) H _ hP hS ls (lv_sub hl [1, 2, 3, 0] rfl)
  exact L14 _ 0 _ (by omega) (fun j hj => absurd hj (Nat.not_lt_zero _)) (fun _ => rfl) (Nat.lt_succ_self _) H _ hP hS ls (lv_sub hl [1, 2, 3, 0] rfl)

set_option maxHeartbeats 4000000 in
set_option maxRecDepth 100000 in
theorem kX3_trims (l : Launch) (D : va_G) (cL cI cR : ClassId) (A : Nat → Prop) (F : Nat → Nat) (hF : zq_F A F 7) (C : Nat → Nat → Int64) (dg : Nat → Nat) (Y : zZM) (s0 : Nat) (hs : s0 < 12) (f : Nat → Int64) (hf : C s0 = f) (d0 : Nat) (hd0 : dg s0 = d0) (h48 : d0 ≤ 48) (hz : ∀ j, d0 < j → f j = 0) (dg2 : Nat → Nat) (hdg2 : va_up dg s0 (ztop f 48) = dg2) : zCt l yX3_trims wsX3_trims 1 22 D cL cI cR A F 7 (zME cL cI F C dg Y) [.ref (F 0), .int (nI s0)] (fun v2 E2 => v2 = (some (.long (zke f))) ∧ E2 = (zME cL cI F C dg2 Y)) := by
  refine zStart (cc := cX3_trims) (maxL := 3) (ret := (some .long)) (by decide +kernel) rfl (Nat.le_of_ble_eq_true rfl) ?_
  intro p e s m below meth c hx hb hr hml hlk hown hts hAm H hP hS ls hl
  have hown : s.vm.findClass RX3 = some m.cls := hown
  have hl : lv_has ls 3 [(0, .ref (F 0)), (1, .int (nI s0))] := hl
  have hinX3 : ∀ w ∈ u_ws RX3 TX3 8, w ∈ wsX3_trims := by decide +kernel
  have hke := zke_of h48 hz
  have htc := ztop_cut (f := f) 48 h48 hz
  have hP : va_P D vwCl (zq_wd F 7 (zME cL cI F C (va_up dg s0 (dg s0)) Y)) H := by rw [zup_self]; exact hP
  have L0 : ∀ (n : Nat) (d : Nat) (hd : d ≤ 48) (ht : ztop f d = ztop f d0) (hn : d < n) (H : Heap) (locs : List Loc), va_P D vwCl (zq_wd F 7 (zME cL cI F C (va_up dg s0 d) Y)) H → va_S A s.heap H locs → ∀ (ls : Array Slot), lv_has ls 3 [(0, .ref (F 0)), (1, .int (nI s0))] → W p l e ({ frames := 1, cells := 0, slots := 0, locals := 22 }) s m ([.ref (F 0), .int (nI s0)] : List Value).toArray below meth c H locs 0 0 (zQ below D A F 7 [.ref (F 0), .int (nI s0)] s (fun v2 E2 => v2 = (some (.long (zke f))) ∧ E2 = (zME cL cI F C dg2 Y))) (F0 m 0 ls []) := by
    intro n
    induction n with
    | zero =>
      intro d hd ht hn
      exact absurd hn (Nat.not_lt_zero _)
    | succ n ih0 =>
      intro d hd ht hn H locs hP hS ls hl
      refine lv_aload_n hx hb dX3_trims_0 rfl (lv_at hl 0 rfl) ?_
      refine zget (q := 0) (k := 1) (v := .ref (F 2)) hx hb hts hinX3 hown hAm hP (by omega) (zM_o) rfl (by decide) (hts (.fieldLink RX3 13 "CosineSeriesModel" "degrees" "[I") (by decide +kernel)) (by first | rfl | simp [va_up, *]) dX3_trims_1 ?_
      refine lv_iload_n hx hb dX3_trims_4 rfl (lv_at hl 1 rfl) ?_
      refine ziald (q := 2) (k := s0) (v := (nI d)) hx hb hAm hP (by omega) (zM_d) (by omega) (by decide) (by first | rfl | simp [va_up, *]) dX3_trims_5 ?_
      refine zf_le (tgt := 38) hx hb dX3_trims_6 (by decide) (by omega) (fun c1 => ?_) (fun c1 => ?_)
      ·
        have hd1 : d = 0 := c1
        have hdt : d = ztop f d0 := by rw [← ht, hd1]; rfl
        refine lv_aload_n hx hb dX3_trims_38 rfl (lv_at hl 0 rfl) ?_
        refine zget (q := 0) (k := 1) (v := .ref (F 2)) hx hb hts hinX3 hown hAm hP (by omega) (zM_o) rfl (by decide) (hts (.fieldLink RX3 13 "CosineSeriesModel" "degrees" "[I") (by decide +kernel)) (by first | rfl | simp [va_up, *]) dX3_trims_39 ?_
        refine lv_iload_n hx hb dX3_trims_42 rfl (lv_at hl 1 rfl) ?_
        refine ziald (q := 2) (k := s0) (v := (nI d)) hx hb hAm hP (by omega) (zM_d) (by omega) (by decide) (by first | rfl | simp [va_up, *]) dX3_trims_43 ?_
        refine lv_bipush (v := nI 24) hx hb dX3_trims_44 (by decide +kernel) ?_
        refine zi_le (tgt := 53) hx hb dX3_trims_46 (by decide) (by omega) (by omega) (fun c2 => ?_) (fun c2 => ?_)
        ·
          refine lv_iconst (v := nI 0) hx hb dX3_trims_53 (by decide +kernel) ?_
          refine lv_istore_n (lv' := [(2, .int (nI 0)), (0, .ref (F 0)), (1, .int (nI s0))]) hx hb dX3_trims_54 rfl hl (by decide) rfl (fun ls hl => ?_)
          have L55 : ∀ (n : Nat) (k : Nat) (hk : k ≤ d + 1) (hg : zbig f k = false) (hn : d + 1 - k < n) (H : Heap) (locs : List Loc), va_P D vwCl (zq_wd F 7 (zME cL cI F C (va_up dg s0 d) Y)) H → va_S A s.heap H locs → ∀ (ls : Array Slot), lv_has ls 3 [(0, .ref (F 0)), (1, .int (nI s0)), (2, .int (nI k))] → W p l e ({ frames := 1, cells := 0, slots := 0, locals := 22 }) s m ([.ref (F 0), .int (nI s0)] : List Value).toArray below meth c H locs 0 0 (zQ below D A F 7 [.ref (F 0), .int (nI s0)] s (fun v2 E2 => v2 = (some (.long (zke f))) ∧ E2 = (zME cL cI F C dg2 Y))) (F0 m 55 ls []) := by
            intro n
            induction n with
            | zero =>
              intro k hk hg hn
              exact absurd hn (Nat.not_lt_zero _)
            | succ n ih55 =>
              intro k hk hg hn H locs hP hS ls hl
              refine lv_iload_n hx hb dX3_trims_55 rfl (lv_at hl 2 rfl) ?_
              refine lv_aload_n hx hb dX3_trims_56 rfl (lv_at hl 0 rfl) ?_
              refine zget (q := 0) (k := 1) (v := .ref (F 2)) hx hb hts hinX3 hown hAm hP (by omega) (zM_o) rfl (by decide) (hts (.fieldLink RX3 13 "CosineSeriesModel" "degrees" "[I") (by decide +kernel)) (by first | rfl | simp [va_up, *]) dX3_trims_57 ?_
              refine lv_iload_n hx hb dX3_trims_60 rfl (lv_at hl 1 rfl) ?_
              refine ziald (q := 2) (k := s0) (v := (nI d)) hx hb hAm hP (by omega) (zM_d) (by omega) (by decide) (by first | rfl | simp [va_up, *]) dX3_trims_61 ?_
              refine zi_gt (tgt := 91) hx hb dX3_trims_62 (by decide) (by omega) (by omega) (fun c3 => ?_) (fun c3 => ?_)
              ·
                refine lv_lconst (v := (0 : Int64)) hx hb dX3_trims_91 (by decide +kernel) ?_
                exact zretL hx hb hr hlk hS hP dX3_trims_92 ⟨by rw [hke, ← hdt]; unfold zerr; rw [if_neg (by omega), show ∀ q : Nat, q + 1 = k → zbig f (q + 1) = false from fun q h => by rw [h]; exact hg]; rfl; omega, by rw [← hdg2, htc, ← hdt]⟩
              ·
                refine lv_aload_n hx hb dX3_trims_65 rfl (lv_at hl 0 rfl) ?_
                refine lv_iload_n hx hb dX3_trims_66 rfl (lv_at hl 1 rfl) ?_
                refine lv_iload_n hx hb dX3_trims_67 rfl (lv_at hl 2 rfl) ?_
                refine zcallV (As := [.int (nI s0), .int (nI k)]) (rest := []) (q := 0) (k := 2) hx hb hml hown hts (kX3_of l D cL cI cR A F hF C (va_up dg s0 d) Y s0 (by omega) k (by omega) ((C s0) k) (by first | rfl | simp [va_up, *])) gX3_trims_X3_of rfl (by decide +kernel) ⟨Nat.le_of_ble_eq_true rfl, Nat.le_of_ble_eq_true rfl⟩ rfl (by omega) (zM_o) rfl rfl hAm hP hS rfl hl.1 rfl (Nat.le_of_ble_eq_true rfl) dX3_trims_68 ⟨Nat.zero_le _, Nat.zero_le _⟩ (zkn (fun H locs hP hS => ?_))
                refine W.eq (g2 := F0 m 71 ls [.long ((C s0) k)]) rfl ?_
                refine zcallS (As := [.long ((C s0) k)]) (rest := []) (k := 1) hx hb hml hown hts (kX3_size l D cL cI cR A F 7 (zME cL cI F C (va_up dg s0 d) Y) ((C s0) k)) gX3_trims_X3_size rfl (by decide +kernel) ⟨Nat.le_of_ble_eq_true rfl, Nat.le_of_ble_eq_true rfl⟩ hAm hP hS rfl hl.1 rfl (Nat.le_of_ble_eq_true rfl) dX3_trims_71 ⟨Nat.zero_le _, Nat.zero_le _⟩ (zkn (fun H locs hP hS => ?_))
                refine W.eq (g2 := F0 m 74 ls [.long (zabs ((C s0) k))]) rfl ?_
                refine lv_ldc2 hx hb hown (hts (.constantLong RX3 63 (268435456)) (by decide +kernel)) dX3_trims_74 ?_
                refine zl_le (tgt := 85) hx hb dX3_trims_77 dX3_trims_78 (by decide) (fun c4 => ?_) (fun c4 => ?_)
                ·
                  have hsz := c4
                  refine lv_iinc (v := (nI (k + 1))) (lv' := [(2, .int (nI (k + 1))), (0, .ref (F 0)), (1, .int (nI s0))]) hx hb dX3_trims_85 hl (k := 2) rfl (zinc (by omega)) (by decide) rfl (fun ls hl => ?_)
                  refine lv_goto (tgt := 55) hx hb dX3_trims_88 (by decide) ?_
                  exact ih55 (k + 1) (by omega) (zbig_s hg (by rw [← hf]; exact hsz)) (by omega) H _ hP hS ls (lv_sub hl [1, 2, 0] rfl)
                ·
                  refine lv_ldc2 hx hb hown (hts (.constantLong RX3 65 (-9000000000000000003)) (by decide +kernel)) dX3_trims_81 ?_
                  exact zretL hx hb hr hlk hS hP dX3_trims_84 ⟨by rw [hke, ← hdt]; unfold zerr; rw [if_neg (by omega), if_pos (zbig_of (by rw [← hf]; exact Int64.not_le.mp c4) _ (by omega))], by rw [← hdg2, htc, ← hdt]⟩
          exact L55 _ 0 (by omega) rfl (Nat.lt_succ_self _) H _ hP hS ls (lv_sub hl [1, 2, 0] rfl)
        ·
          refine lv_ldc2 hx hb hown (hts (.constantLong RX3 57 (-9000000000000000002)) (by decide +kernel)) dX3_trims_49 ?_
          exact zretL hx hb hr hlk hS hP dX3_trims_52 ⟨by rw [hke, ← hdt]; unfold zerr; rw [if_pos c2], by rw [← hdg2, htc, ← hdt]⟩
      ·
        obtain ⟨d, rfl⟩ : ∃ j, d = j + 1 := ⟨d - 1, by omega⟩
        have hP : va_P D vwCl (zq_wd F 7 (zME cL cI F C (va_up dg s0 (d + 1)) Y)) H := hP
        refine lv_aload_n hx hb dX3_trims_9 rfl (lv_at hl 0 rfl) ?_
        refine lv_iload_n hx hb dX3_trims_10 rfl (lv_at hl 1 rfl) ?_
        refine lv_aload_n hx hb dX3_trims_11 rfl (lv_at hl 0 rfl) ?_
        refine zget (q := 0) (k := 1) (v := .ref (F 2)) hx hb hts hinX3 hown hAm hP (by omega) (zM_o) rfl (by decide) (hts (.fieldLink RX3 13 "CosineSeriesModel" "degrees" "[I") (by decide +kernel)) (by first | rfl | simp [va_up, *]) dX3_trims_12 ?_
        refine lv_iload_n hx hb dX3_trims_15 rfl (lv_at hl 1 rfl) ?_
        refine ziald (q := 2) (k := s0) (v := (nI (d + 1))) hx hb hAm hP (by omega) (zM_d) (by omega) (by decide) (by first | rfl | simp [va_up, *]) dX3_trims_16 ?_
        refine zcallV (As := [.int (nI s0), .int (nI (d + 1))]) (rest := []) (q := 0) (k := 2) hx hb hml hown hts (kX3_of l D cL cI cR A F hF C (va_up dg s0 (d + 1)) Y s0 (by omega) (d + 1) (by omega) ((C s0) (d + 1)) (by first | rfl | simp [va_up, *])) gX3_trims_X3_of rfl (by decide +kernel) ⟨Nat.le_of_ble_eq_true rfl, Nat.le_of_ble_eq_true rfl⟩ rfl (by omega) (zM_o) rfl rfl hAm hP hS rfl hl.1 rfl (Nat.le_of_ble_eq_true rfl) dX3_trims_17 ⟨Nat.zero_le _, Nat.zero_le _⟩ (zkn (fun H locs hP hS => ?_))
        refine W.eq (g2 := F0 m 20 ls [.long ((C s0) (d + 1))]) rfl ?_
        refine lv_lconst (v := (0 : Int64)) hx hb dX3_trims_20 (by decide +kernel) ?_
        refine zl_ne (tgt := 38) hx hb dX3_trims_21 dX3_trims_22 (by decide) (fun c5 => ?_) (fun c5 => ?_)
        ·
          have hdt : d + 1 = ztop f d0 := by rw [← ht, ztop_ne (by rw [← hf]; exact c5)]
          refine lv_aload_n hx hb dX3_trims_38 rfl (lv_at hl 0 rfl) ?_
          refine zget (q := 0) (k := 1) (v := .ref (F 2)) hx hb hts hinX3 hown hAm hP (by omega) (zM_o) rfl (by decide) (hts (.fieldLink RX3 13 "CosineSeriesModel" "degrees" "[I") (by decide +kernel)) (by first | rfl | simp [va_up, *]) dX3_trims_39 ?_
          refine lv_iload_n hx hb dX3_trims_42 rfl (lv_at hl 1 rfl) ?_
          refine ziald (q := 2) (k := s0) (v := (nI (d + 1))) hx hb hAm hP (by omega) (zM_d) (by omega) (by decide) (by first | rfl | simp [va_up, *]) dX3_trims_43 ?_
          refine lv_bipush (v := nI 24) hx hb dX3_trims_44 (by decide +kernel) ?_
          refine zi_le (tgt := 53) hx hb dX3_trims_46 (by decide) (by omega) (by omega) (fun c6 => ?_) (fun c6 => ?_)
          ·
            refine lv_iconst (v := nI 0) hx hb dX3_trims_53 (by decide +kernel) ?_
            refine lv_istore_n (lv' := [(2, .int (nI 0)), (0, .ref (F 0)), (1, .int (nI s0))]) hx hb dX3_trims_54 rfl hl (by decide) rfl (fun ls hl => ?_)
            have L55 : ∀ (n : Nat) (k : Nat) (hk : k ≤ (d + 1) + 1) (hg : zbig f k = false) (hn : (d + 1) + 1 - k < n) (H : Heap) (locs : List Loc), va_P D vwCl (zq_wd F 7 (zME cL cI F C (va_up dg s0 (d + 1)) Y)) H → va_S A s.heap H locs → ∀ (ls : Array Slot), lv_has ls 3 [(0, .ref (F 0)), (1, .int (nI s0)), (2, .int (nI k))] → W p l e ({ frames := 1, cells := 0, slots := 0, locals := 22 }) s m ([.ref (F 0), .int (nI s0)] : List Value).toArray below meth c H locs 0 0 (zQ below D A F 7 [.ref (F 0), .int (nI s0)] s (fun v2 E2 => v2 = (some (.long (zke f))) ∧ E2 = (zME cL cI F C dg2 Y))) (F0 m 55 ls []) := by
              intro n
              induction n with
              | zero =>
                intro k hk hg hn
                exact absurd hn (Nat.not_lt_zero _)
              | succ n ih55 =>
                intro k hk hg hn H locs hP hS ls hl
                refine lv_iload_n hx hb dX3_trims_55 rfl (lv_at hl 2 rfl) ?_
                refine lv_aload_n hx hb dX3_trims_56 rfl (lv_at hl 0 rfl) ?_
                refine zget (q := 0) (k := 1) (v := .ref (F 2)) hx hb hts hinX3 hown hAm hP (by omega) (zM_o) rfl (by decide) (hts (.fieldLink RX3 13 "CosineSeriesModel" "degrees" "[I") (by decide +kernel)) (by first | rfl | simp [va_up, *]) dX3_trims_57 ?_
                refine lv_iload_n hx hb dX3_trims_60 rfl (lv_at hl 1 rfl) ?_
                refine ziald (q := 2) (k := s0) (v := (nI (d + 1))) hx hb hAm hP (by omega) (zM_d) (by omega) (by decide) (by first | rfl | simp [va_up, *]) dX3_trims_61 ?_
                refine zi_gt (tgt := 91) hx hb dX3_trims_62 (by decide) (by omega) (by omega) (fun c7 => ?_) (fun c7 => ?_)
                ·
                  refine lv_lconst (v := (0 : Int64)) hx hb dX3_trims_91 (by decide +kernel) ?_
                  exact zretL hx hb hr hlk hS hP dX3_trims_92 ⟨by rw [hke, ← hdt]; unfold zerr; rw [if_neg (by omega), show ∀ q : Nat, q + 1 = k → zbig f (q + 1) = false from fun q h => by rw [h]; exact hg]; rfl; omega, by rw [← hdg2, htc, ← hdt]⟩
                ·
                  refine lv_aload_n hx hb dX3_trims_65 rfl (lv_at hl 0 rfl) ?_
                  refine lv_iload_n hx hb dX3_trims_66 rfl (lv_at hl 1 rfl) ?_
                  refine lv_iload_n hx hb dX3_trims_67 rfl (lv_at hl 2 rfl) ?_
                  refine zcallV (As := [.int (nI s0), .int (nI k)]) (rest := []) (q := 0) (k := 2) hx hb hml hown hts (kX3_of l D cL cI cR A F hF C (va_up dg s0 (d + 1)) Y s0 (by omega) k (by omega) ((C s0) k) (by first | rfl | simp [va_up, *])) gX3_trims_X3_of rfl (by decide +kernel) ⟨Nat.le_of_ble_eq_true rfl, Nat.le_of_ble_eq_true rfl⟩ rfl (by omega) (zM_o) rfl rfl hAm hP hS rfl hl.1 rfl (Nat.le_of_ble_eq_true rfl) dX3_trims_68 ⟨Nat.zero_le _, Nat.zero_le _⟩ (zkn (fun H locs hP hS => ?_))
                  refine W.eq (g2 := F0 m 71 ls [.long ((C s0) k)]) rfl ?_
                  refine zcallS (As := [.long ((C s0) k)]) (rest := []) (k := 1) hx hb hml hown hts (kX3_size l D cL cI cR A F 7 (zME cL cI F C (va_up dg s0 (d + 1)) Y) ((C s0) k)) gX3_trims_X3_size rfl (by decide +kernel) ⟨Nat.le_of_ble_eq_true rfl, Nat.le_of_ble_eq_true rfl⟩ hAm hP hS rfl hl.1 rfl (Nat.le_of_ble_eq_true rfl) dX3_trims_71 ⟨Nat.zero_le _, Nat.zero_le _⟩ (zkn (fun H locs hP hS => ?_))
                  refine W.eq (g2 := F0 m 74 ls [.long (zabs ((C s0) k))]) rfl ?_
                  refine lv_ldc2 hx hb hown (hts (.constantLong RX3 63 (268435456)) (by decide +kernel)) dX3_trims_74 ?_
                  refine zl_le (tgt := 85) hx hb dX3_trims_77 dX3_trims_78 (by decide) (fun c8 => ?_) (fun c8 => ?_)
                  ·
                    have hsz := c8
                    refine lv_iinc (v := (nI (k + 1))) (lv' := [(2, .int (nI (k + 1))), (0, .ref (F 0)), (1, .int (nI s0))]) hx hb dX3_trims_85 hl (k := 2) rfl (zinc (by omega)) (by decide) rfl (fun ls hl => ?_)
                    refine lv_goto (tgt := 55) hx hb dX3_trims_88 (by decide) ?_
                    exact ih55 (k + 1) (by omega) (zbig_s hg (by rw [← hf]; exact hsz)) (by omega) H _ hP hS ls (lv_sub hl [1, 2, 0] rfl)
                  ·
                    refine lv_ldc2 hx hb hown (hts (.constantLong RX3 65 (-9000000000000000003)) (by decide +kernel)) dX3_trims_81 ?_
                    exact zretL hx hb hr hlk hS hP dX3_trims_84 ⟨by rw [hke, ← hdt]; unfold zerr; rw [if_neg (by omega), if_pos (zbig_of (by rw [← hf]; exact Int64.not_le.mp c8) _ (by omega))], by rw [← hdg2, htc, ← hdt]⟩
            exact L55 _ 0 (by omega) rfl (Nat.lt_succ_self _) H _ hP hS ls (lv_sub hl [1, 2, 0] rfl)
          ·
            refine lv_ldc2 hx hb hown (hts (.constantLong RX3 57 (-9000000000000000002)) (by decide +kernel)) dX3_trims_49 ?_
            exact zretL hx hb hr hlk hS hP dX3_trims_52 ⟨by rw [hke, ← hdt]; unfold zerr; rw [if_pos c6], by rw [← hdg2, htc, ← hdt]⟩
        ·
          have hc0 := c5
          refine lv_aload_n hx hb dX3_trims_25 rfl (lv_at hl 0 rfl) ?_
          refine zget (q := 0) (k := 1) (v := .ref (F 2)) hx hb hts hinX3 hown hAm hP (by omega) (zM_o) rfl (by decide) (hts (.fieldLink RX3 13 "CosineSeriesModel" "degrees" "[I") (by decide +kernel)) (by first | rfl | simp [va_up, *]) dX3_trims_26 ?_
          refine lv_iload_n hx hb dX3_trims_29 rfl (lv_at hl 1 rfl) ?_
          refine lv_dup2_11 hx hb dX3_trims_30 rfl rfl ?_
          refine ziald (q := 2) (k := s0) (v := (nI (d + 1))) hx hb hAm hP (by omega) (zM_d) (by omega) (by decide) (by first | rfl | simp [va_up, *]) dX3_trims_31 ?_
          refine lv_iconst (v := nI 1) hx hb dX3_trims_32 (by decide +kernel) ?_
          refine zisub (d := d) hx hb (by omega) dX3_trims_33 ?_
          refine ziast (q := 2) (k := s0) (E' := (zME cL cI F C (va_up dg s0 d) Y)) hx hb hAm hP hF hS (by omega) (zM_d) (by omega) (by decide) dX3_trims_34 (by first | exact zM_ud | (rw [zM_ud]; simp only [bx_uu, va_up_eq])) (fun H locs hP hS => ?_)
          refine lv_goto (tgt := 0) hx hb dX3_trims_35 (by decide) ?_
          exact ih0 d (by omega) (by rw [← ht]; unfold ztop; rw [if_pos (by rw [← hf]; exact hc0)]; cases d <;> rfl) (by omega) H _ hP hS ls (lv_sub hl [0, 1] rfl)
  exact L0 _ (dg s0) (by omega) (by rw [hd0]) (Nat.lt_succ_self _) H _ hP hS ls (lv_sub hl [0, 1] rfl)

set_option maxHeartbeats 4000000 in
set_option maxRecDepth 100000 in
theorem kX3_gives (l : Launch) (D : va_G) (cL cI cR : ClassId) (A : Nat → Prop) (F : Nat → Nat) (hF : zq_F A F 7) (C : Nat → Nat → Int64) (dg : Nat → Nat) (Y : zZM) (t : Nat) (ht : t < 8) (f : Nat → Int64) (hf : C 8 = f) (d0 : Nat) (hd0 : dg 8 = d0) (h48 : d0 ≤ 48) (hz : ∀ j, d0 < j → f j = 0) (C2 : Nat → Nat → Int64) (dg2 : Nat → Nat) (hC2 : C2 = zkP C t f) (hdg2 : dg2 = zkN (va_up dg 8 (ztop f 48)) t f) : zCt l yX3_gives wsX3_gives 2 47 D cL cI cR A F 7 (zME cL cI F C dg Y) [.ref (F 0), .int (nI t)] (fun v2 E2 => v2 = (some (.long (zkr f))) ∧ E2 = (zME cL cI F C2 dg2 Y)) := by
  refine zStart (cc := cX3_gives) (maxL := 4) (ret := (some .long)) (by decide +kernel) rfl (Nat.le_of_ble_eq_true rfl) ?_
  intro p e s m below meth c hx hb hr hml hlk hown hts hAm H hP hS ls hl
  have hown : s.vm.findClass RX3 = some m.cls := hown
  have hl : lv_has ls 4 [(0, .ref (F 0)), (1, .int (nI t))] := hl
  have hinX3 : ∀ w ∈ u_ws RX3 TX3 8, w ∈ wsX3_gives := by decide +kernel
  have hz48 := ztop_le f 48
  refine lv_aload_n hx hb dX3_gives_0 rfl (lv_at hl 0 rfl) ?_
  refine lv_bipush (v := nI 8) hx hb dX3_gives_1 (by decide +kernel) ?_
  refine zcallV (As := [.int (nI 8)]) (rest := []) (q := 0) (k := 1) hx hb hml hown hts (kX3_trims l D cL cI cR A F hF C dg Y 8 (by omega) f hf d0 hd0 h48 hz (va_up dg 8 (ztop f 48)) rfl) gX3_gives_X3_trims rfl (by decide +kernel) ⟨Nat.le_of_ble_eq_true rfl, Nat.le_of_ble_eq_true rfl⟩ rfl (by omega) (zM_o) rfl rfl hAm hP hS rfl hl.1 rfl (Nat.le_of_ble_eq_true rfl) dX3_gives_3 ⟨Nat.zero_le _, Nat.zero_le _⟩ (zkn (fun H locs hP hS => ?_))
  refine W.eq (g2 := F0 m 6 ls [.long (zke f)]) rfl ?_
  refine lv_lstore_n (lv' := [(2, .long (zke f)), (0, .ref (F 0)), (1, .int (nI t))]) hx hb dX3_gives_6 rfl hl (by decide) rfl (fun ls hl => ?_)
  refine lv_lload_n hx hb dX3_gives_7 rfl (lv_at hl 0 rfl) ?_
  refine lv_lconst (v := (0 : Int64)) hx hb dX3_gives_8 (by decide +kernel) ?_
  refine zl_eq (tgt := 15) hx hb dX3_gives_9 dX3_gives_10 (by decide) (fun c1 => ?_) (fun c1 => ?_)
  ·
    refine lv_aload_n hx hb dX3_gives_15 rfl (lv_at hl 1 rfl) ?_
    refine lv_bipush (v := nI 8) hx hb dX3_gives_16 (by decide +kernel) ?_
    refine lv_iload_n hx hb dX3_gives_18 rfl (lv_at hl 2 rfl) ?_
    refine zcallV (As := [.int (nI 8), .int (nI t)]) (rest := []) (q := 0) (k := 2) hx hb hml hown hts (kX3_copies l D cL cI cR A F hF C (va_up dg 8 (ztop f 48)) Y 8 (by omega) t (by omega) (C 8) (by first | rfl | simp [va_up, *]) (ztop f 48) (by first | rfl | simp [va_up, *]) (by omega)) gX3_gives_X3_copies rfl (by decide +kernel) ⟨Nat.le_of_ble_eq_true rfl, Nat.le_of_ble_eq_true rfl⟩ rfl (by omega) (zM_o) rfl rfl hAm hP hS rfl hl.1 rfl (Nat.le_of_ble_eq_true rfl) dX3_gives_19 ⟨Nat.zero_le _, Nat.zero_le _⟩ (zkn (fun H locs hP hS => ?_))
    refine W.eq (g2 := F0 m 22 ls []) rfl ?_
    refine lv_aload_n hx hb dX3_gives_22 rfl (lv_at hl 1 rfl) ?_
    refine zget (q := 0) (k := 1) (v := .ref (F 2)) hx hb hts hinX3 hown hAm hP (by omega) (zM_o) rfl (by decide) (hts (.fieldLink RX3 13 "CosineSeriesModel" "degrees" "[I") (by decide +kernel)) (by first | rfl | simp [va_up, *]) dX3_gives_23 ?_
    refine lv_iload_n hx hb dX3_gives_26 rfl (lv_at hl 2 rfl) ?_
    refine ziald (q := 2) (k := t) (v := (nI (ztop f 48))) hx hb hAm hP (by omega) (zM_d) (by omega) (by decide) (by first | rfl | simp [va_up, *]) dX3_gives_27 ?_
    refine zi2l hx hb (by omega) dX3_gives_28 ?_
    exact zretL hx hb hr hlk hS hP dX3_gives_29 ⟨by unfold zkr; rw [if_pos c1], by rw [hC2, hdg2]; unfold zkP zkN; rw [if_pos c1, if_pos c1, hf]⟩
  ·
    refine lv_lload_n hx hb dX3_gives_13 rfl (lv_at hl 0 rfl) ?_
    exact zretL hx hb hr hlk hS hP dX3_gives_14 ⟨by unfold zkr; rw [if_neg c1], by rw [hC2, hdg2]; unfold zkP zkN; rw [if_neg c1, if_neg c1]⟩

set_option maxHeartbeats 4000000 in
set_option maxRecDepth 100000 in
theorem kX3_valueAt (l : Launch) (D : va_G) (cL cI cR : ClassId) (A : Nat → Prop) (F : Nat → Nat) (hF : zq_F A F 7) (C : Nat → Nat → Int64) (dg : Nat → Nat) (Y : zZM) (s0 : Nat) (hs : s0 < 12) (x : Int64) (f : Nat → Int64) (hf : C s0 = f) (t : Nat) (ht : dg s0 = t) (hi48 : t ≤ 48) : zCt l yX3_valueAt wsX3_valueAt 1 25 D cL cI cR A F 7 (zME cL cI F C dg Y) [.ref (F 0), .int (nI s0), .long x] (fun v2 E2 => v2 = (some (.long (zval f t x))) ∧ E2 = (zME cL cI F C dg Y)) := by
  refine zStart (cc := cX3_valueAt) (maxL := 11) (ret := (some .long)) (by decide +kernel) rfl (Nat.le_of_ble_eq_true rfl) ?_
  intro p e s m below meth c hx hb hr hml hlk hown hts hAm H hP hS ls hl
  have hown : s.vm.findClass RX3 = some m.cls := hown
  have hl : lv_has ls 11 [(0, .ref (F 0)), (1, .int (nI s0)), (2, .long x)] := hl
  have hinX3 : ∀ w ∈ u_ws RX3 TX3 8, w ∈ wsX3_valueAt := by decide +kernel
  subst hf; subst ht
  refine lv_lconst (v := (0 : Int64)) hx hb dX3_valueAt_0 (by decide +kernel) ?_
  refine lv_lstore (lv' := [(4, .long (0 : Int64)), (0, .ref (F 0)), (1, .int (nI s0)), (2, .long x)]) hx hb dX3_valueAt_1 hl (by decide) rfl (fun ls hl => ?_)
  refine lv_lconst (v := (0 : Int64)) hx hb dX3_valueAt_3 (by decide +kernel) ?_
  refine lv_lstore (lv' := [(6, .long (0 : Int64)), (4, .long (0 : Int64)), (0, .ref (F 0)), (1, .int (nI s0)), (2, .long x)]) hx hb dX3_valueAt_4 hl (by decide) rfl (fun ls hl => ?_)
  refine lv_aload_n hx hb dX3_valueAt_6 rfl (lv_at hl 2 rfl) ?_
  refine zget (q := 0) (k := 1) (v := .ref (F 2)) hx hb hts hinX3 hown hAm hP (by omega) (zM_o) rfl (by decide) (hts (.fieldLink RX3 13 "CosineSeriesModel" "degrees" "[I") (by decide +kernel)) (by first | rfl | simp [va_up, *]) dX3_valueAt_7 ?_
  refine lv_iload_n hx hb dX3_valueAt_10 rfl (lv_at hl 3 rfl) ?_
  refine ziald (q := 2) (k := s0) (v := (nI (dg s0))) hx hb hAm hP (by omega) (zM_d) (by omega) (by decide) (by first | rfl | simp [va_up, *]) dX3_valueAt_11 ?_
  refine lv_istore (lv' := [(8, .int (nI (dg s0))), (6, .long (0 : Int64)), (4, .long (0 : Int64)), (0, .ref (F 0)), (1, .int (nI s0)), (2, .long x)]) hx hb dX3_valueAt_12 hl (by decide) rfl (fun ls hl => ?_)
  have L14 : ∀ (n : Nat) (k : Nat) (b d : Int64) (hk : k ≤ 48) (hv : zclen (C s0) x k b d = zval (C s0) (dg s0) x) (hn : k < n) (H : Heap) (locs : List Loc), va_P D vwCl (zq_wd F 7 (zME cL cI F C dg Y)) H → va_S A s.heap H locs → ∀ (ls : Array Slot), lv_has ls 11 [(0, .ref (F 0)), (1, .int (nI s0)), (2, .long x), (4, .long b), (6, .long d), (8, .int (nI k))] → W p l e ({ frames := 1, cells := 0, slots := 0, locals := 25 }) s m ([.ref (F 0), .int (nI s0), .long x] : List Value).toArray below meth c H locs 0 0 (zQ below D A F 7 [.ref (F 0), .int (nI s0), .long x] s (fun v2 E2 => v2 = (some (.long (zval (C s0) (dg s0) x))) ∧ E2 = (zME cL cI F C dg Y))) (F0 m 14 ls []) := by
    intro n
    induction n with
    | zero =>
      intro k b d hk hv hn
      exact absurd hn (Nat.not_lt_zero _)
    | succ n ih14 =>
      intro k b d hk hv hn H locs hP hS ls hl
      refine lv_iload hx hb dX3_valueAt_14 (lv_at hl 5 rfl) ?_
      refine zf_le (tgt := 60) hx hb dX3_valueAt_16 (by decide) (by omega) (fun c1 => ?_) (fun c1 => ?_)
      ·
        obtain rfl : k = 0 := c1
        have hl : lv_has ls 11 [(0, .ref (F 0)), (1, .int (nI s0)), (2, .long x), (4, .long b), (6, .long d), (8, .int (nI 0))] := by exact hl
        refine lv_aload_n hx hb dX3_valueAt_60 rfl (lv_at hl 0 rfl) ?_
        refine lv_iload_n hx hb dX3_valueAt_61 rfl (lv_at hl 1 rfl) ?_
        refine lv_iconst (v := nI 0) hx hb dX3_valueAt_62 (by decide +kernel) ?_
        refine zcallV (As := [.int (nI s0), .int (nI 0)]) (rest := []) (q := 0) (k := 2) hx hb hml hown hts (kX3_of l D cL cI cR A F hF C dg Y s0 (by omega) 0 (by omega) ((C s0) 0) (by first | rfl | simp [va_up, *])) gX3_valueAt_X3_of rfl (by decide +kernel) ⟨Nat.le_of_ble_eq_true rfl, Nat.le_of_ble_eq_true rfl⟩ rfl (by omega) (zM_o) rfl rfl hAm hP hS rfl hl.1 rfl (Nat.le_of_ble_eq_true rfl) dX3_valueAt_63 ⟨Nat.zero_le _, Nat.zero_le _⟩ (zkn (fun H locs hP hS => ?_))
        refine W.eq (g2 := F0 m 66 ls [.long ((C s0) 0)]) rfl ?_
        refine lv_lload_n hx hb dX3_valueAt_66 rfl (lv_at hl 2 rfl) ?_
        refine lv_lload hx hb dX3_valueAt_67 (lv_at hl 3 rfl) ?_
        refine lv_lmul hx hb dX3_valueAt_69 ?_
        refine lv_ldc2 hx hb hown (hts (.constantLong RX3 45 (1048576)) (by decide +kernel)) dX3_valueAt_70 ?_
        refine zcallS (As := [.long (x * b), .long (1048576 : Int64)]) (rest := [.long ((C s0) 0)]) (k := 2) hx hb hml hown hts (kX3_rounded l D cL cI cR A F 7 (zME cL cI F C dg Y) (x * b) (1048576 : Int64) (by decide)) gX3_valueAt_X3_rounded rfl (by decide +kernel) ⟨Nat.le_of_ble_eq_true rfl, Nat.le_of_ble_eq_true rfl⟩ hAm hP hS rfl hl.1 rfl (Nat.le_of_ble_eq_true rfl) dX3_valueAt_73 ⟨Nat.zero_le _, Nat.zero_le _⟩ (zkn (fun H locs hP hS => ?_))
        refine W.eq (g2 := F0 m 76 ls [.long (zR (x * b) (1048576 : Int64)), .long ((C s0) 0)]) rfl ?_
        refine lv_ladd hx hb dX3_valueAt_76 ?_
        refine lv_lload hx hb dX3_valueAt_77 (lv_at hl 4 rfl) ?_
        refine lv_lsub hx hb dX3_valueAt_79 ?_
        exact zretL hx hb hr hlk hS hP dX3_valueAt_80 ⟨by rw [← hv]; rfl, rfl⟩
      ·
        obtain ⟨k, rfl⟩ : ∃ j, k = j + 1 := ⟨k - 1, by omega⟩
        have hl : lv_has ls 11 [(0, .ref (F 0)), (1, .int (nI s0)), (2, .long x), (4, .long b), (6, .long d), (8, .int (nI (k + 1)))] := by exact hl
        refine lv_aload_n hx hb dX3_valueAt_19 rfl (lv_at hl 0 rfl) ?_
        refine lv_iload_n hx hb dX3_valueAt_20 rfl (lv_at hl 1 rfl) ?_
        refine lv_iload hx hb dX3_valueAt_21 (lv_at hl 5 rfl) ?_
        refine zcallV (As := [.int (nI s0), .int (nI (k + 1))]) (rest := []) (q := 0) (k := 2) hx hb hml hown hts (kX3_of l D cL cI cR A F hF C dg Y s0 (by omega) (k + 1) (by omega) ((C s0) (k + 1)) (by first | rfl | simp [va_up, *])) gX3_valueAt_X3_of rfl (by decide +kernel) ⟨Nat.le_of_ble_eq_true rfl, Nat.le_of_ble_eq_true rfl⟩ rfl (by omega) (zM_o) rfl rfl hAm hP hS rfl hl.1 rfl (Nat.le_of_ble_eq_true rfl) dX3_valueAt_23 ⟨Nat.zero_le _, Nat.zero_le _⟩ (zkn (fun H locs hP hS => ?_))
        refine W.eq (g2 := F0 m 26 ls [.long ((C s0) (k + 1))]) rfl ?_
        refine lv_ldc2 hx hb hown (hts (.constantLong RX3 47 (2)) (by decide +kernel)) dX3_valueAt_26 ?_
        refine lv_lload_n hx hb dX3_valueAt_29 rfl (lv_at hl 2 rfl) ?_
        refine lv_lmul hx hb dX3_valueAt_30 ?_
        refine lv_lload hx hb dX3_valueAt_31 (lv_at hl 3 rfl) ?_
        refine lv_lmul hx hb dX3_valueAt_33 ?_
        refine lv_ldc2 hx hb hown (hts (.constantLong RX3 45 (1048576)) (by decide +kernel)) dX3_valueAt_34 ?_
        refine zcallS (As := [.long (((2 : Int64) * x) * b), .long (1048576 : Int64)]) (rest := [.long ((C s0) (k + 1))]) (k := 2) hx hb hml hown hts (kX3_rounded l D cL cI cR A F 7 (zME cL cI F C dg Y) (((2 : Int64) * x) * b) (1048576 : Int64) (by decide)) gX3_valueAt_X3_rounded rfl (by decide +kernel) ⟨Nat.le_of_ble_eq_true rfl, Nat.le_of_ble_eq_true rfl⟩ hAm hP hS rfl hl.1 rfl (Nat.le_of_ble_eq_true rfl) dX3_valueAt_37 ⟨Nat.zero_le _, Nat.zero_le _⟩ (zkn (fun H locs hP hS => ?_))
        refine W.eq (g2 := F0 m 40 ls [.long (zR (((2 : Int64) * x) * b) (1048576 : Int64)), .long ((C s0) (k + 1))]) rfl ?_
        refine lv_ladd hx hb dX3_valueAt_40 ?_
        refine lv_lload hx hb dX3_valueAt_41 (lv_at hl 4 rfl) ?_
        refine lv_lsub hx hb dX3_valueAt_43 ?_
        refine lv_lstore (lv' := [(9, .long ((((C s0) (k + 1)) + (zR (((2 : Int64) * x) * b) (1048576 : Int64))) - d)), (0, .ref (F 0)), (1, .int (nI s0)), (2, .long x), (4, .long b), (6, .long d), (8, .int (nI (k + 1)))]) hx hb dX3_valueAt_44 hl (by decide) rfl (fun ls hl => ?_)
        refine lv_lload hx hb dX3_valueAt_46 (lv_at hl 4 rfl) ?_
        refine lv_lstore (lv' := [(6, .long b), (9, .long ((((C s0) (k + 1)) + (zR (((2 : Int64) * x) * b) (1048576 : Int64))) - d)), (0, .ref (F 0)), (1, .int (nI s0)), (2, .long x), (4, .long b), (8, .int (nI (k + 1)))]) hx hb dX3_valueAt_48 hl (by decide) rfl (fun ls hl => ?_)
        refine lv_lload hx hb dX3_valueAt_50 (lv_at hl 1 rfl) ?_
        refine lv_lstore (lv' := [(4, .long ((((C s0) (k + 1)) + (zR (((2 : Int64) * x) * b) (1048576 : Int64))) - d)), (6, .long b), (9, .long ((((C s0) (k + 1)) + (zR (((2 : Int64) * x) * b) (1048576 : Int64))) - d)), (0, .ref (F 0)), (1, .int (nI s0)), (2, .long x), (8, .int (nI (k + 1)))]) hx hb dX3_valueAt_52 hl (by decide) rfl (fun ls hl => ?_)
        refine lv_iinc (v := (nI k)) (lv' := [(8, .int (nI k)), (4, .long ((((C s0) (k + 1)) + (zR (((2 : Int64) * x) * b) (1048576 : Int64))) - d)), (6, .long b), (9, .long ((((C s0) (k + 1)) + (zR (((2 : Int64) * x) * b) (1048576 : Int64))) - d)), (0, .ref (F 0)), (1, .int (nI s0)), (2, .long x)]) hx hb dX3_valueAt_54 hl (k := 6) rfl (zinc (by omega)) (by decide) rfl (fun ls hl => ?_)
        refine lv_goto (tgt := 14) hx hb dX3_valueAt_57 (by decide) ?_
        exact ih14 k ((((C s0) (k + 1)) + (zR (((2 : Int64) * x) * b) (1048576 : Int64))) - d) b (by omega) hv (by omega) H _ hP hS ls (lv_sub hl [4, 5, 6, 1, 2, 0] rfl)
  exact L14 _ (dg s0) 0 0 (by omega) rfl (Nat.lt_succ_self _) H _ hP hS ls (lv_sub hl [3, 4, 5, 2, 1, 0] rfl)

set_option maxHeartbeats 4000000 in
set_option maxRecDepth 100000 in
theorem kX3_multiplies (l : Launch) (D : va_G) (cL cI cR : ClassId) (A : Nat → Prop) (F : Nat → Nat) (hF : zq_F A F 7) (C : Nat → Nat → Int64) (dg : Nat → Nat) (Y : zZM) (a : Nat) (ha : a < 12) (hai : ¬ a = 8) (b : Nat) (hb12 : b < 12) (hbi : ¬ b = 8) (hna : dg a ≤ 24) (hnb : dg b ≤ 24) (C2 : Nat → Nat → Int64) (dg2 : Nat → Nat) (hC2 : C2 = va_up C 8 (zprod (C a) (dg a) (C b) (dg b))) (hdg2 : dg2 = va_up dg 8 (ztop (zprod (C a) (dg a) (C b) (dg b)) 48)) : zCt l yX3_multiplies wsX3_multiplies 2 47 D cL cI cR A F 7 (zME cL cI F C dg Y) [.ref (F 0), .int (nI a), .int (nI b)] (fun v2 E2 => v2 = (some (.long (zke (zprod (C a) (dg a) (C b) (dg b))))) ∧ E2 = (zME cL cI F C2 dg2 Y)) := by
  refine zStart (cc := cX3_multiplies) (maxL := 8) (ret := (some .long)) (by decide +kernel) rfl (Nat.le_of_ble_eq_true rfl) ?_
  intro p e s m below meth c hx hb hr hml hlk hown hts hAm H hP hS ls hl
  have hown : s.vm.findClass RX3 = some m.cls := hown
  have hl : lv_has ls 8 [(0, .ref (F 0)), (1, .int (nI a)), (2, .int (nI b))] := hl
  have hinX3 : ∀ w ∈ u_ws RX3 TX3 8, w ∈ wsX3_multiplies := by decide +kernel
  have hda : ∀ v : Nat, va_up dg 8 v a = dg a := fun v => zup8 _ _ hai
  have hdb : ∀ v : Nat, va_up dg 8 v b = dg b := fun v => zup8 _ _ hbi
  have hd8 : ∀ v : Nat, va_up dg 8 v 8 = v := fun v => va_up_eq _ _ _
  refine lv_aload_n hx hb dX3_multiplies_0 rfl (lv_at hl 0 rfl) ?_
  refine lv_bipush (v := nI 8) hx hb dX3_multiplies_1 (by decide +kernel) ?_
  refine lv_aload_n hx hb dX3_multiplies_3 rfl (lv_at hl 0 rfl) ?_
  refine zget (q := 0) (k := 1) (v := .ref (F 2)) hx hb hts hinX3 hown hAm hP (by omega) (zM_o) rfl (by decide) (hts (.fieldLink RX3 13 "CosineSeriesModel" "degrees" "[I") (by decide +kernel)) (by first | rfl | simp [va_up, *]) dX3_multiplies_4 ?_
  refine lv_iload_n hx hb dX3_multiplies_7 rfl (lv_at hl 1 rfl) ?_
  refine ziald (q := 2) (k := a) (v := (nI (dg a))) hx hb hAm hP (by omega) (zM_d) (by omega) (by decide) (by first | rfl | simp [va_up, *]) dX3_multiplies_8 ?_
  refine lv_aload_n hx hb dX3_multiplies_9 rfl (lv_at hl 0 rfl) ?_
  refine zget (q := 0) (k := 1) (v := .ref (F 2)) hx hb hts hinX3 hown hAm hP (by omega) (zM_o) rfl (by decide) (hts (.fieldLink RX3 13 "CosineSeriesModel" "degrees" "[I") (by decide +kernel)) (by first | rfl | simp [va_up, *]) dX3_multiplies_10 ?_
  refine lv_iload_n hx hb dX3_multiplies_13 rfl (lv_at hl 2 rfl) ?_
  refine ziald (q := 2) (k := b) (v := (nI (dg b))) hx hb hAm hP (by omega) (zM_d) (by omega) (by decide) (by first | rfl | simp [va_up, *]) dX3_multiplies_14 ?_
  refine ziadd (d := ((dg a) + (dg b))) hx hb (by omega) dX3_multiplies_15 ?_
  refine zcallV (As := [.int (nI 8), .int (nI ((dg a) + (dg b)))]) (rest := []) (q := 0) (k := 2) hx hb hml hown hts (kX3_clears l D cL cI cR A F hF C dg Y 8 (by omega) ((dg a) + (dg b)) (by omega)) gX3_multiplies_X3_clears rfl (by decide +kernel) ⟨Nat.le_of_ble_eq_true rfl, Nat.le_of_ble_eq_true rfl⟩ rfl (by omega) (zM_o) rfl rfl hAm hP hS rfl hl.1 rfl (Nat.le_of_ble_eq_true rfl) dX3_multiplies_16 ⟨Nat.zero_le _, Nat.zero_le _⟩ (zkn (fun H locs hP hS => ?_))
  refine W.eq (g2 := F0 m 19 ls []) rfl ?_
  refine lv_iconst (v := nI 0) hx hb dX3_multiplies_19 (by decide +kernel) ?_
  refine lv_istore_n (lv' := [(3, .int (nI 0)), (0, .ref (F 0)), (1, .int (nI a)), (2, .int (nI b))]) hx hb dX3_multiplies_20 rfl hl (by decide) rfl (fun ls hl => ?_)
  have L21 : ∀ (n : Nat) (k : Nat) (f : Nat → Int64) (hk : k ≤ dg a + dg b + 1) (hf : ∀ j, j < 64 → f j = if j < k then (zprod (C a) (dg a) (C b) (dg b)) j else 0) (hn : dg a + dg b + 1 - k < n) (H : Heap) (locs : List Loc), va_P D vwCl (zq_wd F 7 (zME cL cI F (va_up C 8 f) (va_up dg 8 (dg a + dg b)) Y)) H → va_S A s.heap H locs → ∀ (ls : Array Slot), lv_has ls 8 [(0, .ref (F 0)), (1, .int (nI a)), (2, .int (nI b)), (3, .int (nI k))] → W p l e ({ frames := 2, cells := 0, slots := 0, locals := 47 }) s m ([.ref (F 0), .int (nI a), .int (nI b)] : List Value).toArray below meth c H locs 0 0 (zQ below D A F 7 [.ref (F 0), .int (nI a), .int (nI b)] s (fun v2 E2 => v2 = (some (.long (zke (zprod (C a) (dg a) (C b) (dg b))))) ∧ E2 = (zME cL cI F C2 dg2 Y))) (F0 m 21 ls []) := by
    intro n
    induction n with
    | zero =>
      intro k f hk hf hn
      exact absurd hn (Nat.not_lt_zero _)
    | succ n ih21 =>
      intro k f hk hf hn H locs hP hS ls hl
      refine lv_iload_n hx hb dX3_multiplies_21 rfl (lv_at hl 3 rfl) ?_
      refine lv_aload_n hx hb dX3_multiplies_22 rfl (lv_at hl 0 rfl) ?_
      refine zget (q := 0) (k := 1) (v := .ref (F 2)) hx hb hts hinX3 hown hAm hP (by omega) (zM_o) rfl (by decide) (hts (.fieldLink RX3 13 "CosineSeriesModel" "degrees" "[I") (by decide +kernel)) (by first | rfl | simp [va_up, *]) dX3_multiplies_23 ?_
      refine lv_bipush (v := nI 8) hx hb dX3_multiplies_26 (by decide +kernel) ?_
      refine ziald (q := 2) (k := 8) (v := (nI (dg a + dg b))) hx hb hAm hP (by omega) (zM_d) (by omega) (by decide) (by first | rfl | simp [va_up, *]) dX3_multiplies_28 ?_
      refine zi_gt (tgt := 171) hx hb dX3_multiplies_29 (by decide) (by omega) (by omega) (fun c1 => ?_) (fun c1 => ?_)
      ·
        have hP : va_P D vwCl (zq_wd F 7 (zME cL cI F (va_up C 8 (zprod (C a) (dg a) (C b) (dg b))) (va_up dg 8 (dg a + dg b)) Y)) H := zM_extC hP (zupm (fun j hj => by rw [hf j hj]; by_cases h : j < k; (rw [if_pos h]); (rw [if_neg h, zprod_0 (by omega)])))
        refine lv_aload_n hx hb dX3_multiplies_171 rfl (lv_at hl 0 rfl) ?_
        refine lv_bipush (v := nI 8) hx hb dX3_multiplies_172 (by decide +kernel) ?_
        refine zcallV (As := [.int (nI 8)]) (rest := []) (q := 0) (k := 1) hx hb hml hown hts (kX3_trims l D cL cI cR A F hF (va_up C 8 (zprod (C a) (dg a) (C b) (dg b))) (va_up dg 8 (dg a + dg b)) Y 8 (by omega) (zprod (C a) (dg a) (C b) (dg b)) (va_up_eq _ _ _) (dg a + dg b) (va_up_eq _ _ _) (by omega) (fun j hj => zprod_0 hj) (va_up dg 8 (ztop (zprod (C a) (dg a) (C b) (dg b)) 48)) (by rw [bx_uu])) gX3_multiplies_X3_trims rfl (by decide +kernel) ⟨Nat.le_of_ble_eq_true rfl, Nat.le_of_ble_eq_true rfl⟩ rfl (by omega) (zM_o) rfl rfl hAm hP hS rfl hl.1 rfl (Nat.le_of_ble_eq_true rfl) dX3_multiplies_174 ⟨Nat.zero_le _, Nat.zero_le _⟩ (zkn (fun H locs hP hS => ?_))
        refine W.eq (g2 := F0 m 177 ls [.long (zke (zprod (C a) (dg a) (C b) (dg b)))]) rfl ?_
        exact zretL hx hb hr hlk hS hP dX3_multiplies_177 ⟨rfl, by rw [hC2, hdg2]⟩
      ·
        refine lv_lconst (v := (0 : Int64)) hx hb dX3_multiplies_32 (by decide +kernel) ?_
        refine lv_lstore (lv' := [(4, .long (0 : Int64)), (0, .ref (F 0)), (1, .int (nI a)), (2, .int (nI b)), (3, .int (nI k))]) hx hb dX3_multiplies_33 hl (by decide) rfl (fun ls hl => ?_)
        refine lv_iconst (v := nI 0) hx hb dX3_multiplies_35 (by decide +kernel) ?_
        refine lv_istore (lv' := [(6, .int (nI 0)), (4, .long (0 : Int64)), (0, .ref (F 0)), (1, .int (nI a)), (2, .int (nI b)), (3, .int (nI k))]) hx hb dX3_multiplies_36 hl (by decide) rfl (fun ls hl => ?_)
        have L38 : ∀ (n : Nat) (i1 : Nat) (u : Int64) (hi1 : i1 ≤ dg a + 1) (hu : u = zpout (C a) (C b) (dg b) k i1) (hn : dg a + 1 - i1 < n) (H : Heap) (locs : List Loc), va_P D vwCl (zq_wd F 7 (zME cL cI F (va_up C 8 f) (va_up dg 8 (dg a + dg b)) Y)) H → va_S A s.heap H locs → ∀ (ls : Array Slot), lv_has ls 8 [(0, .ref (F 0)), (1, .int (nI a)), (2, .int (nI b)), (3, .int (nI k)), (4, .long u), (6, .int (nI i1))] → W p l e ({ frames := 2, cells := 0, slots := 0, locals := 47 }) s m ([.ref (F 0), .int (nI a), .int (nI b)] : List Value).toArray below meth c H locs 0 0 (zQ below D A F 7 [.ref (F 0), .int (nI a), .int (nI b)] s (fun v2 E2 => v2 = (some (.long (zke (zprod (C a) (dg a) (C b) (dg b))))) ∧ E2 = (zME cL cI F C2 dg2 Y))) (F0 m 38 ls []) := by
          intro n
          induction n with
          | zero =>
            intro i1 u hi1 hu hn
            exact absurd hn (Nat.not_lt_zero _)
          | succ n ih38 =>
            intro i1 u hi1 hu hn H locs hP hS ls hl
            refine lv_iload hx hb dX3_multiplies_38 (lv_at hl 5 rfl) ?_
            refine lv_aload_n hx hb dX3_multiplies_40 rfl (lv_at hl 0 rfl) ?_
            refine zget (q := 0) (k := 1) (v := .ref (F 2)) hx hb hts hinX3 hown hAm hP (by omega) (zM_o) rfl (by decide) (hts (.fieldLink RX3 13 "CosineSeriesModel" "degrees" "[I") (by decide +kernel)) (by first | rfl | simp [va_up, *]) dX3_multiplies_41 ?_
            refine lv_iload_n hx hb dX3_multiplies_44 rfl (lv_at hl 1 rfl) ?_
            refine ziald (q := 2) (k := a) (v := (nI (dg a))) hx hb hAm hP (by omega) (zM_d) (by omega) (by decide) (by first | rfl | simp [va_up, *]) dX3_multiplies_45 ?_
            refine zi_gt (tgt := 150) hx hb dX3_multiplies_46 (by decide) (by omega) (by omega) (fun c2 => ?_) (fun c2 => ?_)
            ·
              refine lv_aload_n hx hb dX3_multiplies_150 rfl (lv_at hl 0 rfl) ?_
              refine lv_bipush (v := nI 8) hx hb dX3_multiplies_151 (by decide +kernel) ?_
              refine lv_iload_n hx hb dX3_multiplies_153 rfl (lv_at hl 3 rfl) ?_
              refine lv_lload hx hb dX3_multiplies_154 (lv_at hl 4 rfl) ?_
              refine lv_ldc2 hx hb hown (hts (.constantLong RX3 106 (2097152)) (by decide +kernel)) dX3_multiplies_156 ?_
              refine zcallS (As := [.long u, .long (2097152 : Int64)]) (rest := [.int (nI k), .int (nI 8), .ref (F 0)]) (k := 2) hx hb hml hown hts (kX3_rounded l D cL cI cR A F 7 (zME cL cI F (va_up C 8 f) (va_up dg 8 (dg a + dg b)) Y) u (2097152 : Int64) (by decide)) gX3_multiplies_X3_rounded rfl (by decide +kernel) ⟨Nat.le_of_ble_eq_true rfl, Nat.le_of_ble_eq_true rfl⟩ hAm hP hS rfl hl.1 rfl (Nat.le_of_ble_eq_true rfl) dX3_multiplies_159 ⟨Nat.zero_le _, Nat.zero_le _⟩ (zkn (fun H locs hP hS => ?_))
              refine W.eq (g2 := F0 m 162 ls [.long (zR u (2097152 : Int64)), .int (nI k), .int (nI 8), .ref (F 0)]) rfl ?_
              refine zcallV (As := [.int (nI 8), .int (nI k), .long (zR u (2097152 : Int64))]) (rest := []) (q := 0) (k := 3) hx hb hml hown hts (kX3_sets l D cL cI cR A F hF (va_up C 8 f) (va_up dg 8 (dg a + dg b)) Y 8 (by omega) k (by omega) (zR u (2097152 : Int64)) (va_up C 8 (vp_updL f k (zR u (2097152 : Int64)))) (by first | rfl | simp only [bx_uu, va_up_eq])) gX3_multiplies_X3_sets rfl (by decide +kernel) ⟨Nat.le_of_ble_eq_true rfl, Nat.le_of_ble_eq_true rfl⟩ rfl (by omega) (zM_o) rfl rfl hAm hP hS rfl hl.1 rfl (Nat.le_of_ble_eq_true rfl) dX3_multiplies_162 ⟨Nat.zero_le _, Nat.zero_le _⟩ (zkn (fun H locs hP hS => ?_))
              refine W.eq (g2 := F0 m 165 ls []) rfl ?_
              refine lv_iinc (v := (nI (k + 1))) (lv' := [(3, .int (nI (k + 1))), (0, .ref (F 0)), (1, .int (nI a)), (2, .int (nI b)), (4, .long u), (6, .int (nI i1))]) hx hb dX3_multiplies_165 hl (k := 3) rfl (zinc (by omega)) (by decide) rfl (fun ls hl => ?_)
              refine lv_goto (tgt := 21) hx hb dX3_multiplies_168 (by decide) ?_
              exact ih21 (k + 1) _ (by omega) (fun j hj => by unfold vp_updL; split; (rename_i h; rw [if_pos (by omega), h, hu, show i1 = dg a + 1 by omega]; rfl); (rw [hf j hj]; by_cases h : j < k; (rw [if_pos h, if_pos (by omega)]); (rw [if_neg h, if_neg (by omega)]))) (by omega) H _ hP hS ls (lv_sub hl [1, 2, 3, 0] rfl)
            ·
              refine lv_iconst (v := nI 0) hx hb dX3_multiplies_49 (by decide +kernel) ?_
              refine lv_istore (lv' := [(7, .int (nI 0)), (0, .ref (F 0)), (1, .int (nI a)), (2, .int (nI b)), (3, .int (nI k)), (4, .long u), (6, .int (nI i1))]) hx hb dX3_multiplies_50 hl (by decide) rfl (fun ls hl => ?_)
              have L52 : ∀ (n : Nat) (q : Nat) (u : Int64) (hq : q ≤ dg b + 1) (hu : u = zpin (C a) (C b) k i1 q (zpout (C a) (C b) (dg b) k i1)) (hn : dg b + 1 - q < n) (H : Heap) (locs : List Loc), va_P D vwCl (zq_wd F 7 (zME cL cI F (va_up C 8 f) (va_up dg 8 (dg a + dg b)) Y)) H → va_S A s.heap H locs → ∀ (ls : Array Slot), lv_has ls 8 [(0, .ref (F 0)), (1, .int (nI a)), (2, .int (nI b)), (3, .int (nI k)), (4, .long u), (6, .int (nI i1)), (7, .int (nI q))] → W p l e ({ frames := 2, cells := 0, slots := 0, locals := 47 }) s m ([.ref (F 0), .int (nI a), .int (nI b)] : List Value).toArray below meth c H locs 0 0 (zQ below D A F 7 [.ref (F 0), .int (nI a), .int (nI b)] s (fun v2 E2 => v2 = (some (.long (zke (zprod (C a) (dg a) (C b) (dg b))))) ∧ E2 = (zME cL cI F C2 dg2 Y))) (F0 m 52 ls []) := by
                intro n
                induction n with
                | zero =>
                  intro q u hq hu hn
                  exact absurd hn (Nat.not_lt_zero _)
                | succ n ih52 =>
                  intro q u hq hu hn H locs hP hS ls hl
                  refine lv_iload hx hb dX3_multiplies_52 (lv_at hl 6 rfl) ?_
                  refine lv_aload_n hx hb dX3_multiplies_54 rfl (lv_at hl 0 rfl) ?_
                  refine zget (q := 0) (k := 1) (v := .ref (F 2)) hx hb hts hinX3 hown hAm hP (by omega) (zM_o) rfl (by decide) (hts (.fieldLink RX3 13 "CosineSeriesModel" "degrees" "[I") (by decide +kernel)) (by first | rfl | simp [va_up, *]) dX3_multiplies_55 ?_
                  refine lv_iload_n hx hb dX3_multiplies_58 rfl (lv_at hl 2 rfl) ?_
                  refine ziald (q := 2) (k := b) (v := (nI (dg b))) hx hb hAm hP (by omega) (zM_d) (by omega) (by decide) (by first | rfl | simp [va_up, *]) dX3_multiplies_59 ?_
                  refine zi_gt (tgt := 144) hx hb dX3_multiplies_60 (by decide) (by omega) (by omega) (fun c3 => ?_) (fun c3 => ?_)
                  ·
                    refine lv_iinc (v := (nI (i1 + 1))) (lv' := [(6, .int (nI (i1 + 1))), (0, .ref (F 0)), (1, .int (nI a)), (2, .int (nI b)), (3, .int (nI k)), (4, .long u), (7, .int (nI q))]) hx hb dX3_multiplies_144 hl (k := 5) rfl (zinc (by omega)) (by decide) rfl (fun ls hl => ?_)
                    refine lv_goto (tgt := 38) hx hb dX3_multiplies_147 (by decide) ?_
                    exact ih38 (i1 + 1) u (by omega) (by rw [hu, show q = dg b + 1 by omega]; rfl) (by omega) H _ hP hS ls (lv_sub hl [1, 2, 3, 4, 5, 0] rfl)
                  ·
                    refine lv_lload hx hb dX3_multiplies_63 (lv_at hl 4 rfl) ?_
                    refine lv_iload hx hb dX3_multiplies_65 (lv_at hl 5 rfl) ?_
                    refine lv_iload hx hb dX3_multiplies_67 (lv_at hl 6 rfl) ?_
                    refine ziadd (d := (i1 + q)) hx hb (by omega) dX3_multiplies_69 ?_
                    refine lv_iload_n hx hb dX3_multiplies_70 rfl (lv_at hl 3 rfl) ?_
                    refine zi_ne (tgt := 92) hx hb dX3_multiplies_71 (by decide) (by omega) (by omega) (fun c4 => ?_) (fun c4 => ?_)
                    ·
                      refine lv_lconst (v := (0 : Int64)) hx hb dX3_multiplies_92 (by decide +kernel) ?_
                      refine lv_ladd hx hb dX3_multiplies_93 ?_
                      refine lv_lstore (lv' := [(4, .long (u + (0 : Int64))), (0, .ref (F 0)), (1, .int (nI a)), (2, .int (nI b)), (3, .int (nI k)), (6, .int (nI i1)), (7, .int (nI q))]) hx hb dX3_multiplies_94 hl (by decide) rfl (fun ls hl => ?_)
                      refine lv_lload hx hb dX3_multiplies_96 (lv_at hl 0 rfl) ?_
                      refine lv_iload hx hb dX3_multiplies_98 (lv_at hl 5 rfl) ?_
                      refine lv_iload hx hb dX3_multiplies_100 (lv_at hl 6 rfl) ?_
                      refine lv_isub hx hb dX3_multiplies_102 ?_
                      refine lv_iload_n hx hb dX3_multiplies_103 rfl (lv_at hl 4 rfl) ?_
                      refine lv_icmp_eq (tgt := 116) hx hb dX3_multiplies_104 (by decide) (fun c5 => ?_) (fun c5 => ?_)
                      ·
                        have cs := (zsubeq (by omega) (by omega) (by omega)).mp c5
                        have h2 : i1 - q + (q - i1) = k := by omega
                        refine lv_aload_n hx hb dX3_multiplies_116 rfl (lv_at hl 1 rfl) ?_
                        refine lv_iload_n hx hb dX3_multiplies_117 rfl (lv_at hl 2 rfl) ?_
                        refine lv_iload hx hb dX3_multiplies_118 (lv_at hl 5 rfl) ?_
                        refine zcallV (As := [.int (nI a), .int (nI i1)]) (rest := [.long (u + (0 : Int64))]) (q := 0) (k := 2) hx hb hml hown hts (kX3_of l D cL cI cR A F hF (va_up C 8 f) (va_up dg 8 (dg a + dg b)) Y a (by omega) i1 (by omega) (C a i1) (zup8a hai _)) gX3_multiplies_X3_of rfl (by decide +kernel) ⟨Nat.le_of_ble_eq_true rfl, Nat.le_of_ble_eq_true rfl⟩ rfl (by omega) (zM_o) rfl rfl hAm hP hS rfl hl.1 rfl (Nat.le_of_ble_eq_true rfl) dX3_multiplies_120 ⟨Nat.zero_le _, Nat.zero_le _⟩ (zkn (fun H locs hP hS => ?_))
                        refine W.eq (g2 := F0 m 123 ls [.long (C a i1), .long (u + (0 : Int64))]) rfl ?_
                        refine lv_aload_n hx hb dX3_multiplies_123 rfl (lv_at hl 1 rfl) ?_
                        refine lv_iload_n hx hb dX3_multiplies_124 rfl (lv_at hl 3 rfl) ?_
                        refine lv_iload hx hb dX3_multiplies_125 (lv_at hl 6 rfl) ?_
                        refine zcallV (As := [.int (nI b), .int (nI q)]) (rest := [.long (C a i1), .long (u + (0 : Int64))]) (q := 0) (k := 2) hx hb hml hown hts (kX3_of l D cL cI cR A F hF (va_up C 8 f) (va_up dg 8 (dg a + dg b)) Y b (by omega) q (by omega) (C b q) (zup8a hbi _)) gX3_multiplies_X3_of rfl (by decide +kernel) ⟨Nat.le_of_ble_eq_true rfl, Nat.le_of_ble_eq_true rfl⟩ rfl (by omega) (zM_o) rfl rfl hAm hP hS rfl hl.1 rfl (Nat.le_of_ble_eq_true rfl) dX3_multiplies_127 ⟨Nat.zero_le _, Nat.zero_le _⟩ (zkn (fun H locs hP hS => ?_))
                        refine W.eq (g2 := F0 m 130 ls [.long (C b q), .long (C a i1), .long (u + (0 : Int64))]) rfl ?_
                        refine lv_lmul hx hb dX3_multiplies_130 ?_
                        refine lv_goto (tgt := 135) hx hb dX3_multiplies_131 (by decide) ?_
                        refine lv_ladd hx hb dX3_multiplies_135 ?_
                        refine lv_lstore (lv' := [(4, .long ((u + (0 : Int64)) + ((C a i1) * (C b q)))), (0, .ref (F 0)), (1, .int (nI a)), (2, .int (nI b)), (3, .int (nI k)), (6, .int (nI i1)), (7, .int (nI q))]) hx hb dX3_multiplies_136 hl (by decide) rfl (fun ls hl => ?_)
                        refine lv_iinc (v := (nI (q + 1))) (lv' := [(7, .int (nI (q + 1))), (4, .long ((u + (0 : Int64)) + ((C a i1) * (C b q)))), (0, .ref (F 0)), (1, .int (nI a)), (2, .int (nI b)), (3, .int (nI k)), (6, .int (nI i1))]) hx hb dX3_multiplies_138 hl (k := 6) rfl (zinc (by omega)) (by decide) rfl (fun ls hl => ?_)
                        refine lv_goto (tgt := 52) hx hb dX3_multiplies_141 (by decide) ?_
                        exact ih52 (q + 1) ((u + (0 : Int64)) + ((C a i1) * (C b q))) (by omega) (by rw [hu]; simp only [zpin]; (first | rw [if_pos (show i1 + q = k by assumption)] | rw [if_neg (show ¬ i1 + q = k by assumption)]); (first | rw [if_pos h2] | rw [if_neg h2])) (by omega) H _ hP hS ls (lv_sub hl [2, 3, 4, 5, 1, 6, 0] rfl)
                      ·
                        have cs := (fun h => c5 ((zsubeq (by omega) (by omega) (by omega)).mpr h) : ¬ i1 = k + q)
                        refine lv_iload hx hb dX3_multiplies_107 (lv_at hl 6 rfl) ?_
                        refine lv_iload hx hb dX3_multiplies_109 (lv_at hl 5 rfl) ?_
                        refine lv_isub hx hb dX3_multiplies_111 ?_
                        refine lv_iload_n hx hb dX3_multiplies_112 rfl (lv_at hl 4 rfl) ?_
                        refine lv_icmp_ne (tgt := 134) hx hb dX3_multiplies_113 (by decide) (fun c6 => ?_) (fun c6 => ?_)
                        ·
                          have cs2 := (fun h => c6 ((zsubeq (by omega) (by omega) (by omega)).mpr h)   : ¬ q = k + i1)
                          have h2 := zabs_ne cs cs2
                          refine lv_lconst (v := (0 : Int64)) hx hb dX3_multiplies_134 (by decide +kernel) ?_
                          refine lv_ladd hx hb dX3_multiplies_135 ?_
                          refine lv_lstore (lv' := [(4, .long ((u + (0 : Int64)) + (0 : Int64))), (0, .ref (F 0)), (1, .int (nI a)), (2, .int (nI b)), (3, .int (nI k)), (6, .int (nI i1)), (7, .int (nI q))]) hx hb dX3_multiplies_136 hl (by decide) rfl (fun ls hl => ?_)
                          refine lv_iinc (v := (nI (q + 1))) (lv' := [(7, .int (nI (q + 1))), (4, .long ((u + (0 : Int64)) + (0 : Int64))), (0, .ref (F 0)), (1, .int (nI a)), (2, .int (nI b)), (3, .int (nI k)), (6, .int (nI i1))]) hx hb dX3_multiplies_138 hl (k := 6) rfl (zinc (by omega)) (by decide) rfl (fun ls hl => ?_)
                          refine lv_goto (tgt := 52) hx hb dX3_multiplies_141 (by decide) ?_
                          exact ih52 (q + 1) ((u + (0 : Int64)) + (0 : Int64)) (by omega) (by rw [hu]; simp only [zpin]; (first | rw [if_pos (show i1 + q = k by assumption)] | rw [if_neg (show ¬ i1 + q = k by assumption)]); (first | rw [if_pos h2] | rw [if_neg h2])) (by omega) H _ hP hS ls (lv_sub hl [2, 3, 4, 5, 1, 6, 0] rfl)
                        ·
                          have cs2 := (zsubeq (by omega) (by omega) (by omega)).mp c6
                          have h2 : i1 - q + (q - i1) = k := by omega
                          refine lv_aload_n hx hb dX3_multiplies_116 rfl (lv_at hl 1 rfl) ?_
                          refine lv_iload_n hx hb dX3_multiplies_117 rfl (lv_at hl 2 rfl) ?_
                          refine lv_iload hx hb dX3_multiplies_118 (lv_at hl 5 rfl) ?_
                          refine zcallV (As := [.int (nI a), .int (nI i1)]) (rest := [.long (u + (0 : Int64))]) (q := 0) (k := 2) hx hb hml hown hts (kX3_of l D cL cI cR A F hF (va_up C 8 f) (va_up dg 8 (dg a + dg b)) Y a (by omega) i1 (by omega) (C a i1) (zup8a hai _)) gX3_multiplies_X3_of rfl (by decide +kernel) ⟨Nat.le_of_ble_eq_true rfl, Nat.le_of_ble_eq_true rfl⟩ rfl (by omega) (zM_o) rfl rfl hAm hP hS rfl hl.1 rfl (Nat.le_of_ble_eq_true rfl) dX3_multiplies_120 ⟨Nat.zero_le _, Nat.zero_le _⟩ (zkn (fun H locs hP hS => ?_))
                          refine W.eq (g2 := F0 m 123 ls [.long (C a i1), .long (u + (0 : Int64))]) rfl ?_
                          refine lv_aload_n hx hb dX3_multiplies_123 rfl (lv_at hl 1 rfl) ?_
                          refine lv_iload_n hx hb dX3_multiplies_124 rfl (lv_at hl 3 rfl) ?_
                          refine lv_iload hx hb dX3_multiplies_125 (lv_at hl 6 rfl) ?_
                          refine zcallV (As := [.int (nI b), .int (nI q)]) (rest := [.long (C a i1), .long (u + (0 : Int64))]) (q := 0) (k := 2) hx hb hml hown hts (kX3_of l D cL cI cR A F hF (va_up C 8 f) (va_up dg 8 (dg a + dg b)) Y b (by omega) q (by omega) (C b q) (zup8a hbi _)) gX3_multiplies_X3_of rfl (by decide +kernel) ⟨Nat.le_of_ble_eq_true rfl, Nat.le_of_ble_eq_true rfl⟩ rfl (by omega) (zM_o) rfl rfl hAm hP hS rfl hl.1 rfl (Nat.le_of_ble_eq_true rfl) dX3_multiplies_127 ⟨Nat.zero_le _, Nat.zero_le _⟩ (zkn (fun H locs hP hS => ?_))
                          refine W.eq (g2 := F0 m 130 ls [.long (C b q), .long (C a i1), .long (u + (0 : Int64))]) rfl ?_
                          refine lv_lmul hx hb dX3_multiplies_130 ?_
                          refine lv_goto (tgt := 135) hx hb dX3_multiplies_131 (by decide) ?_
                          refine lv_ladd hx hb dX3_multiplies_135 ?_
                          refine lv_lstore (lv' := [(4, .long ((u + (0 : Int64)) + ((C a i1) * (C b q)))), (0, .ref (F 0)), (1, .int (nI a)), (2, .int (nI b)), (3, .int (nI k)), (6, .int (nI i1)), (7, .int (nI q))]) hx hb dX3_multiplies_136 hl (by decide) rfl (fun ls hl => ?_)
                          refine lv_iinc (v := (nI (q + 1))) (lv' := [(7, .int (nI (q + 1))), (4, .long ((u + (0 : Int64)) + ((C a i1) * (C b q)))), (0, .ref (F 0)), (1, .int (nI a)), (2, .int (nI b)), (3, .int (nI k)), (6, .int (nI i1))]) hx hb dX3_multiplies_138 hl (k := 6) rfl (zinc (by omega)) (by decide) rfl (fun ls hl => ?_)
                          refine lv_goto (tgt := 52) hx hb dX3_multiplies_141 (by decide) ?_
                          exact ih52 (q + 1) ((u + (0 : Int64)) + ((C a i1) * (C b q))) (by omega) (by rw [hu]; simp only [zpin]; (first | rw [if_pos (show i1 + q = k by assumption)] | rw [if_neg (show ¬ i1 + q = k by assumption)]); (first | rw [if_pos h2] | rw [if_neg h2])) (by omega) H _ hP hS ls (lv_sub hl [2, 3, 4, 5, 1, 6, 0] rfl)
                    ·
                      refine lv_aload_n hx hb dX3_multiplies_74 rfl (lv_at hl 0 rfl) ?_
                      refine lv_iload_n hx hb dX3_multiplies_75 rfl (lv_at hl 1 rfl) ?_
                      refine lv_iload hx hb dX3_multiplies_76 (lv_at hl 5 rfl) ?_
                      refine zcallV (As := [.int (nI a), .int (nI i1)]) (rest := [.long u]) (q := 0) (k := 2) hx hb hml hown hts (kX3_of l D cL cI cR A F hF (va_up C 8 f) (va_up dg 8 (dg a + dg b)) Y a (by omega) i1 (by omega) (C a i1) (zup8a hai _)) gX3_multiplies_X3_of rfl (by decide +kernel) ⟨Nat.le_of_ble_eq_true rfl, Nat.le_of_ble_eq_true rfl⟩ rfl (by omega) (zM_o) rfl rfl hAm hP hS rfl hl.1 rfl (Nat.le_of_ble_eq_true rfl) dX3_multiplies_78 ⟨Nat.zero_le _, Nat.zero_le _⟩ (zkn (fun H locs hP hS => ?_))
                      refine W.eq (g2 := F0 m 81 ls [.long (C a i1), .long u]) rfl ?_
                      refine lv_aload_n hx hb dX3_multiplies_81 rfl (lv_at hl 0 rfl) ?_
                      refine lv_iload_n hx hb dX3_multiplies_82 rfl (lv_at hl 2 rfl) ?_
                      refine lv_iload hx hb dX3_multiplies_83 (lv_at hl 6 rfl) ?_
                      refine zcallV (As := [.int (nI b), .int (nI q)]) (rest := [.long (C a i1), .long u]) (q := 0) (k := 2) hx hb hml hown hts (kX3_of l D cL cI cR A F hF (va_up C 8 f) (va_up dg 8 (dg a + dg b)) Y b (by omega) q (by omega) (C b q) (zup8a hbi _)) gX3_multiplies_X3_of rfl (by decide +kernel) ⟨Nat.le_of_ble_eq_true rfl, Nat.le_of_ble_eq_true rfl⟩ rfl (by omega) (zM_o) rfl rfl hAm hP hS rfl hl.1 rfl (Nat.le_of_ble_eq_true rfl) dX3_multiplies_85 ⟨Nat.zero_le _, Nat.zero_le _⟩ (zkn (fun H locs hP hS => ?_))
                      refine W.eq (g2 := F0 m 88 ls [.long (C b q), .long (C a i1), .long u]) rfl ?_
                      refine lv_lmul hx hb dX3_multiplies_88 ?_
                      refine lv_goto (tgt := 93) hx hb dX3_multiplies_89 (by decide) ?_
                      refine lv_ladd hx hb dX3_multiplies_93 ?_
                      refine lv_lstore (lv' := [(4, .long (u + ((C a i1) * (C b q)))), (0, .ref (F 0)), (1, .int (nI a)), (2, .int (nI b)), (3, .int (nI k)), (6, .int (nI i1)), (7, .int (nI q))]) hx hb dX3_multiplies_94 hl (by decide) rfl (fun ls hl => ?_)
                      refine lv_lload hx hb dX3_multiplies_96 (lv_at hl 0 rfl) ?_
                      refine lv_iload hx hb dX3_multiplies_98 (lv_at hl 5 rfl) ?_
                      refine lv_iload hx hb dX3_multiplies_100 (lv_at hl 6 rfl) ?_
                      refine lv_isub hx hb dX3_multiplies_102 ?_
                      refine lv_iload_n hx hb dX3_multiplies_103 rfl (lv_at hl 4 rfl) ?_
                      refine lv_icmp_eq (tgt := 116) hx hb dX3_multiplies_104 (by decide) (fun c7 => ?_) (fun c7 => ?_)
                      ·
                        have cs := (zsubeq (by omega) (by omega) (by omega)).mp c7
                        have h2 : i1 - q + (q - i1) = k := by omega
                        refine lv_aload_n hx hb dX3_multiplies_116 rfl (lv_at hl 1 rfl) ?_
                        refine lv_iload_n hx hb dX3_multiplies_117 rfl (lv_at hl 2 rfl) ?_
                        refine lv_iload hx hb dX3_multiplies_118 (lv_at hl 5 rfl) ?_
                        refine zcallV (As := [.int (nI a), .int (nI i1)]) (rest := [.long (u + ((C a i1) * (C b q)))]) (q := 0) (k := 2) hx hb hml hown hts (kX3_of l D cL cI cR A F hF (va_up C 8 f) (va_up dg 8 (dg a + dg b)) Y a (by omega) i1 (by omega) (C a i1) (zup8a hai _)) gX3_multiplies_X3_of rfl (by decide +kernel) ⟨Nat.le_of_ble_eq_true rfl, Nat.le_of_ble_eq_true rfl⟩ rfl (by omega) (zM_o) rfl rfl hAm hP hS rfl hl.1 rfl (Nat.le_of_ble_eq_true rfl) dX3_multiplies_120 ⟨Nat.zero_le _, Nat.zero_le _⟩ (zkn (fun H locs hP hS => ?_))
                        refine W.eq (g2 := F0 m 123 ls [.long (C a i1), .long (u + ((C a i1) * (C b q)))]) rfl ?_
                        refine lv_aload_n hx hb dX3_multiplies_123 rfl (lv_at hl 1 rfl) ?_
                        refine lv_iload_n hx hb dX3_multiplies_124 rfl (lv_at hl 3 rfl) ?_
                        refine lv_iload hx hb dX3_multiplies_125 (lv_at hl 6 rfl) ?_
                        refine zcallV (As := [.int (nI b), .int (nI q)]) (rest := [.long (C a i1), .long (u + ((C a i1) * (C b q)))]) (q := 0) (k := 2) hx hb hml hown hts (kX3_of l D cL cI cR A F hF (va_up C 8 f) (va_up dg 8 (dg a + dg b)) Y b (by omega) q (by omega) (C b q) (zup8a hbi _)) gX3_multiplies_X3_of rfl (by decide +kernel) ⟨Nat.le_of_ble_eq_true rfl, Nat.le_of_ble_eq_true rfl⟩ rfl (by omega) (zM_o) rfl rfl hAm hP hS rfl hl.1 rfl (Nat.le_of_ble_eq_true rfl) dX3_multiplies_127 ⟨Nat.zero_le _, Nat.zero_le _⟩ (zkn (fun H locs hP hS => ?_))
                        refine W.eq (g2 := F0 m 130 ls [.long (C b q), .long (C a i1), .long (u + ((C a i1) * (C b q)))]) rfl ?_
                        refine lv_lmul hx hb dX3_multiplies_130 ?_
                        refine lv_goto (tgt := 135) hx hb dX3_multiplies_131 (by decide) ?_
                        refine lv_ladd hx hb dX3_multiplies_135 ?_
                        refine lv_lstore (lv' := [(4, .long ((u + ((C a i1) * (C b q))) + ((C a i1) * (C b q)))), (0, .ref (F 0)), (1, .int (nI a)), (2, .int (nI b)), (3, .int (nI k)), (6, .int (nI i1)), (7, .int (nI q))]) hx hb dX3_multiplies_136 hl (by decide) rfl (fun ls hl => ?_)
                        refine lv_iinc (v := (nI (q + 1))) (lv' := [(7, .int (nI (q + 1))), (4, .long ((u + ((C a i1) * (C b q))) + ((C a i1) * (C b q)))), (0, .ref (F 0)), (1, .int (nI a)), (2, .int (nI b)), (3, .int (nI k)), (6, .int (nI i1))]) hx hb dX3_multiplies_138 hl (k := 6) rfl (zinc (by omega)) (by decide) rfl (fun ls hl => ?_)
                        refine lv_goto (tgt := 52) hx hb dX3_multiplies_141 (by decide) ?_
                        exact ih52 (q + 1) ((u + ((C a i1) * (C b q))) + ((C a i1) * (C b q))) (by omega) (by rw [hu]; simp only [zpin]; (first | rw [if_pos (show i1 + q = k by assumption)] | rw [if_neg (show ¬ i1 + q = k by assumption)]); (first | rw [if_pos h2] | rw [if_neg h2])) (by omega) H _ hP hS ls (lv_sub hl [2, 3, 4, 5, 1, 6, 0] rfl)
                      ·
                        have cs := (fun h => c7 ((zsubeq (by omega) (by omega) (by omega)).mpr h) : ¬ i1 = k + q)
                        refine lv_iload hx hb dX3_multiplies_107 (lv_at hl 6 rfl) ?_
                        refine lv_iload hx hb dX3_multiplies_109 (lv_at hl 5 rfl) ?_
                        refine lv_isub hx hb dX3_multiplies_111 ?_
                        refine lv_iload_n hx hb dX3_multiplies_112 rfl (lv_at hl 4 rfl) ?_
                        refine lv_icmp_ne (tgt := 134) hx hb dX3_multiplies_113 (by decide) (fun c8 => ?_) (fun c8 => ?_)
                        ·
                          have cs2 := (fun h => c8 ((zsubeq (by omega) (by omega) (by omega)).mpr h)   : ¬ q = k + i1)
                          have h2 := zabs_ne cs cs2
                          refine lv_lconst (v := (0 : Int64)) hx hb dX3_multiplies_134 (by decide +kernel) ?_
                          refine lv_ladd hx hb dX3_multiplies_135 ?_
                          refine lv_lstore (lv' := [(4, .long ((u + ((C a i1) * (C b q))) + (0 : Int64))), (0, .ref (F 0)), (1, .int (nI a)), (2, .int (nI b)), (3, .int (nI k)), (6, .int (nI i1)), (7, .int (nI q))]) hx hb dX3_multiplies_136 hl (by decide) rfl (fun ls hl => ?_)
                          refine lv_iinc (v := (nI (q + 1))) (lv' := [(7, .int (nI (q + 1))), (4, .long ((u + ((C a i1) * (C b q))) + (0 : Int64))), (0, .ref (F 0)), (1, .int (nI a)), (2, .int (nI b)), (3, .int (nI k)), (6, .int (nI i1))]) hx hb dX3_multiplies_138 hl (k := 6) rfl (zinc (by omega)) (by decide) rfl (fun ls hl => ?_)
                          refine lv_goto (tgt := 52) hx hb dX3_multiplies_141 (by decide) ?_
                          exact ih52 (q + 1) ((u + ((C a i1) * (C b q))) + (0 : Int64)) (by omega) (by rw [hu]; simp only [zpin]; (first | rw [if_pos (show i1 + q = k by assumption)] | rw [if_neg (show ¬ i1 + q = k by assumption)]); (first | rw [if_pos h2] | rw [if_neg h2])) (by omega) H _ hP hS ls (lv_sub hl [2, 3, 4, 5, 1, 6, 0] rfl)
                        ·
                          have cs2 := (zsubeq (by omega) (by omega) (by omega)).mp c8
                          have h2 : i1 - q + (q - i1) = k := by omega
                          refine lv_aload_n hx hb dX3_multiplies_116 rfl (lv_at hl 1 rfl) ?_
                          refine lv_iload_n hx hb dX3_multiplies_117 rfl (lv_at hl 2 rfl) ?_
                          refine lv_iload hx hb dX3_multiplies_118 (lv_at hl 5 rfl) ?_
                          refine zcallV (As := [.int (nI a), .int (nI i1)]) (rest := [.long (u + ((C a i1) * (C b q)))]) (q := 0) (k := 2) hx hb hml hown hts (kX3_of l D cL cI cR A F hF (va_up C 8 f) (va_up dg 8 (dg a + dg b)) Y a (by omega) i1 (by omega) (C a i1) (zup8a hai _)) gX3_multiplies_X3_of rfl (by decide +kernel) ⟨Nat.le_of_ble_eq_true rfl, Nat.le_of_ble_eq_true rfl⟩ rfl (by omega) (zM_o) rfl rfl hAm hP hS rfl hl.1 rfl (Nat.le_of_ble_eq_true rfl) dX3_multiplies_120 ⟨Nat.zero_le _, Nat.zero_le _⟩ (zkn (fun H locs hP hS => ?_))
                          refine W.eq (g2 := F0 m 123 ls [.long (C a i1), .long (u + ((C a i1) * (C b q)))]) rfl ?_
                          refine lv_aload_n hx hb dX3_multiplies_123 rfl (lv_at hl 1 rfl) ?_
                          refine lv_iload_n hx hb dX3_multiplies_124 rfl (lv_at hl 3 rfl) ?_
                          refine lv_iload hx hb dX3_multiplies_125 (lv_at hl 6 rfl) ?_
                          refine zcallV (As := [.int (nI b), .int (nI q)]) (rest := [.long (C a i1), .long (u + ((C a i1) * (C b q)))]) (q := 0) (k := 2) hx hb hml hown hts (kX3_of l D cL cI cR A F hF (va_up C 8 f) (va_up dg 8 (dg a + dg b)) Y b (by omega) q (by omega) (C b q) (zup8a hbi _)) gX3_multiplies_X3_of rfl (by decide +kernel) ⟨Nat.le_of_ble_eq_true rfl, Nat.le_of_ble_eq_true rfl⟩ rfl (by omega) (zM_o) rfl rfl hAm hP hS rfl hl.1 rfl (Nat.le_of_ble_eq_true rfl) dX3_multiplies_127 ⟨Nat.zero_le _, Nat.zero_le _⟩ (zkn (fun H locs hP hS => ?_))
                          refine W.eq (g2 := F0 m 130 ls [.long (C b q), .long (C a i1), .long (u + ((C a i1) * (C b q)))]) rfl ?_
                          refine lv_lmul hx hb dX3_multiplies_130 ?_
                          refine lv_goto (tgt := 135) hx hb dX3_multiplies_131 (by decide) ?_
                          refine lv_ladd hx hb dX3_multiplies_135 ?_
                          refine lv_lstore (lv' := [(4, .long ((u + ((C a i1) * (C b q))) + ((C a i1) * (C b q)))), (0, .ref (F 0)), (1, .int (nI a)), (2, .int (nI b)), (3, .int (nI k)), (6, .int (nI i1)), (7, .int (nI q))]) hx hb dX3_multiplies_136 hl (by decide) rfl (fun ls hl => ?_)
                          refine lv_iinc (v := (nI (q + 1))) (lv' := [(7, .int (nI (q + 1))), (4, .long ((u + ((C a i1) * (C b q))) + ((C a i1) * (C b q)))), (0, .ref (F 0)), (1, .int (nI a)), (2, .int (nI b)), (3, .int (nI k)), (6, .int (nI i1))]) hx hb dX3_multiplies_138 hl (k := 6) rfl (zinc (by omega)) (by decide) rfl (fun ls hl => ?_)
                          refine lv_goto (tgt := 52) hx hb dX3_multiplies_141 (by decide) ?_
                          exact ih52 (q + 1) ((u + ((C a i1) * (C b q))) + ((C a i1) * (C b q))) (by omega) (by rw [hu]; simp only [zpin]; (first | rw [if_pos (show i1 + q = k by assumption)] | rw [if_neg (show ¬ i1 + q = k by assumption)]); (first | rw [if_pos h2] | rw [if_neg h2])) (by omega) H _ hP hS ls (lv_sub hl [2, 3, 4, 5, 1, 6, 0] rfl)
              exact L52 _ 0 u (by omega) hu (Nat.lt_succ_self _) H _ hP hS ls (lv_sub hl [1, 2, 3, 4, 5, 6, 0] rfl)
        exact L38 _ 0 0 (by omega) rfl (Nat.lt_succ_self _) H _ hP hS ls (lv_sub hl [2, 3, 4, 5, 1, 0] rfl)
  exact L21 _ 0 _ (by omega) (fun j _ => by rw [if_neg (by omega)]) (Nat.lt_succ_self _) H _ hP hS ls (lv_sub hl [1, 2, 3, 0] rfl)

set_option maxHeartbeats 4000000 in
set_option maxRecDepth 100000 in
theorem kX3_derives (l : Launch) (D : va_G) (cL cI cR : ClassId) (A : Nat → Prop) (F : Nat → Nat) (hF : zq_F A F 7) (C : Nat → Nat → Int64) (dg : Nat → Nat) (Y : zZM) (a : Nat) (ha : a < 12) (hai : ¬ a = 8) (hna : dg a ≤ 24) : zCt l yX3_derives wsX3_derives 2 47 D cL cI cR A F 7 (zME cL cI F C dg Y) [.ref (F 0), .int (nI a)] (fun v2 E2 => v2 = none ∧ E2 = (zME cL cI F (va_up C 8 (zder (C a) (dg a))) (va_up dg 8 (dg a)) Y)) := by
  refine zStart (cc := cX3_derives) (maxL := 4) (ret := none) (by decide +kernel) rfl (Nat.le_of_ble_eq_true rfl) ?_
  intro p e s m below meth c hx hb hr hml hlk hown hts hAm H hP hS ls hl
  have hown : s.vm.findClass RX3 = some m.cls := hown
  have hl : lv_has ls 4 [(0, .ref (F 0)), (1, .int (nI a))] := hl
  have hinX3 : ∀ w ∈ u_ws RX3 TX3 8, w ∈ wsX3_derives := by decide +kernel
  refine lv_aload_n hx hb dX3_derives_0 rfl (lv_at hl 0 rfl) ?_
  refine zget (q := 0) (k := 1) (v := .ref (F 2)) hx hb hts hinX3 hown hAm hP (by omega) (zM_o) rfl (by decide) (hts (.fieldLink RX3 13 "CosineSeriesModel" "degrees" "[I") (by decide +kernel)) (by first | rfl | simp [va_up, *]) dX3_derives_1 ?_
  refine lv_iload_n hx hb dX3_derives_4 rfl (lv_at hl 1 rfl) ?_
  refine ziald (q := 2) (k := a) (v := (nI (dg a))) hx hb hAm hP (by omega) (zM_d) (by omega) (by decide) (by first | rfl | simp [va_up, *]) dX3_derives_5 ?_
  refine lv_istore_n (lv' := [(2, .int (nI (dg a))), (0, .ref (F 0)), (1, .int (nI a))]) hx hb dX3_derives_6 rfl hl (by decide) rfl (fun ls hl => ?_)
  refine lv_aload_n hx hb dX3_derives_7 rfl (lv_at hl 1 rfl) ?_
  refine lv_bipush (v := nI 8) hx hb dX3_derives_8 (by decide +kernel) ?_
  refine lv_iload_n hx hb dX3_derives_10 rfl (lv_at hl 0 rfl) ?_
  refine zcallV (As := [.int (nI 8), .int (nI (dg a))]) (rest := []) (q := 0) (k := 2) hx hb hml hown hts (kX3_clears l D cL cI cR A F hF C dg Y 8 (by omega) (dg a) (by omega)) gX3_derives_X3_clears rfl (by decide +kernel) ⟨Nat.le_of_ble_eq_true rfl, Nat.le_of_ble_eq_true rfl⟩ rfl (by omega) (zM_o) rfl rfl hAm hP hS rfl hl.1 rfl (Nat.le_of_ble_eq_true rfl) dX3_derives_11 ⟨Nat.zero_le _, Nat.zero_le _⟩ (zkn (fun H locs hP hS => ?_))
  refine W.eq (g2 := F0 m 14 ls []) rfl ?_
  refine lv_iload_n hx hb dX3_derives_14 rfl (lv_at hl 0 rfl) ?_
  refine lv_istore_n (lv' := [(3, .int (nI (dg a))), (2, .int (nI (dg a))), (0, .ref (F 0)), (1, .int (nI a))]) hx hb dX3_derives_15 rfl hl (by decide) rfl (fun ls hl => ?_)
  have L16 : ∀ (n : Nat) (k : Nat) (f : Nat → Int64) (hk : k ≤ 24) (hf : zderF (C a) k f = zderF (C a) (dg a) (fun _ => 0)) (hn : k < n) (H : Heap) (locs : List Loc), va_P D vwCl (zq_wd F 7 (zME cL cI F (va_up C 8 f) (va_up dg 8 (dg a)) Y)) H → va_S A s.heap H locs → ∀ (ls : Array Slot), lv_has ls 4 [(0, .ref (F 0)), (1, .int (nI a)), (3, .int (nI k))] → W p l e ({ frames := 2, cells := 0, slots := 0, locals := 47 }) s m ([.ref (F 0), .int (nI a)] : List Value).toArray below meth c H locs 0 0 (zQ below D A F 7 [.ref (F 0), .int (nI a)] s (fun v2 E2 => v2 = none ∧ E2 = (zME cL cI F (va_up C 8 (zder (C a) (dg a))) (va_up dg 8 (dg a)) Y))) (F0 m 16 ls []) := by
    intro n
    induction n with
    | zero =>
      intro k f hk hf hn
      exact absurd hn (Nat.not_lt_zero _)
    | succ n ih16 =>
      intro k f hk hf hn H locs hP hS ls hl
      refine lv_iload_n hx hb dX3_derives_16 rfl (lv_at hl 2 rfl) ?_
      refine zf_le (tgt := 58) hx hb dX3_derives_17 (by decide) (by omega) (fun c1 => ?_) (fun c1 => ?_)
      ·
        have hk0 : k = 0 := c1
        rw [hk0] at hf
        refine lv_aload_n hx hb dX3_derives_58 rfl (lv_at hl 0 rfl) ?_
        refine lv_bipush (v := nI 8) hx hb dX3_derives_59 (by decide +kernel) ?_
        refine lv_iconst (v := nI 0) hx hb dX3_derives_61 (by decide +kernel) ?_
        refine lv_aload_n hx hb dX3_derives_62 rfl (lv_at hl 0 rfl) ?_
        refine lv_bipush (v := nI 8) hx hb dX3_derives_63 (by decide +kernel) ?_
        refine lv_iconst (v := nI 0) hx hb dX3_derives_65 (by decide +kernel) ?_
        refine zcallV (As := [.int (nI 8), .int (nI 0)]) (rest := [.int (nI 0), .int (nI 8), .ref (F 0)]) (q := 0) (k := 2) hx hb hml hown hts (kX3_of l D cL cI cR A F hF (va_up C 8 f) (va_up dg 8 (dg a)) Y 8 (by omega) 0 (by omega) (f 0) (by first | rfl | simp [va_up, *])) gX3_derives_X3_of rfl (by decide +kernel) ⟨Nat.le_of_ble_eq_true rfl, Nat.le_of_ble_eq_true rfl⟩ rfl (by omega) (zM_o) rfl rfl hAm hP hS rfl hl.1 rfl (Nat.le_of_ble_eq_true rfl) dX3_derives_66 ⟨Nat.zero_le _, Nat.zero_le _⟩ (zkn (fun H locs hP hS => ?_))
        refine W.eq (g2 := F0 m 69 ls [.long (f 0), .int (nI 0), .int (nI 8), .ref (F 0)]) rfl ?_
        refine lv_ldc2 hx hb hown (hts (.constantLong RX3 47 (2)) (by decide +kernel)) dX3_derives_69 ?_
        refine zcallS (As := [.long (f 0), .long (2 : Int64)]) (rest := [.int (nI 0), .int (nI 8), .ref (F 0)]) (k := 2) hx hb hml hown hts (kX3_rounded l D cL cI cR A F 7 (zME cL cI F (va_up C 8 f) (va_up dg 8 (dg a)) Y) (f 0) (2 : Int64) (by decide)) gX3_derives_X3_rounded rfl (by decide +kernel) ⟨Nat.le_of_ble_eq_true rfl, Nat.le_of_ble_eq_true rfl⟩ hAm hP hS rfl hl.1 rfl (Nat.le_of_ble_eq_true rfl) dX3_derives_72 ⟨Nat.zero_le _, Nat.zero_le _⟩ (zkn (fun H locs hP hS => ?_))
        refine W.eq (g2 := F0 m 75 ls [.long (zR (f 0) (2 : Int64)), .int (nI 0), .int (nI 8), .ref (F 0)]) rfl ?_
        refine zcallV (As := [.int (nI 8), .int (nI 0), .long (zR (f 0) (2 : Int64))]) (rest := []) (q := 0) (k := 3) hx hb hml hown hts (kX3_sets l D cL cI cR A F hF (va_up C 8 f) (va_up dg 8 (dg a)) Y 8 (by omega) 0 (by omega) (zR (f 0) (2 : Int64)) (va_up C 8 (vp_updL f 0 (zR (f 0) (2 : Int64)))) (by first | rfl | simp only [bx_uu, va_up_eq])) gX3_derives_X3_sets rfl (by decide +kernel) ⟨Nat.le_of_ble_eq_true rfl, Nat.le_of_ble_eq_true rfl⟩ rfl (by omega) (zM_o) rfl rfl hAm hP hS rfl hl.1 rfl (Nat.le_of_ble_eq_true rfl) dX3_derives_75 ⟨Nat.zero_le _, Nat.zero_le _⟩ (zkn (fun H locs hP hS => ?_))
        refine W.eq (g2 := F0 m 78 ls []) rfl ?_
        exact zretV hx hb hr hlk hS hP dX3_derives_78 ⟨rfl, by unfold zder; rw [← hf]; rfl⟩
      ·
        obtain ⟨k, rfl⟩ : ∃ j, k = j + 1 := ⟨k - 1, by omega⟩
        have hl : lv_has ls 4 [(0, .ref (F 0)), (1, .int (nI a)), (3, .int (nI (k + 1)))] := by exact hl
        refine lv_aload_n hx hb dX3_derives_20 rfl (lv_at hl 0 rfl) ?_
        refine lv_bipush (v := nI 8) hx hb dX3_derives_21 (by decide +kernel) ?_
        refine lv_iload_n hx hb dX3_derives_23 rfl (lv_at hl 2 rfl) ?_
        refine lv_iconst (v := nI 1) hx hb dX3_derives_24 (by decide +kernel) ?_
        refine zisub (d := k) hx hb (by omega) dX3_derives_25 ?_
        refine lv_aload_n hx hb dX3_derives_26 rfl (lv_at hl 0 rfl) ?_
        refine lv_bipush (v := nI 8) hx hb dX3_derives_27 (by decide +kernel) ?_
        refine lv_iload_n hx hb dX3_derives_29 rfl (lv_at hl 2 rfl) ?_
        refine lv_iconst (v := nI 1) hx hb dX3_derives_30 (by decide +kernel) ?_
        refine ziadd (d := (k + 2)) hx hb (by omega) dX3_derives_31 ?_
        refine zcallV (As := [.int (nI 8), .int (nI (k + 2))]) (rest := [.int (nI k), .int (nI 8), .ref (F 0)]) (q := 0) (k := 2) hx hb hml hown hts (kX3_of l D cL cI cR A F hF (va_up C 8 f) (va_up dg 8 (dg a)) Y 8 (by omega) (k + 2) (by omega) (f (k + 2)) (by first | rfl | simp [va_up, *])) gX3_derives_X3_of rfl (by decide +kernel) ⟨Nat.le_of_ble_eq_true rfl, Nat.le_of_ble_eq_true rfl⟩ rfl (by omega) (zM_o) rfl rfl hAm hP hS rfl hl.1 rfl (Nat.le_of_ble_eq_true rfl) dX3_derives_32 ⟨Nat.zero_le _, Nat.zero_le _⟩ (zkn (fun H locs hP hS => ?_))
        refine W.eq (g2 := F0 m 35 ls [.long (f (k + 2)), .int (nI k), .int (nI 8), .ref (F 0)]) rfl ?_
        refine lv_ldc2 hx hb hown (hts (.constantLong RX3 47 (2)) (by decide +kernel)) dX3_derives_35 ?_
        refine lv_iload_n hx hb dX3_derives_38 rfl (lv_at hl 2 rfl) ?_
        refine zi2l hx hb (by omega) dX3_derives_39 ?_
        refine lv_lmul hx hb dX3_derives_40 ?_
        refine lv_aload_n hx hb dX3_derives_41 rfl (lv_at hl 0 rfl) ?_
        refine lv_iload_n hx hb dX3_derives_42 rfl (lv_at hl 1 rfl) ?_
        refine lv_iload_n hx hb dX3_derives_43 rfl (lv_at hl 2 rfl) ?_
        refine zcallV (As := [.int (nI a), .int (nI (k + 1))]) (rest := [.long ((2 : Int64) * (lN (k + 1))), .long (f (k + 2)), .int (nI k), .int (nI 8), .ref (F 0)]) (q := 0) (k := 2) hx hb hml hown hts (kX3_of l D cL cI cR A F hF (va_up C 8 f) (va_up dg 8 (dg a)) Y a (by omega) (k + 1) (by omega) (C a (k + 1)) (zup8a hai _)) gX3_derives_X3_of rfl (by decide +kernel) ⟨Nat.le_of_ble_eq_true rfl, Nat.le_of_ble_eq_true rfl⟩ rfl (by omega) (zM_o) rfl rfl hAm hP hS rfl hl.1 rfl (Nat.le_of_ble_eq_true rfl) dX3_derives_44 ⟨Nat.zero_le _, Nat.zero_le _⟩ (zkn (fun H locs hP hS => ?_))
        refine W.eq (g2 := F0 m 47 ls [.long (C a (k + 1)), .long ((2 : Int64) * (lN (k + 1))), .long (f (k + 2)), .int (nI k), .int (nI 8), .ref (F 0)]) rfl ?_
        refine lv_lmul hx hb dX3_derives_47 ?_
        refine lv_ladd hx hb dX3_derives_48 ?_
        refine zcallV (As := [.int (nI 8), .int (nI k), .long ((f (k + 2)) + (((2 : Int64) * (lN (k + 1))) * (C a (k + 1))))]) (rest := []) (q := 0) (k := 3) hx hb hml hown hts (kX3_sets l D cL cI cR A F hF (va_up C 8 f) (va_up dg 8 (dg a)) Y 8 (by omega) k (by omega) ((f (k + 2)) + (((2 : Int64) * (lN (k + 1))) * (C a (k + 1)))) (va_up C 8 (vp_updL f k ((f (k + 2)) + (((2 : Int64) * (lN (k + 1))) * (C a (k + 1)))))) (by first | rfl | simp only [bx_uu, va_up_eq])) gX3_derives_X3_sets rfl (by decide +kernel) ⟨Nat.le_of_ble_eq_true rfl, Nat.le_of_ble_eq_true rfl⟩ rfl (by omega) (zM_o) rfl rfl hAm hP hS rfl hl.1 rfl (Nat.le_of_ble_eq_true rfl) dX3_derives_49 ⟨Nat.zero_le _, Nat.zero_le _⟩ (zkn (fun H locs hP hS => ?_))
        refine W.eq (g2 := F0 m 52 ls []) rfl ?_
        refine lv_iinc (v := (nI k)) (lv' := [(3, .int (nI k)), (0, .ref (F 0)), (1, .int (nI a))]) hx hb dX3_derives_52 hl (k := 2) rfl (zinc (by omega)) (by decide) rfl (fun ls hl => ?_)
        refine lv_goto (tgt := 16) hx hb dX3_derives_55 (by decide) ?_
        exact ih16 k _ (by omega) (by rw [← hf]; rfl) (by omega) H _ hP hS ls (lv_sub hl [1, 2, 0] rfl)
  exact L16 _ (dg a) _ (by omega) rfl (Nat.lt_succ_self _) H _ hP hS ls (lv_sub hl [2, 3, 0] rfl)

set_option maxHeartbeats 4000000 in
set_option maxRecDepth 100000 in
theorem kX3_cutBy (l : Launch) (D : va_G) (cL cI cR : ClassId) (A : Nat → Prop) (F : Nat → Nat) (hF : zq_F A F 7) (C : Nat → Nat → Int64) (dg : Nat → Nat) (Y : zZM) (s0 : Nat) (hs : s0 < 12) (tol : Int64) (hi48 : dg s0 ≤ 48) : zCt l yX3_cutBy wsX3_cutBy 1 22 D cL cI cR A F 7 (zME cL cI F C dg Y) [.ref (F 0), .int (nI s0), .long tol] (fun v2 E2 => v2 = (some (.int (nI (ztw (C s0) tol (dg s0) 0)))) ∧ E2 = (zME cL cI F C dg Y)) := by
  refine zStart (cc := cX3_cutBy) (maxL := 7) (ret := (some .int)) (by decide +kernel) rfl (Nat.le_of_ble_eq_true rfl) ?_
  intro p e s m below meth c hx hb hr hml hlk hown hts hAm H hP hS ls hl
  have hown : s.vm.findClass RX3 = some m.cls := hown
  have hl : lv_has ls 7 [(0, .ref (F 0)), (1, .int (nI s0)), (2, .long tol)] := hl
  have hinX3 : ∀ w ∈ u_ws RX3 TX3 8, w ∈ wsX3_cutBy := by decide +kernel
  refine lv_aload_n hx hb dX3_cutBy_0 rfl (lv_at hl 0 rfl) ?_
  refine zget (q := 0) (k := 1) (v := .ref (F 2)) hx hb hts hinX3 hown hAm hP (by omega) (zM_o) rfl (by decide) (hts (.fieldLink RX3 13 "CosineSeriesModel" "degrees" "[I") (by decide +kernel)) (by first | rfl | simp [va_up, *]) dX3_cutBy_1 ?_
  refine lv_iload_n hx hb dX3_cutBy_4 rfl (lv_at hl 1 rfl) ?_
  refine ziald (q := 2) (k := s0) (v := (nI (dg s0))) hx hb hAm hP (by omega) (zM_d) (by omega) (by decide) (by first | rfl | simp [va_up, *]) dX3_cutBy_5 ?_
  refine lv_istore (lv' := [(4, .int (nI (dg s0))), (0, .ref (F 0)), (1, .int (nI s0)), (2, .long tol)]) hx hb dX3_cutBy_6 hl (by decide) rfl (fun ls hl => ?_)
  refine lv_lconst (v := (0 : Int64)) hx hb dX3_cutBy_8 (by decide +kernel) ?_
  refine lv_lstore (lv' := [(5, .long (0 : Int64)), (4, .int (nI (dg s0))), (0, .ref (F 0)), (1, .int (nI s0)), (2, .long tol)]) hx hb dX3_cutBy_9 hl (by decide) rfl (fun ls hl => ?_)
  have L11 : ∀ (n : Nat) (k : Nat) (u : Int64) (hk : k ≤ 48) (hv : ztw (C s0) tol k u = ztw (C s0) tol (dg s0) 0) (hn : k < n) (H : Heap) (locs : List Loc), va_P D vwCl (zq_wd F 7 (zME cL cI F C dg Y)) H → va_S A s.heap H locs → ∀ (ls : Array Slot), lv_has ls 7 [(0, .ref (F 0)), (1, .int (nI s0)), (2, .long tol), (4, .int (nI k)), (5, .long u)] → W p l e ({ frames := 1, cells := 0, slots := 0, locals := 22 }) s m ([.ref (F 0), .int (nI s0), .long tol] : List Value).toArray below meth c H locs 0 0 (zQ below D A F 7 [.ref (F 0), .int (nI s0), .long tol] s (fun v2 E2 => v2 = (some (.int (nI (ztw (C s0) tol (dg s0) 0)))) ∧ E2 = (zME cL cI F C dg Y))) (F0 m 11 ls []) := by
    intro n
    induction n with
    | zero =>
      intro k u hk hv hn
      exact absurd hn (Nat.not_lt_zero _)
    | succ n ih11 =>
      intro k u hk hv hn H locs hP hS ls hl
      refine lv_iload hx hb dX3_cutBy_11 (lv_at hl 3 rfl) ?_
      refine zf_le (tgt := 55) hx hb dX3_cutBy_13 (by decide) (by omega) (fun c1 => ?_) (fun c1 => ?_)
      ·
        have hk0 : k = 0 := c1
        refine lv_iload hx hb dX3_cutBy_55 (lv_at hl 3 rfl) ?_
        exact zretI hx hb hr hlk hS hP dX3_cutBy_57 ⟨by rw [← hv, hk0]; rfl, rfl⟩
      ·
        obtain ⟨k, rfl⟩ : ∃ j, k = j + 1 := ⟨k - 1, by omega⟩
        have hl : lv_has ls 7 [(0, .ref (F 0)), (1, .int (nI s0)), (2, .long tol), (4, .int (nI (k + 1))), (5, .long u)] := by exact hl
        refine lv_lload hx hb dX3_cutBy_16 (lv_at hl 4 rfl) ?_
        refine lv_aload_n hx hb dX3_cutBy_18 rfl (lv_at hl 0 rfl) ?_
        refine lv_iload_n hx hb dX3_cutBy_19 rfl (lv_at hl 1 rfl) ?_
        refine lv_iload hx hb dX3_cutBy_20 (lv_at hl 3 rfl) ?_
        refine zcallV (As := [.int (nI s0), .int (nI (k + 1))]) (rest := [.long u]) (q := 0) (k := 2) hx hb hml hown hts (kX3_of l D cL cI cR A F hF C dg Y s0 (by omega) (k + 1) (by omega) ((C s0) (k + 1)) (by first | rfl | simp [va_up, *])) gX3_cutBy_X3_of rfl (by decide +kernel) ⟨Nat.le_of_ble_eq_true rfl, Nat.le_of_ble_eq_true rfl⟩ rfl (by omega) (zM_o) rfl rfl hAm hP hS rfl hl.1 rfl (Nat.le_of_ble_eq_true rfl) dX3_cutBy_22 ⟨Nat.zero_le _, Nat.zero_le _⟩ (zkn (fun H locs hP hS => ?_))
        refine W.eq (g2 := F0 m 25 ls [.long ((C s0) (k + 1)), .long u]) rfl ?_
        refine zcallS (As := [.long ((C s0) (k + 1))]) (rest := [.long u]) (k := 1) hx hb hml hown hts (kX3_size l D cL cI cR A F 7 (zME cL cI F C dg Y) ((C s0) (k + 1))) gX3_cutBy_X3_size rfl (by decide +kernel) ⟨Nat.le_of_ble_eq_true rfl, Nat.le_of_ble_eq_true rfl⟩ hAm hP hS rfl hl.1 rfl (Nat.le_of_ble_eq_true rfl) dX3_cutBy_25 ⟨Nat.zero_le _, Nat.zero_le _⟩ (zkn (fun H locs hP hS => ?_))
        refine W.eq (g2 := F0 m 28 ls [.long (zabs ((C s0) (k + 1))), .long u]) rfl ?_
        refine lv_ladd hx hb dX3_cutBy_28 ?_
        refine lv_lload_n hx hb dX3_cutBy_29 rfl (lv_at hl 2 rfl) ?_
        refine zl_gt (tgt := 55) hx hb dX3_cutBy_30 dX3_cutBy_31 (by decide) (fun c2 => ?_) (fun c2 => ?_)
        ·
          refine lv_iload hx hb dX3_cutBy_55 (lv_at hl 3 rfl) ?_
          exact zretI hx hb hr hlk hS hP dX3_cutBy_57 ⟨by rw [← hv]; simp only [ztw]; rw [if_neg (Int64.not_le.mpr c2)], rfl⟩
        ·
          have c2 := Int64.not_lt.mp c2
          refine lv_lload hx hb dX3_cutBy_34 (lv_at hl 4 rfl) ?_
          refine lv_aload_n hx hb dX3_cutBy_36 rfl (lv_at hl 0 rfl) ?_
          refine lv_iload_n hx hb dX3_cutBy_37 rfl (lv_at hl 1 rfl) ?_
          refine lv_iload hx hb dX3_cutBy_38 (lv_at hl 3 rfl) ?_
          refine zcallV (As := [.int (nI s0), .int (nI (k + 1))]) (rest := [.long u]) (q := 0) (k := 2) hx hb hml hown hts (kX3_of l D cL cI cR A F hF C dg Y s0 (by omega) (k + 1) (by omega) ((C s0) (k + 1)) (by first | rfl | simp [va_up, *])) gX3_cutBy_X3_of rfl (by decide +kernel) ⟨Nat.le_of_ble_eq_true rfl, Nat.le_of_ble_eq_true rfl⟩ rfl (by omega) (zM_o) rfl rfl hAm hP hS rfl hl.1 rfl (Nat.le_of_ble_eq_true rfl) dX3_cutBy_40 ⟨Nat.zero_le _, Nat.zero_le _⟩ (zkn (fun H locs hP hS => ?_))
          refine W.eq (g2 := F0 m 43 ls [.long ((C s0) (k + 1)), .long u]) rfl ?_
          refine zcallS (As := [.long ((C s0) (k + 1))]) (rest := [.long u]) (k := 1) hx hb hml hown hts (kX3_size l D cL cI cR A F 7 (zME cL cI F C dg Y) ((C s0) (k + 1))) gX3_cutBy_X3_size rfl (by decide +kernel) ⟨Nat.le_of_ble_eq_true rfl, Nat.le_of_ble_eq_true rfl⟩ hAm hP hS rfl hl.1 rfl (Nat.le_of_ble_eq_true rfl) dX3_cutBy_43 ⟨Nat.zero_le _, Nat.zero_le _⟩ (zkn (fun H locs hP hS => ?_))
          refine W.eq (g2 := F0 m 46 ls [.long (zabs ((C s0) (k + 1))), .long u]) rfl ?_
          refine lv_ladd hx hb dX3_cutBy_46 ?_
          refine lv_lstore (lv' := [(5, .long (u + (zabs ((C s0) (k + 1))))), (0, .ref (F 0)), (1, .int (nI s0)), (2, .long tol), (4, .int (nI (k + 1)))]) hx hb dX3_cutBy_47 hl (by decide) rfl (fun ls hl => ?_)
          refine lv_iinc (v := (nI k)) (lv' := [(4, .int (nI k)), (5, .long (u + (zabs ((C s0) (k + 1))))), (0, .ref (F 0)), (1, .int (nI s0)), (2, .long tol)]) hx hb dX3_cutBy_49 hl (k := 4) rfl (zinc (by omega)) (by decide) rfl (fun ls hl => ?_)
          refine lv_goto (tgt := 11) hx hb dX3_cutBy_52 (by decide) ?_
          exact ih11 k (u + zabs (C s0 (k + 1))) (by omega) (by rw [← hv]; simp only [ztw]; rw [if_pos c2]) (by omega) H _ hP hS ls (lv_sub hl [2, 3, 4, 0, 1] rfl)
  exact L11 _ (dg s0) 0 (by omega) rfl (Nat.lt_succ_self _) H _ hP hS ls (lv_sub hl [2, 3, 4, 1, 0] rfl)

set_option maxHeartbeats 4000000 in
set_option maxRecDepth 100000 in
theorem kX3_cosine (l : Launch) (D : va_G) (cL cI cR : ClassId) (A : Nat → Prop) (F : Nat → Nat) (hF : zq_F A F 7) (C : Nat → Nat → Int64) (dg : Nat → Nat) (Y : zZM) (m0 : Nat) (hm0 : m0 < 100000) : zCt l yX3_cosine wsX3_cosine 0 0 D cL cI cR A F 7 (zME cL cI F C dg Y) [.ref (F 0), .int (nI m0)] (fun v2 E2 => v2 = (some (.long (zcosv m0).toInt64)) ∧ E2 = (zME cL cI F C dg Y)) := by
  refine zStart (cc := cX3_cosine) (maxL := 3) (ret := (some .long)) (by decide +kernel) rfl (Nat.le_of_ble_eq_true rfl) ?_
  intro p e s m below meth c hx hb hr hml hlk hown hts hAm H hP hS ls hl
  have hown : s.vm.findClass RX3 = some m.cls := hown
  have hl : lv_has ls 3 [(0, .ref (F 0)), (1, .int (nI m0))] := hl
  have hinX3 : ∀ w ∈ u_ws RX3 TX3 8, w ∈ wsX3_cosine := by decide +kernel
  refine lv_iload_n hx hb dX3_cosine_0 rfl (lv_at hl 1 rfl) ?_
  refine lv_bipush (v := nI 32) hx hb dX3_cosine_1 (by decide +kernel) ?_
  refine lv_irem hx hb dX3_cosine_3 (znI_ne (by omega) (by omega)) ?_
  refine W.eq (g2 := F0 m 4 ls [.int (nI (m0 % 32))]) (by rw [pk_rem (by omega) (by omega) (by omega)]) ?_
  refine lv_istore_n (lv' := [(2, .int (nI (m0 % 32))), (0, .ref (F 0)), (1, .int (nI m0))]) hx hb dX3_cosine_4 rfl hl (by decide) rfl (fun ls hl => ?_)
  refine lv_iload_n hx hb dX3_cosine_5 rfl (lv_at hl 0 rfl) ?_
  refine lv_bipush (v := nI 16) hx hb dX3_cosine_6 (by decide +kernel) ?_
  refine zi_le (tgt := 18) hx hb dX3_cosine_8 (by decide) (by omega) (by omega) (fun c1 => ?_) (fun c1 => ?_)
  ·
    have hh : zhalf m0 = m0 % 32 := by unfold zhalf; rw [if_neg (by omega)]
    refine lv_iload_n hx hb dX3_cosine_18 rfl (lv_at hl 0 rfl) ?_
    refine lv_istore_n (lv' := [(2, .int (nI (m0 % 32))), (0, .ref (F 0)), (1, .int (nI m0))]) hx hb dX3_cosine_19 rfl hl (by decide) rfl (fun ls hl => ?_)
    refine lv_iload_n hx hb dX3_cosine_20 rfl (lv_at hl 0 rfl) ?_
    refine lv_bipush (v := nI 8) hx hb dX3_cosine_21 (by decide +kernel) ?_
    refine zi_gt (tgt := 36) hx hb dX3_cosine_23 (by decide) (by omega) (by omega) (fun c2 => ?_) (fun c2 => ?_)
    ·
      refine lv_aload_n hx hb dX3_cosine_36 rfl (lv_at hl 1 rfl) ?_
      refine zget (q := 0) (k := 3) (v := .ref (F 4)) hx hb hts hinX3 hown hAm hP (by omega) (zM_o) rfl (by decide) (hts (.fieldLink RX3 28 "CosineSeriesModel" "cosines" "[I") (by decide +kernel)) (by first | rfl | simp [va_up, *]) dX3_cosine_37 ?_
      refine lv_bipush (v := nI 16) hx hb dX3_cosine_40 (by decide +kernel) ?_
      refine lv_iload_n hx hb dX3_cosine_42 rfl (lv_at hl 0 rfl) ?_
      refine zisub (d := (16 - (m0 % 32))) hx hb (by omega) dX3_cosine_43 ?_
      refine ziald (q := 4) (k := (16 - (m0 % 32))) (v := (zcos (16 - (m0 % 32)))) hx hb hAm hP (by omega) (zM_k) (by omega) (by decide) (by first | rfl | simp [va_up, *]) dX3_cosine_44 ?_
      refine lv_ineg hx hb dX3_cosine_45 ?_
      refine lv_i2l (v := (-(zcos (16 - (m0 % 32)))).toInt64) hx hb dX3_cosine_46 rfl ?_
      exact zretL hx hb hr hlk hS hP dX3_cosine_47 ⟨by unfold zcosv; rw [hh]; first | rw [if_pos (by omega)] | rw [if_neg (by omega)], rfl⟩
    ·
      refine lv_aload_n hx hb dX3_cosine_26 rfl (lv_at hl 1 rfl) ?_
      refine zget (q := 0) (k := 3) (v := .ref (F 4)) hx hb hts hinX3 hown hAm hP (by omega) (zM_o) rfl (by decide) (hts (.fieldLink RX3 28 "CosineSeriesModel" "cosines" "[I") (by decide +kernel)) (by first | rfl | simp [va_up, *]) dX3_cosine_27 ?_
      refine lv_iload_n hx hb dX3_cosine_30 rfl (lv_at hl 0 rfl) ?_
      refine ziald (q := 4) (k := (m0 % 32)) (v := (zcos (m0 % 32))) hx hb hAm hP (by omega) (zM_k) (by omega) (by decide) (by first | rfl | simp [va_up, *]) dX3_cosine_31 ?_
      refine lv_i2l (v := (zcos (m0 % 32)).toInt64) hx hb dX3_cosine_32 rfl ?_
      refine lv_goto (tgt := 47) hx hb dX3_cosine_33 (by decide) ?_
      exact zretL hx hb hr hlk hS hP dX3_cosine_47 ⟨by unfold zcosv; rw [hh]; first | rw [if_pos (by omega)] | rw [if_neg (by omega)], rfl⟩
  ·
    have hh : zhalf m0 = 32 - m0 % 32 := by unfold zhalf; rw [if_pos (by omega)]
    refine lv_bipush (v := nI 32) hx hb dX3_cosine_11 (by decide +kernel) ?_
    refine lv_iload_n hx hb dX3_cosine_13 rfl (lv_at hl 0 rfl) ?_
    refine zisub (d := (32 - (m0 % 32))) hx hb (by omega) dX3_cosine_14 ?_
    refine lv_goto (tgt := 19) hx hb dX3_cosine_15 (by decide) ?_
    refine lv_istore_n (lv' := [(2, .int (nI (32 - (m0 % 32)))), (0, .ref (F 0)), (1, .int (nI m0))]) hx hb dX3_cosine_19 rfl hl (by decide) rfl (fun ls hl => ?_)
    refine lv_iload_n hx hb dX3_cosine_20 rfl (lv_at hl 0 rfl) ?_
    refine lv_bipush (v := nI 8) hx hb dX3_cosine_21 (by decide +kernel) ?_
    refine zi_gt (tgt := 36) hx hb dX3_cosine_23 (by decide) (by omega) (by omega) (fun c3 => ?_) (fun c3 => ?_)
    ·
      refine lv_aload_n hx hb dX3_cosine_36 rfl (lv_at hl 1 rfl) ?_
      refine zget (q := 0) (k := 3) (v := .ref (F 4)) hx hb hts hinX3 hown hAm hP (by omega) (zM_o) rfl (by decide) (hts (.fieldLink RX3 28 "CosineSeriesModel" "cosines" "[I") (by decide +kernel)) (by first | rfl | simp [va_up, *]) dX3_cosine_37 ?_
      refine lv_bipush (v := nI 16) hx hb dX3_cosine_40 (by decide +kernel) ?_
      refine lv_iload_n hx hb dX3_cosine_42 rfl (lv_at hl 0 rfl) ?_
      refine zisub (d := (16 - (32 - (m0 % 32)))) hx hb (by omega) dX3_cosine_43 ?_
      refine ziald (q := 4) (k := (16 - (32 - (m0 % 32)))) (v := (zcos (16 - (32 - (m0 % 32))))) hx hb hAm hP (by omega) (zM_k) (by omega) (by decide) (by first | rfl | simp [va_up, *]) dX3_cosine_44 ?_
      refine lv_ineg hx hb dX3_cosine_45 ?_
      refine lv_i2l (v := (-(zcos (16 - (32 - (m0 % 32))))).toInt64) hx hb dX3_cosine_46 rfl ?_
      exact zretL hx hb hr hlk hS hP dX3_cosine_47 ⟨by unfold zcosv; rw [hh]; first | rw [if_pos (by omega)] | rw [if_neg (by omega)], rfl⟩
    ·
      refine lv_aload_n hx hb dX3_cosine_26 rfl (lv_at hl 1 rfl) ?_
      refine zget (q := 0) (k := 3) (v := .ref (F 4)) hx hb hts hinX3 hown hAm hP (by omega) (zM_o) rfl (by decide) (hts (.fieldLink RX3 28 "CosineSeriesModel" "cosines" "[I") (by decide +kernel)) (by first | rfl | simp [va_up, *]) dX3_cosine_27 ?_
      refine lv_iload_n hx hb dX3_cosine_30 rfl (lv_at hl 0 rfl) ?_
      refine ziald (q := 4) (k := (32 - (m0 % 32))) (v := (zcos (32 - (m0 % 32)))) hx hb hAm hP (by omega) (zM_k) (by omega) (by decide) (by first | rfl | simp [va_up, *]) dX3_cosine_31 ?_
      refine lv_i2l (v := (zcos (32 - (m0 % 32))).toInt64) hx hb dX3_cosine_32 rfl ?_
      refine lv_goto (tgt := 47) hx hb dX3_cosine_33 (by decide) ?_
      exact zretL hx hb hr hlk hS hP dX3_cosine_47 ⟨by unfold zcosv; rw [hh]; first | rw [if_pos (by omega)] | rw [if_neg (by omega)], rfl⟩

set_option maxHeartbeats 4000000 in
set_option maxRecDepth 100000 in
theorem kX3_pointAt (l : Launch) (D : va_G) (cL cI cR : ClassId) (A : Nat → Prop) (F : Nat → Nat) (hF : zq_F A F 7) (C : Nat → Nat → Int64) (dg : Nat → Nat) (Y : zZM) (p0 j0 : Nat) (hp : p0 ≤ 4) (hj : j0 ≤ 256) : zCt l yX3_pointAt wsX3_pointAt 1 22 D cL cI cR A F 7 (zME cL cI F C dg Y) [.ref (F 0), .int (nI p0), .int (nI j0)] (fun v2 E2 => v2 = (some (.long (zcosv (j0 * 2 ^ (4 - p0))).toInt64)) ∧ E2 = (zME cL cI F C dg Y)) := by
  refine zStart (cc := cX3_pointAt) (maxL := 3) (ret := (some .long)) (by decide +kernel) rfl (Nat.le_of_ble_eq_true rfl) ?_
  intro p e s m below meth c hx hb hr hml hlk hown hts hAm H hP hS ls hl
  have hown : s.vm.findClass RX3 = some m.cls := hown
  have hl : lv_has ls 3 [(0, .ref (F 0)), (1, .int (nI p0)), (2, .int (nI j0))] := hl
  refine lv_aload_n hx hb dX3_pointAt_0 rfl (lv_at hl 0 rfl) ?_
  refine lv_iload_n hx hb dX3_pointAt_1 rfl (lv_at hl 2 rfl) ?_
  refine lv_bipush (v := nI 16) hx hb dX3_pointAt_2 (by decide +kernel) ?_
  refine lv_iload_n hx hb dX3_pointAt_4 rfl (lv_at hl 1 rfl) ?_
  refine lv_ishr hx hb dX3_pointAt_5 ?_
  refine W.eq (g2 := F0 m 6 ls [.int (nI (2 ^ (4 - p0))), .int (nI j0), .ref (F 0)]) (by rw [zshr hp]) ?_
  refine zimul (d := (j0 * (2 ^ (4 - p0)))) hx hb rfl dX3_pointAt_6 ?_
  refine zcallV (As := [.int (nI (j0 * (2 ^ (4 - p0))))]) (rest := []) (q := 0) (k := 1) hx hb hml hown hts (kX3_cosine l D cL cI cR A F hF C dg Y (j0 * 2 ^ (4 - p0)) (by have := zj4 hj hp; omega)) gX3_pointAt_X3_cosine rfl (by decide +kernel) ⟨Nat.le_of_ble_eq_true rfl, Nat.le_of_ble_eq_true rfl⟩ rfl (by omega) (zM_o) rfl rfl hAm hP hS rfl hl.1 rfl (Nat.le_of_ble_eq_true rfl) dX3_pointAt_7 ⟨Nat.zero_le _, Nat.zero_le _⟩ (zkn (fun H locs hP hS => ?_))
  refine W.eq (g2 := F0 m 10 ls [.long ((zcosv (j0 * 2 ^ (4 - p0))).toInt64)]) rfl ?_
  exact zretL hx hb hr hlk hS hP dX3_pointAt_10 ⟨rfl, rfl⟩
