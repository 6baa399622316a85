/-! Series: the methods that make one anew -/
def zsum (fa fb : Int64) (f g : Nat → Int64) : Nat → Int64 := fun j => fa * f j + fb * g j
/-- the part of a product's coefficient k that the first m coefficients of b give with the coefficient i of a, on s -/
def zpin (a b : Nat → Int64) (k i : Nat) : Nat → Int64 → Int64
  | 0, s => s
  | m + 1, s => (zpin a b k i m s + (if i + m = k then a i * b m else 0)) + (if i - m + (m - i) = k then a i * b m else 0)
/-- the first r coefficients of a with all of b -/
def zpout (a b : Nat → Int64) (nb k : Nat) : Nat → Int64
  | 0 => 0
  | r + 1 => zpin a b k r (nb + 1) (zpout a b nb k r)
def zprod (a : Nat → Int64) (na : Nat) (b : Nat → Int64) (nb : Nat) : Nat → Int64 := fun k => zR (zpout a b nb k (na + 1)) 2097152
def zderF (c : Nat → Int64) : Nat → (Nat → Int64) → Nat → Int64
  | 0, f => f
  | k + 1, f => zderF c k (vp_updL f k (f (k + 2) + 2 * lN (k + 1) * c (k + 1)))
def zder (c : Nat → Int64) (n : Nat) : Nat → Int64 := vp_updL (zderF c n (fun _ => 0)) 0 (zR (zderF c n (fun _ => 0) 0) 2)
/-- a coefficient of an antiderivative -/
def ztm (c : Nat → Int64) (k : Nat) : Int64 := zR ((if k = 1 then 2 * c 0 else c (k - 1)) - c (k + 1)) (2 * lN k)
/-- the first m of them with their signs -/
def zsgn (c : Nat → Int64) : Nat → Int64
  | 0 => 0
  | m + 1 => zsgn c m + (if (m + 1) % 2 = 0 then ztm c (m + 1) else -ztm c (m + 1))
def zant (c : Nat → Int64) (n : Nat) : Nat → Int64 := fun j => if j = 0 then -zsgn c (n + 1) else if j ≤ n + 1 then ztm c j else 0
def zquoF (c : Nat → Int64) (r : Int64) : Nat → (Nat → Int64) → Nat → Int64
  | 0, f => f
  | 1, f => f
  | k + 2, f => zquoF c r (k + 1) (vp_updL f (k + 1) (2 * c (k + 2) + zR (2 * r * f (k + 2)) 1048576 - f (k + 3)))
def zquo (c : Nat → Int64) (n : Nat) (r : Int64) : Nat → Int64 := vp_updL (zquoF c r n (fun _ => 0)) 0 (c 1 + zR (r * zquoF c r n (fun _ => 0) 1) 1048576 - zR (zquoF c r n (fun _ => 0) 2) 2)
theorem zabsd {i j : Nat} (hi : i < 1073741824) (hj : j < 1073741824) : (if 0 ≤ nI i - nI j then nI i - nI j else 0 - (nI i - nI j)) = nI (i - j + (j - i)) := by
  have e := pk_sub_toInt hi hj
  by_cases h : j ≤ i
  · rw [if_pos (by rw [Int32.le_iff_toInt_le, e]; show (0 : Int) ≤ _; omega), pk_sub h, show i - j + (j - i) = i - j by omega]
  · rw [if_neg (by rw [Int32.le_iff_toInt_le, e]; show ¬ (0 : Int) ≤ _; omega), show i - j + (j - i) = j - i by omega, ← pk_sub (by omega)]
    apply Int32.toInt_inj.mp
    rw [Int32.toInt_sub, e, pk_sub_toInt hj hi, Int32.toInt_zero, show (0 : Int) - ((i : Int) - (j : Int)) = (j : Int) - (i : Int) by omega]
    apply Int.bmod_eq_of_le <;> omega
theorem zp_step (a b f : Nat → Int64) (i m k : Nat) (p : Int64) : vp_updL (vp_updL f (i + m) (f (i + m) + p)) (i - m + (m - i)) (vp_updL f (i + m) (f (i + m) + p) (i - m + (m - i)) + p) k = (f k + (if i + m = k then p else 0)) + (if i - m + (m - i) = k then p else 0) := by
  unfold vp_updL
  by_cases h1 : i + m = k
  · by_cases h2 : i - m + (m - i) = k
    · subst h1
      rw [if_pos h2.symm, h2]; simp
    · subst h1
      rw [if_neg (fun h => h2 h.symm)]; simp [h2]
  · by_cases h2 : i - m + (m - i) = k
    · subst h2
      have h3 : ¬ (i - m + (m - i) = i + m) := fun h => h1 h.symm
      simp [h1, h3]
    · have h3 : ¬ k = i - m + (m - i) := fun h => h2 h.symm
      have h4 : ¬ k = i + m := fun h => h1 h.symm
      simp [h1, h2, h3, h4]
theorem zl2k (k : Nat) : lN (2 * k) = 2 * lN k := by
  rw [show (2 : Int64) = lN 2 from rfl, lN_mul]
theorem zl2pos {k : Nat} (h0 : 1 ≤ k) (h : k < 1000) : 0 < 2 * lN k := by
  rw [← zl2k, show (0 : Int64) = lN 0 from rfl, lN_lt (by omega) (by omega)]
  omega
theorem zrem2 {k : Nat} (h : k < 1000) : nI k - nI k / nI 2 * nI 2 = nI (k % 2) := pk_rem (by omega) (by omega) (by omega)
theorem znI_ne {k : Nat} (h : 0 < k) (h2 : k < 2147483648) : ¬ nI k = 0 := nI_ne0 h h2

set_option maxHeartbeats 4000000 in
set_option maxRecDepth 100000 in
theorem kX1_becomeSum (l : Launch) (D : va_G) (cL cI cR : ClassId) (A : Nat → Prop) (F : Nat → Nat) (hF : zq_F A F 30) (T : Nat → Nat → Int64) (top : Nat → Nat) (Z : zZC) (i : Nat) (hi : i < 12) (a : Nat) (ha : a < 12) (hai : ¬ a = i) (b : Nat) (hb12 : b < 12) (hbi : ¬ b = i) (fa fb : Int32) (f g : Nat → Int64) (hf : T a = f) (hg : T b = g) (f2 : Nat → Int64) (hf2 : f2 = zsum fa.toInt64 fb.toInt64 f g) : zCt l yX1_becomeSum wsX1_becomeSum 1 21 D cL cI cR A F 30 (zCE cL cR F T top Z) [.ref (F i), .ref (F a), .int fa, .ref (F b), .int fb] (fun v2 E2 => v2 = none ∧ E2 = (zCE cL cR F (va_up T i f2) (va_up top i (ztop f2 48)) Z)) := by
  refine zStart (cc := cX1_becomeSum) (maxL := 6) (ret := none) (by decide +kernel) rfl (Nat.le_of_ble_eq_true rfl) ?_
  intro p e s m below meth c hx hb hr hml hlk hown hts hAm H hP hS ls hl
  have hown : s.vm.findClass RX1 = some m.cls := hown
  have hl : lv_has ls 6 [(0, .ref (F i)), (1, .ref (F a)), (2, .int fa), (3, .ref (F b)), (4, .int fb)] := hl
  have hinX1 : ∀ w ∈ u_ws RX1 TX1 2, w ∈ wsX1_becomeSum := by decide +kernel
  subst hf; subst hg
  refine lv_iconst (v := nI 0) hx hb dX1_becomeSum_0 (by decide +kernel) ?_
  refine lv_istore (lv' := [(5, .int (nI 0)), (0, .ref (F i)), (1, .ref (F a)), (2, .int fa), (3, .ref (F b)), (4, .int fb)]) hx hb dX1_becomeSum_1 hl (by decide) rfl (fun ls hl => ?_)
  have hP : va_P D vwCl (zq_wd F 30 (zCE cL cR F (va_up T i (T i)) top Z)) H := by rw [zup_self]; exact hP
  have L3 : ∀ (n : Nat) (k : Nat) (f : Nat → Int64) (hk : k ≤ 49) (hf : ∀ j, j < k → f j = f2 j) (hn : 49 - k < n) (H : Heap) (locs : List Loc), va_P D vwCl (zq_wd F 30 (zCE cL cR F (va_up T i f) top Z)) H → va_S A s.heap H locs → ∀ (ls : Array Slot), lv_has ls 6 [(0, .ref (F i)), (1, .ref (F a)), (2, .int fa), (3, .ref (F b)), (4, .int fb), (5, .int (nI k))] → W p l e ({ frames := 1, cells := 0, slots := 0, locals := 21 }) s m ([.ref (F i), .ref (F a), .int fa, .ref (F b), .int fb] : List Value).toArray below meth c H locs 0 0 (zQ below D A F 30 [.ref (F i), .ref (F a), .int fa, .ref (F b), .int fb] s (fun v2 E2 => v2 = none ∧ E2 = (zCE cL cR F (va_up T i f2) (va_up top i (ztop f2 48)) Z))) (F0 m 3 ls []) := by
    intro n
    induction n with
    | zero =>
      intro k f hk hf hn
      exact absurd hn (Nat.not_lt_zero _)
    | succ n ih3 =>
      intro k f hk hf hn H locs hP hS ls hl
      refine lv_iload hx hb dX1_becomeSum_3 (lv_at hl 5 rfl) ?_
      refine lv_aload_n hx hb dX1_becomeSum_5 rfl (lv_at hl 0 rfl) ?_
      refine zget (q := i) (k := 0) (v := .ref (F (i + 12))) hx hb hts hinX1 hown hAm hP (by omega) (zC_s (by omega)) rfl (by decide) (hts (.fieldLink RX1 9 "CosineSeries$Series" "terms" "[J") (by decide +kernel)) (by first | rfl | simp [va_up, *]) dX1_becomeSum_6 ?_
      refine zalen (N := 49) (q := (i + 12)) (t0 := 0) hx hb hAm hP (by omega) (zC_t (by omega)) rfl rfl dX1_becomeSum_9 ?_
      refine zi_ge (tgt := 46) hx hb dX1_becomeSum_10 (by decide) (by omega) (by omega) (fun c1 => ?_) (fun c1 => ?_)
      ·
        have hP : va_P D vwCl (zq_wd F 30 (zCE cL cR F (va_up T i f2) top Z)) H := zC_extT hP (zupx (fun j hj => hf j (by omega)))
        refine lv_aload_n hx hb dX1_becomeSum_46 rfl (lv_at hl 0 rfl) ?_
        refine zcallV (As := []) (rest := []) (q := i) (k := 0) hx hb hml hown hts (kX1_trim l D cL cI cR A F hF (va_up T i f2) top Z i (by omega) f2 (by first | rfl | simp [va_up, *]) (va_up top i (ztop f2 48)) (by first | rfl | simp only [bx_uu])) gX1_becomeSum_X1_trim rfl (by decide +kernel) ⟨Nat.le_of_ble_eq_true rfl, Nat.le_of_ble_eq_true rfl⟩ rfl (by omega) (zC_s (by omega)) rfl rfl hAm hP hS rfl hl.1 rfl (Nat.le_of_ble_eq_true rfl) dX1_becomeSum_47 ⟨Nat.zero_le _, Nat.zero_le _⟩ (zkn (fun H locs hP hS => ?_))
        refine W.eq (g2 := F0 m 50 ls []) rfl ?_
        exact zretV hx hb hr hlk hS hP dX1_becomeSum_50 ⟨rfl, rfl⟩
      ·
        refine lv_aload_n hx hb dX1_becomeSum_13 rfl (lv_at hl 0 rfl) ?_
        refine zget (q := i) (k := 0) (v := .ref (F (i + 12))) hx hb hts hinX1 hown hAm hP (by omega) (zC_s (by omega)) rfl (by decide) (hts (.fieldLink RX1 9 "CosineSeries$Series" "terms" "[J") (by decide +kernel)) (by first | rfl | simp [va_up, *]) dX1_becomeSum_14 ?_
        refine lv_iload hx hb dX1_becomeSum_17 (lv_at hl 5 rfl) ?_
        refine lv_iload_n hx hb dX1_becomeSum_19 rfl (lv_at hl 2 rfl) ?_
        refine lv_i2l (v := fa.toInt64) hx hb dX1_becomeSum_20 rfl ?_
        refine lv_aload_n hx hb dX1_becomeSum_21 rfl (lv_at hl 1 rfl) ?_
        refine lv_iload hx hb dX1_becomeSum_22 (lv_at hl 5 rfl) ?_
        refine zcallV (As := [.int (nI k)]) (rest := [.long fa.toInt64, .int (nI k), .ref (F (i + 12))]) (q := a) (k := 1) hx hb hml hown hts (kX1_at l D cL cI cR A F hF (va_up T i f) top Z a ha k (by omega) (T a k) (by simp [va_up, hai])) gX1_becomeSum_X1_at rfl (by decide +kernel) ⟨Nat.le_of_ble_eq_true rfl, Nat.le_of_ble_eq_true rfl⟩ rfl (by omega) (zC_s (by omega)) rfl rfl hAm hP hS rfl hl.1 rfl (Nat.le_of_ble_eq_true rfl) dX1_becomeSum_24 ⟨Nat.zero_le _, Nat.zero_le _⟩ (zkn (fun H locs hP hS => ?_))
        refine W.eq (g2 := F0 m 27 ls [.long (T a k), .long fa.toInt64, .int (nI k), .ref (F (i + 12))]) rfl ?_
        refine lv_lmul hx hb dX1_becomeSum_27 ?_
        refine lv_iload hx hb dX1_becomeSum_28 (lv_at hl 4 rfl) ?_
        refine lv_i2l (v := fb.toInt64) hx hb dX1_becomeSum_30 rfl ?_
        refine lv_aload_n hx hb dX1_becomeSum_31 rfl (lv_at hl 3 rfl) ?_
        refine lv_iload hx hb dX1_becomeSum_32 (lv_at hl 5 rfl) ?_
        refine zcallV (As := [.int (nI k)]) (rest := [.long fb.toInt64, .long (fa.toInt64 * (T a k)), .int (nI k), .ref (F (i + 12))]) (q := b) (k := 1) hx hb hml hown hts (kX1_at l D cL cI cR A F hF (va_up T i f) top Z b hb12 k (by omega) (T b k) (by simp [va_up, hbi])) gX1_becomeSum_X1_at rfl (by decide +kernel) ⟨Nat.le_of_ble_eq_true rfl, Nat.le_of_ble_eq_true rfl⟩ rfl (by omega) (zC_s (by omega)) rfl rfl hAm hP hS rfl hl.1 rfl (Nat.le_of_ble_eq_true rfl) dX1_becomeSum_34 ⟨Nat.zero_le _, Nat.zero_le _⟩ (zkn (fun H locs hP hS => ?_))
        refine W.eq (g2 := F0 m 37 ls [.long (T b k), .long fb.toInt64, .long (fa.toInt64 * (T a k)), .int (nI k), .ref (F (i + 12))]) rfl ?_
        refine lv_lmul hx hb dX1_becomeSum_37 ?_
        refine lv_ladd hx hb dX1_becomeSum_38 ?_
        refine zlast (q := (i + 12)) (k := k) (E' := (zCE cL cR F (va_up T i (vp_updL f k ((fa.toInt64 * (T a k)) + (fb.toInt64 * (T b k))))) top Z)) hx hb hAm hP hF hS (by omega) (zC_t (by omega)) (by omega) (by decide) dX1_becomeSum_39 (by first | exact zC_ut (by omega) | (rw [zC_ut (by omega)]; simp only [bx_uu, va_up_eq])) (fun H locs hP hS => ?_)
        refine lv_iinc (v := (nI (k + 1))) (lv' := [(5, .int (nI (k + 1))), (0, .ref (F i)), (1, .ref (F a)), (2, .int fa), (3, .ref (F b)), (4, .int fb)]) hx hb dX1_becomeSum_40 hl (k := 5) rfl (zinc (by omega)) (by decide) rfl (fun ls hl => ?_)
        refine lv_goto (tgt := 3) hx hb dX1_becomeSum_43 (by decide) ?_
        exact ih3 (k + 1) _ (by omega) (fun j hj => by unfold vp_updL; split; (rename_i h; rw [h, hf2]; rfl); exact hf j (by omega)) (by omega) H _ hP hS ls (lv_sub hl [1, 2, 3, 4, 5, 0] rfl)
  exact L3 _ 0 _ (by omega) (fun j hj => absurd hj (Nat.not_lt_zero _)) (Nat.lt_succ_self _) H _ hP hS ls (lv_sub hl [1, 2, 3, 4, 5, 0] rfl)

set_option maxHeartbeats 4000000 in
set_option maxRecDepth 100000 in
theorem kX1_becomeProduct (l : Launch) (D : va_G) (cL cI cR : ClassId) (A : Nat → Prop) (F : Nat → Nat) (hF : zq_F A F 30) (T : Nat → Nat → Int64) (top : Nat → Nat) (Z : zZC) (i : Nat) (hi : i < 12) (a : Nat) (ha : a < 12) (hai : ¬ a = i) (b : Nat) (hb12 : b < 12) (hbi : ¬ b = i) (hna : top a ≤ 24) (hnb : top b ≤ 24) (f2 : Nat → Int64) (hf2 : f2 = zprod (T a) (top a) (T b) (top b)) : zCt l yX1_becomeProduct wsX1_becomeProduct 2 52 D cL cI cR A F 30 (zCE cL cR F T top Z) [.ref (F i), .ref (F a), .ref (F b)] (fun v2 E2 => v2 = none ∧ E2 = (zCE cL cR F (va_up T i f2) (va_up top i (ztop f2 48)) Z)) := by
  refine zStart (cc := cX1_becomeProduct) (maxL := 8) (ret := none) (by decide +kernel) rfl (Nat.le_of_ble_eq_true rfl) ?_
  intro p e s m below meth c hx hb hr hml hlk hown hts hAm H hP hS ls hl
  have hown : s.vm.findClass RX1 = some m.cls := hown
  have hl : lv_has ls 8 [(0, .ref (F i)), (1, .ref (F a)), (2, .ref (F b))] := hl
  have hinX1 : ∀ w ∈ u_ws RX1 TX1 2, w ∈ wsX1_becomeProduct := by decide +kernel
  refine lv_aload_n hx hb dX1_becomeProduct_0 rfl (lv_at hl 0 rfl) ?_
  refine zcallV (As := []) (rest := []) (q := i) (k := 0) hx hb hml hown hts (kX1_clear l D cL cI cR A F hF T top Z i (by omega)) gX1_becomeProduct_X1_clear rfl (by decide +kernel) ⟨Nat.le_of_ble_eq_true rfl, Nat.le_of_ble_eq_true rfl⟩ rfl (by omega) (zC_s (by omega)) rfl rfl hAm hP hS rfl hl.1 rfl (Nat.le_of_ble_eq_true rfl) dX1_becomeProduct_1 ⟨Nat.zero_le _, Nat.zero_le _⟩ (zkn (fun H locs hP hS => ?_))
  refine W.eq (g2 := F0 m 4 ls []) rfl ?_
  refine lv_iconst (v := nI 0) hx hb dX1_becomeProduct_4 (by decide +kernel) ?_
  refine lv_istore_n (lv' := [(3, .int (nI 0)), (0, .ref (F i)), (1, .ref (F a)), (2, .ref (F b))]) hx hb dX1_becomeProduct_5 rfl hl (by decide) rfl (fun ls hl => ?_)
  have L6 : ∀ (n : Nat) (r : Nat) (f : Nat → Int64) (hr1 : r ≤ top a + 1) (hf : ∀ k, k < 49 → f k = zpout (T a) (T b) (top b) k r) (hn : top a + 1 - r < n) (H : Heap) (locs : List Loc), va_P D vwCl (zq_wd F 30 (zCE cL cR F (va_up T i f) (va_up top i 0) Z)) H → va_S A s.heap H locs → ∀ (ls : Array Slot), lv_has ls 8 [(0, .ref (F i)), (1, .ref (F a)), (2, .ref (F b)), (3, .int (nI r))] → W p l e ({ frames := 2, cells := 0, slots := 0, locals := 52 }) s m ([.ref (F i), .ref (F a), .ref (F b)] : List Value).toArray below meth c H locs 0 0 (zQ below D A F 30 [.ref (F i), .ref (F a), .ref (F b)] s (fun v2 E2 => v2 = none ∧ E2 = (zCE cL cR F (va_up T i f2) (va_up top i (ztop f2 48)) Z))) (F0 m 6 ls []) := by
    intro n
    induction n with
    | zero =>
      intro r f hr1 hf hn
      exact absurd hn (Nat.not_lt_zero _)
    | succ n ih6 =>
      intro r f hr1 hf hn H locs hP hS ls hl
      refine lv_iload_n hx hb dX1_becomeProduct_6 rfl (lv_at hl 3 rfl) ?_
      refine lv_aload_n hx hb dX1_becomeProduct_7 rfl (lv_at hl 1 rfl) ?_
      refine zget (q := a) (k := 1) (v := .int (nI (top a))) hx hb hts hinX1 hown hAm hP (by omega) (zC_s (by omega)) rfl (by decide) (hts (.fieldLink RX1 15 "CosineSeries$Series" "top" "I") (by decide +kernel)) (by first | rfl | simp [va_up, *]) dX1_becomeProduct_8 ?_
      refine zi_gt (tgt := 95) hx hb dX1_becomeProduct_11 (by decide) (by omega) (by omega) (fun c1 => ?_) (fun c1 => ?_)
      ·
        refine lv_iconst (v := nI 0) hx hb dX1_becomeProduct_95 (by decide +kernel) ?_
        refine lv_istore_n (lv' := [(3, .int (nI 0)), (0, .ref (F i)), (1, .ref (F a)), (2, .ref (F b))]) hx hb dX1_becomeProduct_96 rfl hl (by decide) rfl (fun ls hl => ?_)
        have L97 : ∀ (n : Nat) (k : Nat) (f3 : Nat → Int64) (hk : k ≤ 49) (hf3 : ∀ j, j < 49 → f3 j = if j < k then f2 j else f j) (hn : 49 - k < n) (H : Heap) (locs : List Loc), va_P D vwCl (zq_wd F 30 (zCE cL cR F (va_up T i f3) (va_up top i 0) Z)) H → va_S A s.heap H locs → ∀ (ls : Array Slot), lv_has ls 8 [(0, .ref (F i)), (3, .int (nI k))] → W p l e ({ frames := 2, cells := 0, slots := 0, locals := 52 }) s m ([.ref (F i), .ref (F a), .ref (F b)] : List Value).toArray below meth c H locs 0 0 (zQ below D A F 30 [.ref (F i), .ref (F a), .ref (F b)] s (fun v2 E2 => v2 = none ∧ E2 = (zCE cL cR F (va_up T i f2) (va_up top i (ztop f2 48)) Z))) (F0 m 97 ls []) := by
          intro n
          induction n with
          | zero =>
            intro k f3 hk hf3 hn
            exact absurd hn (Nat.not_lt_zero _)
          | succ n ih97 =>
            intro k f3 hk hf3 hn H locs hP hS ls hl
            refine lv_iload_n hx hb dX1_becomeProduct_97 rfl (lv_at hl 1 rfl) ?_
            refine lv_aload_n hx hb dX1_becomeProduct_98 rfl (lv_at hl 0 rfl) ?_
            refine zget (q := i) (k := 0) (v := .ref (F (i + 12))) hx hb hts hinX1 hown hAm hP (by omega) (zC_s (by omega)) rfl (by decide) (hts (.fieldLink RX1 9 "CosineSeries$Series" "terms" "[J") (by decide +kernel)) (by first | rfl | simp [va_up, *]) dX1_becomeProduct_99 ?_
            refine zalen (N := 49) (q := (i + 12)) (t0 := 0) hx hb hAm hP (by omega) (zC_t (by omega)) rfl rfl dX1_becomeProduct_102 ?_
            refine zi_ge (tgt := 130) hx hb dX1_becomeProduct_103 (by decide) (by omega) (by omega) (fun c2 => ?_) (fun c2 => ?_)
            ·
              have hP : va_P D vwCl (zq_wd F 30 (zCE cL cR F (va_up T i f2) (va_up top i 0) Z)) H := zC_extT hP (zupx (fun j hj => by rw [hf3 j hj, if_pos (by omega)]))
              refine lv_aload_n hx hb dX1_becomeProduct_130 rfl (lv_at hl 0 rfl) ?_
              refine zcallV (As := []) (rest := []) (q := i) (k := 0) hx hb hml hown hts (kX1_trim l D cL cI cR A F hF (va_up T i f2) (va_up top i 0) Z i (by omega) f2 (by first | rfl | simp [va_up, *]) (va_up top i (ztop f2 48)) (by first | rfl | simp only [bx_uu])) gX1_becomeProduct_X1_trim rfl (by decide +kernel) ⟨Nat.le_of_ble_eq_true rfl, Nat.le_of_ble_eq_true rfl⟩ rfl (by omega) (zC_s (by omega)) rfl rfl hAm hP hS rfl hl.1 rfl (Nat.le_of_ble_eq_true rfl) dX1_becomeProduct_131 ⟨Nat.zero_le _, Nat.zero_le _⟩ (zkn (fun H locs hP hS => ?_))
              refine W.eq (g2 := F0 m 134 ls []) rfl ?_
              exact zretV hx hb hr hlk hS hP dX1_becomeProduct_134 ⟨rfl, rfl⟩
            ·
              refine lv_aload_n hx hb dX1_becomeProduct_106 rfl (lv_at hl 0 rfl) ?_
              refine zget (q := i) (k := 0) (v := .ref (F (i + 12))) hx hb hts hinX1 hown hAm hP (by omega) (zC_s (by omega)) rfl (by decide) (hts (.fieldLink RX1 9 "CosineSeries$Series" "terms" "[J") (by decide +kernel)) (by first | rfl | simp [va_up, *]) dX1_becomeProduct_107 ?_
              refine lv_iload_n hx hb dX1_becomeProduct_110 rfl (lv_at hl 1 rfl) ?_
              refine lv_aload_n hx hb dX1_becomeProduct_111 rfl (lv_at hl 0 rfl) ?_
              refine zget (q := i) (k := 0) (v := .ref (F (i + 12))) hx hb hts hinX1 hown hAm hP (by omega) (zC_s (by omega)) rfl (by decide) (hts (.fieldLink RX1 9 "CosineSeries$Series" "terms" "[J") (by decide +kernel)) (by first | rfl | simp [va_up, *]) dX1_becomeProduct_112 ?_
              refine lv_iload_n hx hb dX1_becomeProduct_115 rfl (lv_at hl 1 rfl) ?_
              refine zlald (q := (i + 12)) (k := k) (v := (f3 k)) hx hb hAm hP (by omega) (zC_t (by omega)) (by omega) (by decide) (by first | rfl | simp [va_up, *]) dX1_becomeProduct_116 ?_
              refine lv_ldc2 hx hb hown (hts (.constantLong RX1 66 (2097152)) (by decide +kernel)) dX1_becomeProduct_117 ?_
              refine zcallN (As := [.long (f3 k), .long (2097152 : Int64)]) (rest := [.int (nI k), .ref (F (i + 12))]) (k := 2) hx hb hml hown hts (kX2_rounded l D cL cI cR A F 30 (zCE cL cR F (va_up T i f3) (va_up top i 0) Z) (f3 k) (2097152 : Int64) (by decide)) gX1_becomeProduct_X2_rounded_n45 rfl hAm.2.1 (hts (.initialized RX2) (by decide +kernel)) (hts (.static yX2_rounded) (by decide +kernel)) (by decide +kernel) ⟨Nat.le_of_ble_eq_true rfl, Nat.le_of_ble_eq_true rfl⟩ hAm hP hS rfl hl.1 rfl (Nat.le_of_ble_eq_true rfl) dX1_becomeProduct_120 ⟨Nat.zero_le _, Nat.zero_le _⟩ (zkn (fun H locs hP hS => ?_))
              refine W.eq (g2 := F0 m 123 ls [.long (zR (f3 k) (2097152 : Int64)), .int (nI k), .ref (F (i + 12))]) rfl ?_
              refine zlast (q := (i + 12)) (k := k) (E' := (zCE cL cR F (va_up T i (vp_updL f3 k (zR (f3 k) (2097152 : Int64)))) (va_up top i 0) Z)) hx hb hAm hP hF hS (by omega) (zC_t (by omega)) (by omega) (by decide) dX1_becomeProduct_123 (by first | exact zC_ut (by omega) | (rw [zC_ut (by omega)]; simp only [bx_uu, va_up_eq])) (fun H locs hP hS => ?_)
              refine lv_iinc (v := (nI (k + 1))) (lv' := [(3, .int (nI (k + 1))), (0, .ref (F i))]) hx hb dX1_becomeProduct_124 hl (k := 1) rfl (zinc (by omega)) (by decide) rfl (fun ls hl => ?_)
              refine lv_goto (tgt := 97) hx hb dX1_becomeProduct_127 (by decide) ?_
              exact ih97 (k + 1) _ (by omega) (fun j hj => by unfold vp_updL; split; (rename_i h; rw [if_pos (by omega), h, hf3 k (by omega), if_neg (by omega), hf k (by omega), hf2, show r = top a + 1 by omega]; rfl); (rw [hf3 j hj]; by_cases h : j < k; (rw [if_pos h, if_pos (by omega)]); (rw [if_neg h, if_neg (by omega)]))) (by omega) H _ hP hS ls (lv_sub hl [1, 0] rfl)
        exact L97 _ 0 _ (by omega) (fun j _ => by rw [if_neg (by omega)]) (Nat.lt_succ_self _) H _ hP hS ls (lv_sub hl [1, 0] rfl)
      ·
        refine lv_iconst (v := nI 0) hx hb dX1_becomeProduct_14 (by decide +kernel) ?_
        refine lv_istore (lv' := [(4, .int (nI 0)), (0, .ref (F i)), (1, .ref (F a)), (2, .ref (F b)), (3, .int (nI r))]) hx hb dX1_becomeProduct_15 hl (by decide) rfl (fun ls hl => ?_)
        have L17 : ∀ (n : Nat) (q : Nat) (f : Nat → Int64) (hq : q ≤ top b + 1) (hf : ∀ k, k < 49 → f k = zpin (T a) (T b) k r q (zpout (T a) (T b) (top b) k r)) (hn : top b + 1 - q < n) (H : Heap) (locs : List Loc), va_P D vwCl (zq_wd F 30 (zCE cL cR F (va_up T i f) (va_up top i 0) Z)) H → va_S A s.heap H locs → ∀ (ls : Array Slot), lv_has ls 8 [(0, .ref (F i)), (1, .ref (F a)), (2, .ref (F b)), (3, .int (nI r)), (4, .int (nI q))] → W p l e ({ frames := 2, cells := 0, slots := 0, locals := 52 }) s m ([.ref (F i), .ref (F a), .ref (F b)] : List Value).toArray below meth c H locs 0 0 (zQ below D A F 30 [.ref (F i), .ref (F a), .ref (F b)] s (fun v2 E2 => v2 = none ∧ E2 = (zCE cL cR F (va_up T i f2) (va_up top i (ztop f2 48)) Z))) (F0 m 17 ls []) := by
          intro n
          induction n with
          | zero =>
            intro q f hq hf hn
            exact absurd hn (Nat.not_lt_zero _)
          | succ n ih17 =>
            intro q f hq hf hn H locs hP hS ls hl
            refine lv_iload hx hb dX1_becomeProduct_17 (lv_at hl 4 rfl) ?_
            refine lv_aload_n hx hb dX1_becomeProduct_19 rfl (lv_at hl 2 rfl) ?_
            refine zget (q := b) (k := 1) (v := .int (nI (top b))) hx hb hts hinX1 hown hAm hP (by omega) (zC_s (by omega)) rfl (by decide) (hts (.fieldLink RX1 15 "CosineSeries$Series" "top" "I") (by decide +kernel)) (by first | rfl | simp [va_up, *]) dX1_becomeProduct_20 ?_
            refine zi_gt (tgt := 89) hx hb dX1_becomeProduct_23 (by decide) (by omega) (by omega) (fun c3 => ?_) (fun c3 => ?_)
            ·
              refine lv_iinc (v := (nI (r + 1))) (lv' := [(3, .int (nI (r + 1))), (0, .ref (F i)), (1, .ref (F a)), (2, .ref (F b)), (4, .int (nI q))]) hx hb dX1_becomeProduct_89 hl (k := 3) rfl (zinc (by omega)) (by decide) rfl (fun ls hl => ?_)
              refine lv_goto (tgt := 6) hx hb dX1_becomeProduct_92 (by decide) ?_
              exact ih6 (r + 1) _ (by omega) (fun k hk => by rw [hf k hk, show q = top b + 1 by omega]; rfl) (by omega) H _ hP hS ls (lv_sub hl [1, 2, 3, 0] rfl)
            ·
              refine lv_aload_n hx hb dX1_becomeProduct_26 rfl (lv_at hl 1 rfl) ?_
              refine lv_iload_n hx hb dX1_becomeProduct_27 rfl (lv_at hl 3 rfl) ?_
              refine zcallV (As := [.int (nI r)]) (rest := []) (q := a) (k := 1) hx hb hml hown hts (kX1_at l D cL cI cR A F hF (va_up T i f) (va_up top i 0) Z a ha r (by omega) (T a r) (by simp [va_up, hai])) gX1_becomeProduct_X1_at rfl (by decide +kernel) ⟨Nat.le_of_ble_eq_true rfl, Nat.le_of_ble_eq_true rfl⟩ rfl (by omega) (zC_s (by omega)) rfl rfl hAm hP hS rfl hl.1 rfl (Nat.le_of_ble_eq_true rfl) dX1_becomeProduct_28 ⟨Nat.zero_le _, Nat.zero_le _⟩ (zkn (fun H locs hP hS => ?_))
              refine W.eq (g2 := F0 m 31 ls [.long (T a r)]) rfl ?_
              refine lv_aload_n hx hb dX1_becomeProduct_31 rfl (lv_at hl 2 rfl) ?_
              refine lv_iload hx hb dX1_becomeProduct_32 (lv_at hl 4 rfl) ?_
              refine zcallV (As := [.int (nI q)]) (rest := [.long (T a r)]) (q := b) (k := 1) hx hb hml hown hts (kX1_at l D cL cI cR A F hF (va_up T i f) (va_up top i 0) Z b hb12 q (by omega) (T b q) (by simp [va_up, hbi])) gX1_becomeProduct_X1_at rfl (by decide +kernel) ⟨Nat.le_of_ble_eq_true rfl, Nat.le_of_ble_eq_true rfl⟩ rfl (by omega) (zC_s (by omega)) rfl rfl hAm hP hS rfl hl.1 rfl (Nat.le_of_ble_eq_true rfl) dX1_becomeProduct_34 ⟨Nat.zero_le _, Nat.zero_le _⟩ (zkn (fun H locs hP hS => ?_))
              refine W.eq (g2 := F0 m 37 ls [.long (T b q), .long (T a r)]) rfl ?_
              refine lv_lmul hx hb dX1_becomeProduct_37 ?_
              refine lv_lstore (lv' := [(5, .long ((T a r) * (T b q))), (0, .ref (F i)), (1, .ref (F a)), (2, .ref (F b)), (3, .int (nI r)), (4, .int (nI q))]) hx hb dX1_becomeProduct_38 hl (by decide) rfl (fun ls hl => ?_)
              refine lv_aload_n hx hb dX1_becomeProduct_40 rfl (lv_at hl 1 rfl) ?_
              refine lv_iload_n hx hb dX1_becomeProduct_41 rfl (lv_at hl 4 rfl) ?_
              refine lv_iload hx hb dX1_becomeProduct_42 (lv_at hl 5 rfl) ?_
              refine ziadd (d := (r + q)) hx hb (by omega) dX1_becomeProduct_44 ?_
              refine lv_aload_n hx hb dX1_becomeProduct_45 rfl (lv_at hl 1 rfl) ?_
              refine lv_iload_n hx hb dX1_becomeProduct_46 rfl (lv_at hl 4 rfl) ?_
              refine lv_iload hx hb dX1_becomeProduct_47 (lv_at hl 5 rfl) ?_
              refine ziadd (d := (r + q)) hx hb (by omega) dX1_becomeProduct_49 ?_
              refine zcallV (As := [.int (nI (r + q))]) (rest := [.int (nI (r + q)), .ref (F i)]) (q := i) (k := 1) hx hb hml hown hts (kX1_at l D cL cI cR A F hF (va_up T i f) (va_up top i 0) Z i (by omega) (r + q) (by omega) (f (r + q)) (by first | rfl | simp [va_up, *])) gX1_becomeProduct_X1_at rfl (by decide +kernel) ⟨Nat.le_of_ble_eq_true rfl, Nat.le_of_ble_eq_true rfl⟩ rfl (by omega) (zC_s (by omega)) rfl rfl hAm hP hS rfl hl.1 rfl (Nat.le_of_ble_eq_true rfl) dX1_becomeProduct_50 ⟨Nat.zero_le _, Nat.zero_le _⟩ (zkn (fun H locs hP hS => ?_))
              refine W.eq (g2 := F0 m 53 ls [.long (f (r + q)), .int (nI (r + q)), .ref (F i)]) rfl ?_
              refine lv_lload hx hb dX1_becomeProduct_53 (lv_at hl 0 rfl) ?_
              refine lv_ladd hx hb dX1_becomeProduct_55 ?_
              refine zcallV (As := [.int (nI (r + q)), .long ((f (r + q)) + ((T a r) * (T b q)))]) (rest := []) (q := i) (k := 2) hx hb hml hown hts (kX1_put l D cL cI cR A F hF (va_up T i f) (va_up top i 0) Z i (by omega) (r + q) (by omega) ((f (r + q)) + ((T a r) * (T b q))) (va_up T i (vp_updL f (r + q) ((f (r + q)) + ((T a r) * (T b q))))) (by first | rfl | simp only [bx_uu, va_up_eq])) gX1_becomeProduct_X1_put rfl (by decide +kernel) ⟨Nat.le_of_ble_eq_true rfl, Nat.le_of_ble_eq_true rfl⟩ rfl (by omega) (zC_s (by omega)) rfl rfl hAm hP hS rfl hl.1 rfl (Nat.le_of_ble_eq_true rfl) dX1_becomeProduct_56 ⟨Nat.zero_le _, Nat.zero_le _⟩ (zkn (fun H locs hP hS => ?_))
              refine W.eq (g2 := F0 m 59 ls []) rfl ?_
              refine lv_iload_n hx hb dX1_becomeProduct_59 rfl (lv_at hl 4 rfl) ?_
              refine lv_iload hx hb dX1_becomeProduct_60 (lv_at hl 5 rfl) ?_
              refine lv_isub hx hb dX1_becomeProduct_62 ?_
              refine va_mabs hx hb (hml.trans hl.1.symm) hown (hts (.methodLink RX1 63 Lib.Math.abs.name) (by decide +kernel)) (hts (.static Lib.Math.abs.name) (by decide +kernel)) (hts (.initialized "java/lang/Math") (by decide +kernel)) (hts (.code Lib.Math.abs.name Lib.Math.abs.code 1 (some .int)) (by decide +kernel)) (Nat.le_of_ble_eq_true rfl) (Nat.le_of_ble_eq_true rfl) (Nat.zero_le _) (Nat.zero_le _) dX1_becomeProduct_63 ?_
              refine W.eq (g2 := F0 m 66 ls [.int (nI (r - q + (q - r)))]) (by rw [zabsd (by omega) (by omega)]) ?_
              refine lv_istore (lv' := [(7, .int (nI (r - q + (q - r)))), (5, .long ((T a r) * (T b q))), (0, .ref (F i)), (1, .ref (F a)), (2, .ref (F b)), (3, .int (nI r)), (4, .int (nI q))]) hx hb dX1_becomeProduct_66 hl (by decide) rfl (fun ls hl => ?_)
              refine lv_aload_n hx hb dX1_becomeProduct_68 rfl (lv_at hl 2 rfl) ?_
              refine lv_iload hx hb dX1_becomeProduct_69 (lv_at hl 0 rfl) ?_
              refine lv_aload_n hx hb dX1_becomeProduct_71 rfl (lv_at hl 2 rfl) ?_
              refine lv_iload hx hb dX1_becomeProduct_72 (lv_at hl 0 rfl) ?_
              refine zcallV (As := [.int (nI (r - q + (q - r)))]) (rest := [.int (nI (r - q + (q - r))), .ref (F i)]) (q := i) (k := 1) hx hb hml hown hts (kX1_at l D cL cI cR A F hF (va_up T i (vp_updL f (r + q) ((f (r + q)) + ((T a r) * (T b q))))) (va_up top i 0) Z i (by omega) (r - q + (q - r)) (by omega) ((vp_updL f (r + q) ((f (r + q)) + ((T a r) * (T b q)))) (r - q + (q - r))) (by first | rfl | simp [va_up, *])) gX1_becomeProduct_X1_at rfl (by decide +kernel) ⟨Nat.le_of_ble_eq_true rfl, Nat.le_of_ble_eq_true rfl⟩ rfl (by omega) (zC_s (by omega)) rfl rfl hAm hP hS rfl hl.1 rfl (Nat.le_of_ble_eq_true rfl) dX1_becomeProduct_74 ⟨Nat.zero_le _, Nat.zero_le _⟩ (zkn (fun H locs hP hS => ?_))
              refine W.eq (g2 := F0 m 77 ls [.long ((vp_updL f (r + q) ((f (r + q)) + ((T a r) * (T b q)))) (r - q + (q - r))), .int (nI (r - q + (q - r))), .ref (F i)]) rfl ?_
              refine lv_lload hx hb dX1_becomeProduct_77 (lv_at hl 1 rfl) ?_
              refine lv_ladd hx hb dX1_becomeProduct_79 ?_
              refine zcallV (As := [.int (nI (r - q + (q - r))), .long (((vp_updL f (r + q) ((f (r + q)) + ((T a r) * (T b q)))) (r - q + (q - r))) + ((T a r) * (T b q)))]) (rest := []) (q := i) (k := 2) hx hb hml hown hts (kX1_put l D cL cI cR A F hF (va_up T i (vp_updL f (r + q) ((f (r + q)) + ((T a r) * (T b q))))) (va_up top i 0) Z i (by omega) (r - q + (q - r)) (by omega) (((vp_updL f (r + q) ((f (r + q)) + ((T a r) * (T b q)))) (r - q + (q - r))) + ((T a r) * (T b q))) (va_up T i (vp_updL (vp_updL f (r + q) ((f (r + q)) + ((T a r) * (T b q)))) (r - q + (q - r)) (((vp_updL f (r + q) ((f (r + q)) + ((T a r) * (T b q)))) (r - q + (q - r))) + ((T a r) * (T b q))))) (by first | rfl | simp only [bx_uu, va_up_eq])) gX1_becomeProduct_X1_put rfl (by decide +kernel) ⟨Nat.le_of_ble_eq_true rfl, Nat.le_of_ble_eq_true rfl⟩ rfl (by omega) (zC_s (by omega)) rfl rfl hAm hP hS rfl hl.1 rfl (Nat.le_of_ble_eq_true rfl) dX1_becomeProduct_80 ⟨Nat.zero_le _, Nat.zero_le _⟩ (zkn (fun H locs hP hS => ?_))
              refine W.eq (g2 := F0 m 83 ls []) rfl ?_
              refine lv_iinc (v := (nI (q + 1))) (lv' := [(4, .int (nI (q + 1))), (7, .int (nI (r - q + (q - r)))), (5, .long ((T a r) * (T b q))), (0, .ref (F i)), (1, .ref (F a)), (2, .ref (F b)), (3, .int (nI r))]) hx hb dX1_becomeProduct_83 hl (k := 6) rfl (zinc (by omega)) (by decide) rfl (fun ls hl => ?_)
              refine lv_goto (tgt := 17) hx hb dX1_becomeProduct_86 (by decide) ?_
              exact ih17 (q + 1) _ (by omega) (fun k hk => by rw [zp_step (T a) (T b), hf k hk]; rfl) (by omega) H _ hP hS ls (lv_sub hl [3, 4, 5, 6, 0] rfl)
        exact L17 _ 0 _ (by omega) (fun k hk => hf k hk) (Nat.lt_succ_self _) H _ hP hS ls (lv_sub hl [1, 2, 3, 4, 0] rfl)
  exact L6 _ 0 _ (by omega) (fun k _ => rfl) (Nat.lt_succ_self _) H _ hP hS ls (lv_sub hl [1, 2, 3, 0] rfl)

set_option maxHeartbeats 4000000 in
set_option maxRecDepth 100000 in
theorem kX1_becomeDerivative (l : Launch) (D : va_G) (cL cI cR : ClassId) (A : Nat → Prop) (F : Nat → Nat) (hF : zq_F A F 30) (T : Nat → Nat → Int64) (top : Nat → Nat) (Z : zZC) (i : Nat) (hi : i < 12) (a : Nat) (ha : a < 12) (hai : ¬ a = i) (hna : top a ≤ 24) (f2 : Nat → Int64) (hf2 : f2 = zder (T a) (top a)) : zCt l yX1_becomeDerivative wsX1_becomeDerivative 2 52 D cL cI cR A F 30 (zCE cL cR F T top Z) [.ref (F i), .ref (F a)] (fun v2 E2 => v2 = none ∧ E2 = (zCE cL cR F (va_up T i f2) (va_up top i (ztop f2 48)) Z)) := by
  refine zStart (cc := cX1_becomeDerivative) (maxL := 3) (ret := none) (by decide +kernel) rfl (Nat.le_of_ble_eq_true rfl) ?_
  intro p e s m below meth c hx hb hr hml hlk hown hts hAm H hP hS ls hl
  have hown : s.vm.findClass RX1 = some m.cls := hown
  have hl : lv_has ls 3 [(0, .ref (F i)), (1, .ref (F a))] := hl
  have hinX1 : ∀ w ∈ u_ws RX1 TX1 2, w ∈ wsX1_becomeDerivative := by decide +kernel
  refine lv_aload_n hx hb dX1_becomeDerivative_0 rfl (lv_at hl 0 rfl) ?_
  refine zcallV (As := []) (rest := []) (q := i) (k := 0) hx hb hml hown hts (kX1_clear l D cL cI cR A F hF T top Z i (by omega)) gX1_becomeDerivative_X1_clear rfl (by decide +kernel) ⟨Nat.le_of_ble_eq_true rfl, Nat.le_of_ble_eq_true rfl⟩ rfl (by omega) (zC_s (by omega)) rfl rfl hAm hP hS rfl hl.1 rfl (Nat.le_of_ble_eq_true rfl) dX1_becomeDerivative_1 ⟨Nat.zero_le _, Nat.zero_le _⟩ (zkn (fun H locs hP hS => ?_))
  refine W.eq (g2 := F0 m 4 ls []) rfl ?_
  refine lv_aload_n hx hb dX1_becomeDerivative_4 rfl (lv_at hl 1 rfl) ?_
  refine zget (q := a) (k := 1) (v := .int (nI (top a))) hx hb hts hinX1 hown hAm hP (by omega) (zC_s (by omega)) rfl (by decide) (hts (.fieldLink RX1 15 "CosineSeries$Series" "top" "I") (by decide +kernel)) (by first | rfl | simp [va_up, *]) dX1_becomeDerivative_5 ?_
  refine lv_istore_n (lv' := [(2, .int (nI (top a))), (0, .ref (F i)), (1, .ref (F a))]) hx hb dX1_becomeDerivative_8 rfl hl (by decide) rfl (fun ls hl => ?_)
  have L9 : ∀ (n : Nat) (k : Nat) (f : Nat → Int64) (hk : k ≤ 24) (hf : zderF (T a) k f = zderF (T a) (top a) (fun _ => 0)) (hn : k < n) (H : Heap) (locs : List Loc), va_P D vwCl (zq_wd F 30 (zCE cL cR F (va_up T i f) (va_up top i 0) Z)) H → va_S A s.heap H locs → ∀ (ls : Array Slot), lv_has ls 3 [(0, .ref (F i)), (1, .ref (F a)), (2, .int (nI k))] → W p l e ({ frames := 2, cells := 0, slots := 0, locals := 52 }) s m ([.ref (F i), .ref (F a)] : List Value).toArray below meth c H locs 0 0 (zQ below D A F 30 [.ref (F i), .ref (F a)] s (fun v2 E2 => v2 = none ∧ E2 = (zCE cL cR F (va_up T i f2) (va_up top i (ztop f2 48)) Z))) (F0 m 9 ls []) := by
    intro n
    induction n with
    | zero =>
      intro k f hk hf hn
      exact absurd hn (Nat.not_lt_zero _)
    | succ n ih9 =>
      intro k f hk hf hn H locs hP hS ls hl
      refine lv_iload_n hx hb dX1_becomeDerivative_9 rfl (lv_at hl 2 rfl) ?_
      refine lv_iconst (v := nI 1) hx hb dX1_becomeDerivative_10 (by decide +kernel) ?_
      refine zi_lt (tgt := 45) hx hb dX1_becomeDerivative_11 (by decide) (by omega) (by omega) (fun c1 => ?_) (fun c1 => ?_)
      ·
        have hk0 : k = 0 := by omega
        rw [hk0] at hf
        refine lv_aload_n hx hb dX1_becomeDerivative_45 rfl (lv_at hl 0 rfl) ?_
        refine lv_iconst (v := nI 0) hx hb dX1_becomeDerivative_46 (by decide +kernel) ?_
        refine lv_aload_n hx hb dX1_becomeDerivative_47 rfl (lv_at hl 0 rfl) ?_
        refine lv_iconst (v := nI 0) hx hb dX1_becomeDerivative_48 (by decide +kernel) ?_
        refine zcallV (As := [.int (nI 0)]) (rest := [.int (nI 0), .ref (F i)]) (q := i) (k := 1) hx hb hml hown hts (kX1_at l D cL cI cR A F hF (va_up T i f) (va_up top i 0) Z i (by omega) 0 (by omega) (f 0) (by first | rfl | simp [va_up, *])) gX1_becomeDerivative_X1_at rfl (by decide +kernel) ⟨Nat.le_of_ble_eq_true rfl, Nat.le_of_ble_eq_true rfl⟩ rfl (by omega) (zC_s (by omega)) rfl rfl hAm hP hS rfl hl.1 rfl (Nat.le_of_ble_eq_true rfl) dX1_becomeDerivative_49 ⟨Nat.zero_le _, Nat.zero_le _⟩ (zkn (fun H locs hP hS => ?_))
        refine W.eq (g2 := F0 m 52 ls [.long (f 0), .int (nI 0), .ref (F i)]) rfl ?_
        refine lv_ldc2 hx hb hown (hts (.constantLong RX1 41 (2)) (by decide +kernel)) dX1_becomeDerivative_52 ?_
        refine zcallN (As := [.long (f 0), .long (2 : Int64)]) (rest := [.int (nI 0), .ref (F i)]) (k := 2) hx hb hml hown hts (kX2_rounded l D cL cI cR A F 30 (zCE cL cR F (va_up T i f) (va_up top i 0) Z) (f 0) (2 : Int64) (by decide)) gX1_becomeDerivative_X2_rounded_n45 rfl hAm.2.1 (hts (.initialized RX2) (by decide +kernel)) (hts (.static yX2_rounded) (by decide +kernel)) (by decide +kernel) ⟨Nat.le_of_ble_eq_true rfl, Nat.le_of_ble_eq_true rfl⟩ hAm hP hS rfl hl.1 rfl (Nat.le_of_ble_eq_true rfl) dX1_becomeDerivative_55 ⟨Nat.zero_le _, Nat.zero_le _⟩ (zkn (fun H locs hP hS => ?_))
        refine W.eq (g2 := F0 m 58 ls [.long (zR (f 0) (2 : Int64)), .int (nI 0), .ref (F i)]) rfl ?_
        refine zcallV (As := [.int (nI 0), .long (zR (f 0) (2 : Int64))]) (rest := []) (q := i) (k := 2) hx hb hml hown hts (kX1_put l D cL cI cR A F hF (va_up T i f) (va_up top i 0) Z i (by omega) 0 (by omega) (zR (f 0) (2 : Int64)) (va_up T i (vp_updL f 0 (zR (f 0) (2 : Int64)))) (by first | rfl | simp only [bx_uu, va_up_eq])) gX1_becomeDerivative_X1_put rfl (by decide +kernel) ⟨Nat.le_of_ble_eq_true rfl, Nat.le_of_ble_eq_true rfl⟩ rfl (by omega) (zC_s (by omega)) rfl rfl hAm hP hS rfl hl.1 rfl (Nat.le_of_ble_eq_true rfl) dX1_becomeDerivative_58 ⟨Nat.zero_le _, Nat.zero_le _⟩ (zkn (fun H locs hP hS => ?_))
        refine W.eq (g2 := F0 m 61 ls []) rfl ?_
        have hP : va_P D vwCl (zq_wd F 30 (zCE cL cR F (va_up T i f2) (va_up top i 0) Z)) H := by rw [hf2]; unfold zder; rw [← hf]; exact hP
        refine lv_aload_n hx hb dX1_becomeDerivative_61 rfl (lv_at hl 0 rfl) ?_
        refine zcallV (As := []) (rest := []) (q := i) (k := 0) hx hb hml hown hts (kX1_trim l D cL cI cR A F hF (va_up T i f2) (va_up top i 0) Z i (by omega) f2 (by first | rfl | simp [va_up, *]) (va_up top i (ztop f2 48)) (by first | rfl | simp only [bx_uu])) gX1_becomeDerivative_X1_trim rfl (by decide +kernel) ⟨Nat.le_of_ble_eq_true rfl, Nat.le_of_ble_eq_true rfl⟩ rfl (by omega) (zC_s (by omega)) rfl rfl hAm hP hS rfl hl.1 rfl (Nat.le_of_ble_eq_true rfl) dX1_becomeDerivative_62 ⟨Nat.zero_le _, Nat.zero_le _⟩ (zkn (fun H locs hP hS => ?_))
        refine W.eq (g2 := F0 m 65 ls []) rfl ?_
        exact zretV hx hb hr hlk hS hP dX1_becomeDerivative_65 ⟨rfl, rfl⟩
      ·
        obtain ⟨k, rfl⟩ : ∃ j, k = j + 1 := ⟨k - 1, by omega⟩
        have hl : lv_has ls 3 [(0, .ref (F i)), (1, .ref (F a)), (2, .int (nI (k + 1)))] := by exact hl
        refine lv_aload_n hx hb dX1_becomeDerivative_14 rfl (lv_at hl 0 rfl) ?_
        refine lv_iload_n hx hb dX1_becomeDerivative_15 rfl (lv_at hl 2 rfl) ?_
        refine lv_iconst (v := nI 1) hx hb dX1_becomeDerivative_16 (by decide +kernel) ?_
        refine zisub (d := k) hx hb (by omega) dX1_becomeDerivative_17 ?_
        refine lv_aload_n hx hb dX1_becomeDerivative_18 rfl (lv_at hl 0 rfl) ?_
        refine lv_iload_n hx hb dX1_becomeDerivative_19 rfl (lv_at hl 2 rfl) ?_
        refine lv_iconst (v := nI 1) hx hb dX1_becomeDerivative_20 (by decide +kernel) ?_
        refine ziadd (d := (k + 2)) hx hb (by omega) dX1_becomeDerivative_21 ?_
        refine zcallV (As := [.int (nI (k + 2))]) (rest := [.int (nI k), .ref (F i)]) (q := i) (k := 1) hx hb hml hown hts (kX1_at l D cL cI cR A F hF (va_up T i f) (va_up top i 0) Z i (by omega) (k + 2) (by omega) (f (k + 2)) (by first | rfl | simp [va_up, *])) gX1_becomeDerivative_X1_at rfl (by decide +kernel) ⟨Nat.le_of_ble_eq_true rfl, Nat.le_of_ble_eq_true rfl⟩ rfl (by omega) (zC_s (by omega)) rfl rfl hAm hP hS rfl hl.1 rfl (Nat.le_of_ble_eq_true rfl) dX1_becomeDerivative_22 ⟨Nat.zero_le _, Nat.zero_le _⟩ (zkn (fun H locs hP hS => ?_))
        refine W.eq (g2 := F0 m 25 ls [.long (f (k + 2)), .int (nI k), .ref (F i)]) rfl ?_
        refine lv_iconst (v := nI 2) hx hb dX1_becomeDerivative_25 (by decide +kernel) ?_
        refine lv_iload_n hx hb dX1_becomeDerivative_26 rfl (lv_at hl 2 rfl) ?_
        refine zimul (d := (2 * k + 2)) hx hb (by omega) dX1_becomeDerivative_27 ?_
        refine zi2l hx hb (by omega) dX1_becomeDerivative_28 ?_
        refine lv_aload_n hx hb dX1_becomeDerivative_29 rfl (lv_at hl 1 rfl) ?_
        refine lv_iload_n hx hb dX1_becomeDerivative_30 rfl (lv_at hl 2 rfl) ?_
        refine zcallV (As := [.int (nI (k + 1))]) (rest := [.long (lN (2 * k + 2)), .long (f (k + 2)), .int (nI k), .ref (F i)]) (q := a) (k := 1) hx hb hml hown hts (kX1_at l D cL cI cR A F hF (va_up T i f) (va_up top i 0) Z a ha (k + 1) (by omega) (T a (k + 1)) (by simp [va_up, hai])) gX1_becomeDerivative_X1_at rfl (by decide +kernel) ⟨Nat.le_of_ble_eq_true rfl, Nat.le_of_ble_eq_true rfl⟩ rfl (by omega) (zC_s (by omega)) rfl rfl hAm hP hS rfl hl.1 rfl (Nat.le_of_ble_eq_true rfl) dX1_becomeDerivative_31 ⟨Nat.zero_le _, Nat.zero_le _⟩ (zkn (fun H locs hP hS => ?_))
        refine W.eq (g2 := F0 m 34 ls [.long (T a (k + 1)), .long (lN (2 * k + 2)), .long (f (k + 2)), .int (nI k), .ref (F i)]) rfl ?_
        refine lv_lmul hx hb dX1_becomeDerivative_34 ?_
        refine lv_ladd hx hb dX1_becomeDerivative_35 ?_
        refine zcallV (As := [.int (nI k), .long ((f (k + 2)) + ((lN (2 * k + 2)) * (T a (k + 1))))]) (rest := []) (q := i) (k := 2) hx hb hml hown hts (kX1_put l D cL cI cR A F hF (va_up T i f) (va_up top i 0) Z i (by omega) k (by omega) ((f (k + 2)) + ((lN (2 * k + 2)) * (T a (k + 1)))) (va_up T i (vp_updL f k ((f (k + 2)) + ((lN (2 * k + 2)) * (T a (k + 1)))))) (by first | rfl | simp only [bx_uu, va_up_eq])) gX1_becomeDerivative_X1_put rfl (by decide +kernel) ⟨Nat.le_of_ble_eq_true rfl, Nat.le_of_ble_eq_true rfl⟩ rfl (by omega) (zC_s (by omega)) rfl rfl hAm hP hS rfl hl.1 rfl (Nat.le_of_ble_eq_true rfl) dX1_becomeDerivative_36 ⟨Nat.zero_le _, Nat.zero_le _⟩ (zkn (fun H locs hP hS => ?_))
        refine W.eq (g2 := F0 m 39 ls []) rfl ?_
        refine lv_iinc (v := (nI k)) (lv' := [(2, .int (nI k)), (0, .ref (F i)), (1, .ref (F a))]) hx hb dX1_becomeDerivative_39 hl (k := 2) rfl (zinc (by omega)) (by decide) rfl (fun ls hl => ?_)
        refine lv_goto (tgt := 9) hx hb dX1_becomeDerivative_42 (by decide) ?_
        exact ih9 k _ (by omega) (by rw [← hf, show 2 * k + 2 = 2 * (k + 1) by omega, zl2k]; rfl) (by omega) H _ hP hS ls (lv_sub hl [1, 2, 0] rfl)
  exact L9 _ (top a) _ (by omega) rfl (Nat.lt_succ_self _) H _ hP hS ls (lv_sub hl [1, 2, 0] rfl)

set_option maxHeartbeats 4000000 in
set_option maxRecDepth 100000 in
theorem kX1_becomeAntiderivative (l : Launch) (D : va_G) (cL cI cR : ClassId) (A : Nat → Prop) (F : Nat → Nat) (hF : zq_F A F 30) (T : Nat → Nat → Int64) (top : Nat → Nat) (Z : zZC) (i : Nat) (hi : i < 12) (a : Nat) (ha : a < 12) (hai : ¬ a = i) (hna : top a ≤ 24) (f2 : Nat → Int64) (hf2 : f2 = zant (T a) (top a)) : zCt l yX1_becomeAntiderivative wsX1_becomeAntiderivative 2 52 D cL cI cR A F 30 (zCE cL cR F T top Z) [.ref (F i), .ref (F a)] (fun v2 E2 => v2 = none ∧ E2 = (zCE cL cR F (va_up T i f2) (va_up top i (ztop f2 48)) Z)) := by
  refine zStart (cc := cX1_becomeAntiderivative) (maxL := 9) (ret := none) (by decide +kernel) rfl (Nat.le_of_ble_eq_true rfl) ?_
  intro p e s m below meth c hx hb hr hml hlk hown hts hAm H hP hS ls hl
  have hown : s.vm.findClass RX1 = some m.cls := hown
  have hl : lv_has ls 9 [(0, .ref (F i)), (1, .ref (F a))] := hl
  have hinX1 : ∀ w ∈ u_ws RX1 TX1 2, w ∈ wsX1_becomeAntiderivative := by decide +kernel
  refine lv_aload_n hx hb dX1_becomeAntiderivative_0 rfl (lv_at hl 0 rfl) ?_
  refine zcallV (As := []) (rest := []) (q := i) (k := 0) hx hb hml hown hts (kX1_clear l D cL cI cR A F hF T top Z i (by omega)) gX1_becomeAntiderivative_X1_clear rfl (by decide +kernel) ⟨Nat.le_of_ble_eq_true rfl, Nat.le_of_ble_eq_true rfl⟩ rfl (by omega) (zC_s (by omega)) rfl rfl hAm hP hS rfl hl.1 rfl (Nat.le_of_ble_eq_true rfl) dX1_becomeAntiderivative_1 ⟨Nat.zero_le _, Nat.zero_le _⟩ (zkn (fun H locs hP hS => ?_))
  refine W.eq (g2 := F0 m 4 ls []) rfl ?_
  refine lv_lconst (v := (0 : Int64)) hx hb dX1_becomeAntiderivative_4 (by decide +kernel) ?_
  refine lv_lstore_n (lv' := [(2, .long (0 : Int64)), (0, .ref (F i)), (1, .ref (F a))]) hx hb dX1_becomeAntiderivative_5 rfl hl (by decide) rfl (fun ls hl => ?_)
  refine lv_iconst (v := nI 1) hx hb dX1_becomeAntiderivative_6 (by decide +kernel) ?_
  refine lv_istore (lv' := [(4, .int (nI 1)), (2, .long (0 : Int64)), (0, .ref (F i)), (1, .ref (F a))]) hx hb dX1_becomeAntiderivative_7 hl (by decide) rfl (fun ls hl => ?_)
  have L9 : ∀ (n : Nat) (m1 : Nat) (f : Nat → Int64) (u : Int64) (hm1 : m1 ≤ top a + 1) (hf : ∀ j, j < 49 → f j = if 1 ≤ j ∧ j ≤ m1 then ztm (T a) j else 0) (hu : u = zsgn (T a) m1) (hn : top a + 1 - m1 < n) (H : Heap) (locs : List Loc), va_P D vwCl (zq_wd F 30 (zCE cL cR F (va_up T i f) (va_up top i 0) Z)) H → va_S A s.heap H locs → ∀ (ls : Array Slot), lv_has ls 9 [(0, .ref (F i)), (1, .ref (F a)), (2, .long u), (4, .int (nI (m1 + 1)))] → W p l e ({ frames := 2, cells := 0, slots := 0, locals := 52 }) s m ([.ref (F i), .ref (F a)] : List Value).toArray below meth c H locs 0 0 (zQ below D A F 30 [.ref (F i), .ref (F a)] s (fun v2 E2 => v2 = none ∧ E2 = (zCE cL cR F (va_up T i f2) (va_up top i (ztop f2 48)) Z))) (F0 m 9 ls []) := by
    intro n
    induction n with
    | zero =>
      intro m1 f u hm1 hf hu hn
      exact absurd hn (Nat.not_lt_zero _)
    | succ n ih9 =>
      intro m1 f u hm1 hf hu hn H locs hP hS ls hl
      refine lv_iload hx hb dX1_becomeAntiderivative_9 (lv_at hl 3 rfl) ?_
      refine lv_aload_n hx hb dX1_becomeAntiderivative_11 rfl (lv_at hl 1 rfl) ?_
      refine zget (q := a) (k := 1) (v := .int (nI (top a))) hx hb hts hinX1 hown hAm hP (by omega) (zC_s (by omega)) rfl (by decide) (hts (.fieldLink RX1 15 "CosineSeries$Series" "top" "I") (by decide +kernel)) (by first | rfl | simp [va_up, *]) dX1_becomeAntiderivative_12 ?_
      refine lv_iconst (v := nI 1) hx hb dX1_becomeAntiderivative_15 (by decide +kernel) ?_
      refine ziadd (d := ((top a) + 1)) hx hb (by omega) dX1_becomeAntiderivative_16 ?_
      refine zi_gt (tgt := 103) hx hb dX1_becomeAntiderivative_17 (by decide) (by omega) (by omega) (fun c1 => ?_) (fun c1 => ?_)
      ·
        have hmt : m1 = top a + 1 := by omega
        refine lv_aload_n hx hb dX1_becomeAntiderivative_103 rfl (lv_at hl 0 rfl) ?_
        refine lv_iconst (v := nI 0) hx hb dX1_becomeAntiderivative_104 (by decide +kernel) ?_
        refine lv_lload_n hx hb dX1_becomeAntiderivative_105 rfl (lv_at hl 2 rfl) ?_
        refine lv_lneg hx hb dX1_becomeAntiderivative_106 ?_
        refine zcallV (As := [.int (nI 0), .long (-u)]) (rest := []) (q := i) (k := 2) hx hb hml hown hts (kX1_put l D cL cI cR A F hF (va_up T i f) (va_up top i 0) Z i (by omega) 0 (by omega) (-u) (va_up T i (vp_updL f 0 (-u))) (by first | rfl | simp only [bx_uu, va_up_eq])) gX1_becomeAntiderivative_X1_put rfl (by decide +kernel) ⟨Nat.le_of_ble_eq_true rfl, Nat.le_of_ble_eq_true rfl⟩ rfl (by omega) (zC_s (by omega)) rfl rfl hAm hP hS rfl hl.1 rfl (Nat.le_of_ble_eq_true rfl) dX1_becomeAntiderivative_107 ⟨Nat.zero_le _, Nat.zero_le _⟩ (zkn (fun H locs hP hS => ?_))
        refine W.eq (g2 := F0 m 110 ls []) rfl ?_
        have hP : va_P D vwCl (zq_wd F 30 (zCE cL cR F (va_up T i f2) (va_up top i 0) Z)) H := zC_extT hP (zupx (fun j hj => by rw [hf2]; unfold vp_updL zant; by_cases h0 : j = 0; (rw [if_pos h0, if_pos h0, hu, hmt]); (rw [if_neg h0, if_neg h0, hf j hj, hmt]; by_cases h : j ≤ top a + 1; (rw [if_pos (by omega), if_pos h]); (rw [if_neg (by omega), if_neg h]))))
        refine lv_aload_n hx hb dX1_becomeAntiderivative_110 rfl (lv_at hl 0 rfl) ?_
        refine zcallV (As := []) (rest := []) (q := i) (k := 0) hx hb hml hown hts (kX1_trim l D cL cI cR A F hF (va_up T i f2) (va_up top i 0) Z i (by omega) f2 (by first | rfl | simp [va_up, *]) (va_up top i (ztop f2 48)) (by first | rfl | simp only [bx_uu])) gX1_becomeAntiderivative_X1_trim rfl (by decide +kernel) ⟨Nat.le_of_ble_eq_true rfl, Nat.le_of_ble_eq_true rfl⟩ rfl (by omega) (zC_s (by omega)) rfl rfl hAm hP hS rfl hl.1 rfl (Nat.le_of_ble_eq_true rfl) dX1_becomeAntiderivative_111 ⟨Nat.zero_le _, Nat.zero_le _⟩ (zkn (fun H locs hP hS => ?_))
        refine W.eq (g2 := F0 m 114 ls []) rfl ?_
        exact zretV hx hb hr hlk hS hP dX1_becomeAntiderivative_114 ⟨rfl, rfl⟩
      ·
        refine lv_iload hx hb dX1_becomeAntiderivative_20 (lv_at hl 3 rfl) ?_
        refine lv_iconst (v := nI 1) hx hb dX1_becomeAntiderivative_22 (by decide +kernel) ?_
        refine zi_ne (tgt := 38) hx hb dX1_becomeAntiderivative_23 (by decide) (by omega) (by omega) (fun c2 => ?_) (fun c2 => ?_)
        ·
          have hbe : T a m1 = (if m1 + 1 = 1 then 2 * T a 0 else T a (m1 + 1 - 1)) := by rw [if_neg (by omega)]; rfl
          refine lv_aload_n hx hb dX1_becomeAntiderivative_38 rfl (lv_at hl 1 rfl) ?_
          refine lv_iload hx hb dX1_becomeAntiderivative_39 (lv_at hl 3 rfl) ?_
          refine lv_iconst (v := nI 1) hx hb dX1_becomeAntiderivative_41 (by decide +kernel) ?_
          refine zisub (d := m1) hx hb (by omega) dX1_becomeAntiderivative_42 ?_
          refine zcallV (As := [.int (nI m1)]) (rest := []) (q := a) (k := 1) hx hb hml hown hts (kX1_at l D cL cI cR A F hF (va_up T i f) (va_up top i 0) Z a ha m1 (by omega) (T a m1) (by simp [va_up, hai])) gX1_becomeAntiderivative_X1_at rfl (by decide +kernel) ⟨Nat.le_of_ble_eq_true rfl, Nat.le_of_ble_eq_true rfl⟩ rfl (by omega) (zC_s (by omega)) rfl rfl hAm hP hS rfl hl.1 rfl (Nat.le_of_ble_eq_true rfl) dX1_becomeAntiderivative_43 ⟨Nat.zero_le _, Nat.zero_le _⟩ (zkn (fun H locs hP hS => ?_))
          refine W.eq (g2 := F0 m 46 ls [.long (T a m1)]) rfl ?_
          refine W.eq (g2 := F0 m 46 ls [.long (if m1 + 1 = 1 then 2 * T a 0 else T a (m1 + 1 - 1))]) (by rw [← hbe]) ?_
          refine lv_lstore (lv' := [(5, .long (if m1 + 1 = 1 then 2 * T a 0 else T a (m1 + 1 - 1))), (0, .ref (F i)), (1, .ref (F a)), (2, .long u), (4, .int (nI (m1 + 1)))]) hx hb dX1_becomeAntiderivative_46 hl (by decide) rfl (fun ls hl => ?_)
          refine lv_lload hx hb dX1_becomeAntiderivative_48 (lv_at hl 0 rfl) ?_
          refine lv_aload_n hx hb dX1_becomeAntiderivative_50 rfl (lv_at hl 2 rfl) ?_
          refine lv_iload hx hb dX1_becomeAntiderivative_51 (lv_at hl 4 rfl) ?_
          refine lv_iconst (v := nI 1) hx hb dX1_becomeAntiderivative_53 (by decide +kernel) ?_
          refine ziadd (d := (m1 + 2)) hx hb (by omega) dX1_becomeAntiderivative_54 ?_
          refine zcallV (As := [.int (nI (m1 + 2))]) (rest := [.long (if m1 + 1 = 1 then 2 * T a 0 else T a (m1 + 1 - 1))]) (q := a) (k := 1) hx hb hml hown hts (kX1_at l D cL cI cR A F hF (va_up T i f) (va_up top i 0) Z a ha (m1 + 2) (by omega) (T a (m1 + 1 + 1)) (by simp [va_up, hai])) gX1_becomeAntiderivative_X1_at rfl (by decide +kernel) ⟨Nat.le_of_ble_eq_true rfl, Nat.le_of_ble_eq_true rfl⟩ rfl (by omega) (zC_s (by omega)) rfl rfl hAm hP hS rfl hl.1 rfl (Nat.le_of_ble_eq_true rfl) dX1_becomeAntiderivative_55 ⟨Nat.zero_le _, Nat.zero_le _⟩ (zkn (fun H locs hP hS => ?_))
          refine W.eq (g2 := F0 m 58 ls [.long (T a (m1 + 1 + 1)), .long (if m1 + 1 = 1 then 2 * T a 0 else T a (m1 + 1 - 1))]) rfl ?_
          refine lv_lsub hx hb dX1_becomeAntiderivative_58 ?_
          refine lv_ldc2 hx hb hown (hts (.constantLong RX1 41 (2)) (by decide +kernel)) dX1_becomeAntiderivative_59 ?_
          refine lv_iload hx hb dX1_becomeAntiderivative_62 (lv_at hl 4 rfl) ?_
          refine zi2l hx hb (by omega) dX1_becomeAntiderivative_64 ?_
          refine lv_lmul hx hb dX1_becomeAntiderivative_65 ?_
          obtain ⟨z0, hz0⟩ : ∃ z0 : Int64, z0 = ztm (T a) (m1 + 1) := ⟨_, rfl⟩
          have htm := hz0
          refine zcallN (As := [.long ((if m1 + 1 = 1 then 2 * T a 0 else T a (m1 + 1 - 1)) - (T a (m1 + 1 + 1))), .long ((2 : Int64) * (lN (m1 + 1)))]) (rest := []) (k := 2) hx hb hml hown hts (kX2_rounded l D cL cI cR A F 30 (zCE cL cR F (va_up T i f) (va_up top i 0) Z) ((if m1 + 1 = 1 then 2 * T a 0 else T a (m1 + 1 - 1)) - T a (m1 + 1 + 1)) (2 * lN (m1 + 1)) (zl2pos (by omega) (by omega))) gX1_becomeAntiderivative_X2_rounded_n45 rfl hAm.2.1 (hts (.initialized RX2) (by decide +kernel)) (hts (.static yX2_rounded) (by decide +kernel)) (by decide +kernel) ⟨Nat.le_of_ble_eq_true rfl, Nat.le_of_ble_eq_true rfl⟩ hAm hP hS rfl hl.1 rfl (Nat.le_of_ble_eq_true rfl) dX1_becomeAntiderivative_66 ⟨Nat.zero_le _, Nat.zero_le _⟩ (zkn (fun H locs hP hS => ?_))
          refine W.eq (g2 := F0 m 69 ls [.long (ztm (T a) (m1 + 1))]) rfl ?_
          refine lv_lstore (lv' := [(7, .long (ztm (T a) (m1 + 1))), (5, .long (if m1 + 1 = 1 then 2 * T a 0 else T a (m1 + 1 - 1))), (0, .ref (F i)), (1, .ref (F a)), (2, .long u), (4, .int (nI (m1 + 1)))]) hx hb dX1_becomeAntiderivative_69 hl (by decide) rfl (fun ls hl => ?_)
          have hl : lv_has ls 9 [(7, .long z0), (5, .long (if m1 + 1 = 1 then 2 * T a 0 else T a (m1 + 1 - 1))), (0, .ref (F i)), (1, .ref (F a)), (2, .long u), (4, .int (nI (m1 + 1)))] := by rw [hz0]; exact hl
          refine lv_aload_n hx hb dX1_becomeAntiderivative_71 rfl (lv_at hl 2 rfl) ?_
          refine lv_iload hx hb dX1_becomeAntiderivative_72 (lv_at hl 5 rfl) ?_
          refine lv_lload hx hb dX1_becomeAntiderivative_74 (lv_at hl 0 rfl) ?_
          refine zcallV (As := [.int (nI (m1 + 1)), .long z0]) (rest := []) (q := i) (k := 2) hx hb hml hown hts (kX1_put l D cL cI cR A F hF (va_up T i f) (va_up top i 0) Z i (by omega) (m1 + 1) (by omega) z0 (va_up T i (vp_updL f (m1 + 1) z0)) (by first | rfl | simp only [bx_uu, va_up_eq])) gX1_becomeAntiderivative_X1_put rfl (by decide +kernel) ⟨Nat.le_of_ble_eq_true rfl, Nat.le_of_ble_eq_true rfl⟩ rfl (by omega) (zC_s (by omega)) rfl rfl hAm hP hS rfl hl.1 rfl (Nat.le_of_ble_eq_true rfl) dX1_becomeAntiderivative_76 ⟨Nat.zero_le _, Nat.zero_le _⟩ (zkn (fun H locs hP hS => ?_))
          refine W.eq (g2 := F0 m 79 ls []) rfl ?_
          refine lv_lload_n hx hb dX1_becomeAntiderivative_79 rfl (lv_at hl 4 rfl) ?_
          refine lv_iload hx hb dX1_becomeAntiderivative_80 (lv_at hl 5 rfl) ?_
          refine lv_iconst (v := nI 2) hx hb dX1_becomeAntiderivative_82 (by decide +kernel) ?_
          refine lv_irem hx hb dX1_becomeAntiderivative_83 (znI_ne (by omega) (by omega)) ?_
          refine W.eq (g2 := F0 m 84 ls [.int (nI ((m1 + 1) % 2)), .long u]) (by rw [zrem2 (by omega)]) ?_
          refine zf_ne (tgt := 92) hx hb dX1_becomeAntiderivative_84 (by decide) (by omega) (fun c3 => ?_) (fun c3 => ?_)
          ·
            refine lv_lload hx hb dX1_becomeAntiderivative_92 (lv_at hl 0 rfl) ?_
            refine lv_lneg hx hb dX1_becomeAntiderivative_94 ?_
            refine lv_ladd hx hb dX1_becomeAntiderivative_95 ?_
            refine lv_lstore_n (lv' := [(2, .long (u + (-z0))), (7, .long z0), (5, .long (if m1 + 1 = 1 then 2 * T a 0 else T a (m1 + 1 - 1))), (0, .ref (F i)), (1, .ref (F a)), (4, .int (nI (m1 + 1)))]) hx hb dX1_becomeAntiderivative_96 rfl hl (by decide) rfl (fun ls hl => ?_)
            refine lv_iinc (v := (nI (m1 + 2))) (lv' := [(4, .int (nI (m1 + 2))), (2, .long (u + (-z0))), (7, .long z0), (5, .long (if m1 + 1 = 1 then 2 * T a 0 else T a (m1 + 1 - 1))), (0, .ref (F i)), (1, .ref (F a))]) hx hb dX1_becomeAntiderivative_97 hl (k := 5) rfl (zinc (by omega)) (by decide) rfl (fun ls hl => ?_)
            refine lv_goto (tgt := 9) hx hb dX1_becomeAntiderivative_100 (by decide) ?_
            exact ih9 (m1 + 1) _ (u + (-z0)) (by omega) (fun j hj => by unfold vp_updL; split; (rename_i h; rw [h, if_pos (by omega), ← htm]); (rw [hf j hj]; by_cases h : 1 ≤ j ∧ j ≤ m1; (rw [if_pos h, if_pos (by omega)]); (rw [if_neg h, if_neg (by omega)]))) (by simp only [zsgn]; rw [hu, ← htm]; first | rw [if_pos (by omega)] | rw [if_neg (by omega)]) (by omega) H _ hP hS ls (lv_sub hl [4, 5, 1, 0] rfl)
          ·
            refine lv_lload hx hb dX1_becomeAntiderivative_87 (lv_at hl 0 rfl) ?_
            refine lv_goto (tgt := 95) hx hb dX1_becomeAntiderivative_89 (by decide) ?_
            refine lv_ladd hx hb dX1_becomeAntiderivative_95 ?_
            refine lv_lstore_n (lv' := [(2, .long (u + z0)), (7, .long z0), (5, .long (if m1 + 1 = 1 then 2 * T a 0 else T a (m1 + 1 - 1))), (0, .ref (F i)), (1, .ref (F a)), (4, .int (nI (m1 + 1)))]) hx hb dX1_becomeAntiderivative_96 rfl hl (by decide) rfl (fun ls hl => ?_)
            refine lv_iinc (v := (nI (m1 + 2))) (lv' := [(4, .int (nI (m1 + 2))), (2, .long (u + z0)), (7, .long z0), (5, .long (if m1 + 1 = 1 then 2 * T a 0 else T a (m1 + 1 - 1))), (0, .ref (F i)), (1, .ref (F a))]) hx hb dX1_becomeAntiderivative_97 hl (k := 5) rfl (zinc (by omega)) (by decide) rfl (fun ls hl => ?_)
            refine lv_goto (tgt := 9) hx hb dX1_becomeAntiderivative_100 (by decide) ?_
            exact ih9 (m1 + 1) _ (u + z0) (by omega) (fun j hj => by unfold vp_updL; split; (rename_i h; rw [h, if_pos (by omega), ← htm]); (rw [hf j hj]; by_cases h : 1 ≤ j ∧ j ≤ m1; (rw [if_pos h, if_pos (by omega)]); (rw [if_neg h, if_neg (by omega)]))) (by simp only [zsgn]; rw [hu, ← htm]; first | rw [if_pos (by omega)] | rw [if_neg (by omega)]) (by omega) H _ hP hS ls (lv_sub hl [4, 5, 1, 0] rfl)
        ·
          have hbe : 2 * T a 0 = (if m1 + 1 = 1 then 2 * T a 0 else T a (m1 + 1 - 1)) := by rw [if_pos (by omega)]
          refine lv_ldc2 hx hb hown (hts (.constantLong RX1 41 (2)) (by decide +kernel)) dX1_becomeAntiderivative_26 ?_
          refine lv_aload_n hx hb dX1_becomeAntiderivative_29 rfl (lv_at hl 1 rfl) ?_
          refine lv_iconst (v := nI 0) hx hb dX1_becomeAntiderivative_30 (by decide +kernel) ?_
          refine zcallV (As := [.int (nI 0)]) (rest := [.long (2 : Int64)]) (q := a) (k := 1) hx hb hml hown hts (kX1_at l D cL cI cR A F hF (va_up T i f) (va_up top i 0) Z a ha 0 (by omega) (T a 0) (by simp [va_up, hai])) gX1_becomeAntiderivative_X1_at rfl (by decide +kernel) ⟨Nat.le_of_ble_eq_true rfl, Nat.le_of_ble_eq_true rfl⟩ rfl (by omega) (zC_s (by omega)) rfl rfl hAm hP hS rfl hl.1 rfl (Nat.le_of_ble_eq_true rfl) dX1_becomeAntiderivative_31 ⟨Nat.zero_le _, Nat.zero_le _⟩ (zkn (fun H locs hP hS => ?_))
          refine W.eq (g2 := F0 m 34 ls [.long (T a 0), .long (2 : Int64)]) rfl ?_
          refine lv_lmul hx hb dX1_becomeAntiderivative_34 ?_
          refine lv_goto (tgt := 46) hx hb dX1_becomeAntiderivative_35 (by decide) ?_
          refine W.eq (g2 := F0 m 46 ls [.long (if m1 + 1 = 1 then 2 * T a 0 else T a (m1 + 1 - 1))]) (by rw [← hbe]) ?_
          refine lv_lstore (lv' := [(5, .long (if m1 + 1 = 1 then 2 * T a 0 else T a (m1 + 1 - 1))), (0, .ref (F i)), (1, .ref (F a)), (2, .long u), (4, .int (nI (m1 + 1)))]) hx hb dX1_becomeAntiderivative_46 hl (by decide) rfl (fun ls hl => ?_)
          refine lv_lload hx hb dX1_becomeAntiderivative_48 (lv_at hl 0 rfl) ?_
          refine lv_aload_n hx hb dX1_becomeAntiderivative_50 rfl (lv_at hl 2 rfl) ?_
          refine lv_iload hx hb dX1_becomeAntiderivative_51 (lv_at hl 4 rfl) ?_
          refine lv_iconst (v := nI 1) hx hb dX1_becomeAntiderivative_53 (by decide +kernel) ?_
          refine ziadd (d := (m1 + 2)) hx hb (by omega) dX1_becomeAntiderivative_54 ?_
          refine zcallV (As := [.int (nI (m1 + 2))]) (rest := [.long (if m1 + 1 = 1 then 2 * T a 0 else T a (m1 + 1 - 1))]) (q := a) (k := 1) hx hb hml hown hts (kX1_at l D cL cI cR A F hF (va_up T i f) (va_up top i 0) Z a ha (m1 + 2) (by omega) (T a (m1 + 1 + 1)) (by simp [va_up, hai])) gX1_becomeAntiderivative_X1_at rfl (by decide +kernel) ⟨Nat.le_of_ble_eq_true rfl, Nat.le_of_ble_eq_true rfl⟩ rfl (by omega) (zC_s (by omega)) rfl rfl hAm hP hS rfl hl.1 rfl (Nat.le_of_ble_eq_true rfl) dX1_becomeAntiderivative_55 ⟨Nat.zero_le _, Nat.zero_le _⟩ (zkn (fun H locs hP hS => ?_))
          refine W.eq (g2 := F0 m 58 ls [.long (T a (m1 + 1 + 1)), .long (if m1 + 1 = 1 then 2 * T a 0 else T a (m1 + 1 - 1))]) rfl ?_
          refine lv_lsub hx hb dX1_becomeAntiderivative_58 ?_
          refine lv_ldc2 hx hb hown (hts (.constantLong RX1 41 (2)) (by decide +kernel)) dX1_becomeAntiderivative_59 ?_
          refine lv_iload hx hb dX1_becomeAntiderivative_62 (lv_at hl 4 rfl) ?_
          refine zi2l hx hb (by omega) dX1_becomeAntiderivative_64 ?_
          refine lv_lmul hx hb dX1_becomeAntiderivative_65 ?_
          obtain ⟨z0, hz0⟩ : ∃ z0 : Int64, z0 = ztm (T a) (m1 + 1) := ⟨_, rfl⟩
          have htm := hz0
          refine zcallN (As := [.long ((if m1 + 1 = 1 then 2 * T a 0 else T a (m1 + 1 - 1)) - (T a (m1 + 1 + 1))), .long ((2 : Int64) * (lN (m1 + 1)))]) (rest := []) (k := 2) hx hb hml hown hts (kX2_rounded l D cL cI cR A F 30 (zCE cL cR F (va_up T i f) (va_up top i 0) Z) ((if m1 + 1 = 1 then 2 * T a 0 else T a (m1 + 1 - 1)) - T a (m1 + 1 + 1)) (2 * lN (m1 + 1)) (zl2pos (by omega) (by omega))) gX1_becomeAntiderivative_X2_rounded_n45 rfl hAm.2.1 (hts (.initialized RX2) (by decide +kernel)) (hts (.static yX2_rounded) (by decide +kernel)) (by decide +kernel) ⟨Nat.le_of_ble_eq_true rfl, Nat.le_of_ble_eq_true rfl⟩ hAm hP hS rfl hl.1 rfl (Nat.le_of_ble_eq_true rfl) dX1_becomeAntiderivative_66 ⟨Nat.zero_le _, Nat.zero_le _⟩ (zkn (fun H locs hP hS => ?_))
          refine W.eq (g2 := F0 m 69 ls [.long (ztm (T a) (m1 + 1))]) rfl ?_
          refine lv_lstore (lv' := [(7, .long (ztm (T a) (m1 + 1))), (5, .long (if m1 + 1 = 1 then 2 * T a 0 else T a (m1 + 1 - 1))), (0, .ref (F i)), (1, .ref (F a)), (2, .long u), (4, .int (nI (m1 + 1)))]) hx hb dX1_becomeAntiderivative_69 hl (by decide) rfl (fun ls hl => ?_)
          have hl : lv_has ls 9 [(7, .long z0), (5, .long (if m1 + 1 = 1 then 2 * T a 0 else T a (m1 + 1 - 1))), (0, .ref (F i)), (1, .ref (F a)), (2, .long u), (4, .int (nI (m1 + 1)))] := by rw [hz0]; exact hl
          refine lv_aload_n hx hb dX1_becomeAntiderivative_71 rfl (lv_at hl 2 rfl) ?_
          refine lv_iload hx hb dX1_becomeAntiderivative_72 (lv_at hl 5 rfl) ?_
          refine lv_lload hx hb dX1_becomeAntiderivative_74 (lv_at hl 0 rfl) ?_
          refine zcallV (As := [.int (nI (m1 + 1)), .long z0]) (rest := []) (q := i) (k := 2) hx hb hml hown hts (kX1_put l D cL cI cR A F hF (va_up T i f) (va_up top i 0) Z i (by omega) (m1 + 1) (by omega) z0 (va_up T i (vp_updL f (m1 + 1) z0)) (by first | rfl | simp only [bx_uu, va_up_eq])) gX1_becomeAntiderivative_X1_put rfl (by decide +kernel) ⟨Nat.le_of_ble_eq_true rfl, Nat.le_of_ble_eq_true rfl⟩ rfl (by omega) (zC_s (by omega)) rfl rfl hAm hP hS rfl hl.1 rfl (Nat.le_of_ble_eq_true rfl) dX1_becomeAntiderivative_76 ⟨Nat.zero_le _, Nat.zero_le _⟩ (zkn (fun H locs hP hS => ?_))
          refine W.eq (g2 := F0 m 79 ls []) rfl ?_
          refine lv_lload_n hx hb dX1_becomeAntiderivative_79 rfl (lv_at hl 4 rfl) ?_
          refine lv_iload hx hb dX1_becomeAntiderivative_80 (lv_at hl 5 rfl) ?_
          refine lv_iconst (v := nI 2) hx hb dX1_becomeAntiderivative_82 (by decide +kernel) ?_
          refine lv_irem hx hb dX1_becomeAntiderivative_83 (znI_ne (by omega) (by omega)) ?_
          refine W.eq (g2 := F0 m 84 ls [.int (nI ((m1 + 1) % 2)), .long u]) (by rw [zrem2 (by omega)]) ?_
          refine zf_ne (tgt := 92) hx hb dX1_becomeAntiderivative_84 (by decide) (by omega) (fun c4 => ?_) (fun c4 => ?_)
          ·
            refine lv_lload hx hb dX1_becomeAntiderivative_92 (lv_at hl 0 rfl) ?_
            refine lv_lneg hx hb dX1_becomeAntiderivative_94 ?_
            refine lv_ladd hx hb dX1_becomeAntiderivative_95 ?_
            refine lv_lstore_n (lv' := [(2, .long (u + (-z0))), (7, .long z0), (5, .long (if m1 + 1 = 1 then 2 * T a 0 else T a (m1 + 1 - 1))), (0, .ref (F i)), (1, .ref (F a)), (4, .int (nI (m1 + 1)))]) hx hb dX1_becomeAntiderivative_96 rfl hl (by decide) rfl (fun ls hl => ?_)
            refine lv_iinc (v := (nI (m1 + 2))) (lv' := [(4, .int (nI (m1 + 2))), (2, .long (u + (-z0))), (7, .long z0), (5, .long (if m1 + 1 = 1 then 2 * T a 0 else T a (m1 + 1 - 1))), (0, .ref (F i)), (1, .ref (F a))]) hx hb dX1_becomeAntiderivative_97 hl (k := 5) rfl (zinc (by omega)) (by decide) rfl (fun ls hl => ?_)
            refine lv_goto (tgt := 9) hx hb dX1_becomeAntiderivative_100 (by decide) ?_
            exact ih9 (m1 + 1) _ (u + (-z0)) (by omega) (fun j hj => by unfold vp_updL; split; (rename_i h; rw [h, if_pos (by omega), ← htm]); (rw [hf j hj]; by_cases h : 1 ≤ j ∧ j ≤ m1; (rw [if_pos h, if_pos (by omega)]); (rw [if_neg h, if_neg (by omega)]))) (by simp only [zsgn]; rw [hu, ← htm]; first | rw [if_pos (by omega)] | rw [if_neg (by omega)]) (by omega) H _ hP hS ls (lv_sub hl [4, 5, 1, 0] rfl)
          ·
            refine lv_lload hx hb dX1_becomeAntiderivative_87 (lv_at hl 0 rfl) ?_
            refine lv_goto (tgt := 95) hx hb dX1_becomeAntiderivative_89 (by decide) ?_
            refine lv_ladd hx hb dX1_becomeAntiderivative_95 ?_
            refine lv_lstore_n (lv' := [(2, .long (u + z0)), (7, .long z0), (5, .long (if m1 + 1 = 1 then 2 * T a 0 else T a (m1 + 1 - 1))), (0, .ref (F i)), (1, .ref (F a)), (4, .int (nI (m1 + 1)))]) hx hb dX1_becomeAntiderivative_96 rfl hl (by decide) rfl (fun ls hl => ?_)
            refine lv_iinc (v := (nI (m1 + 2))) (lv' := [(4, .int (nI (m1 + 2))), (2, .long (u + z0)), (7, .long z0), (5, .long (if m1 + 1 = 1 then 2 * T a 0 else T a (m1 + 1 - 1))), (0, .ref (F i)), (1, .ref (F a))]) hx hb dX1_becomeAntiderivative_97 hl (k := 5) rfl (zinc (by omega)) (by decide) rfl (fun ls hl => ?_)
            refine lv_goto (tgt := 9) hx hb dX1_becomeAntiderivative_100 (by decide) ?_
            exact ih9 (m1 + 1) _ (u + z0) (by omega) (fun j hj => by unfold vp_updL; split; (rename_i h; rw [h, if_pos (by omega), ← htm]); (rw [hf j hj]; by_cases h : 1 ≤ j ∧ j ≤ m1; (rw [if_pos h, if_pos (by omega)]); (rw [if_neg h, if_neg (by omega)]))) (by simp only [zsgn]; rw [hu, ← htm]; first | rw [if_pos (by omega)] | rw [if_neg (by omega)]) (by omega) H _ hP hS ls (lv_sub hl [4, 5, 1, 0] rfl)
  exact L9 _ 0 _ 0 (by omega) (fun j _ => by rw [if_neg (by omega)]) rfl (Nat.lt_succ_self _) H _ hP hS ls (lv_sub hl [2, 3, 1, 0] rfl)

set_option maxHeartbeats 4000000 in
set_option maxRecDepth 100000 in
theorem kX1_becomeQuotient (l : Launch) (D : va_G) (cL cI cR : ClassId) (A : Nat → Prop) (F : Nat → Nat) (hF : zq_F A F 30) (T : Nat → Nat → Int64) (top : Nat → Nat) (Z : zZC) (i : Nat) (hi : i < 12) (a : Nat) (ha : a < 12) (hai : ¬ a = i) (hna : top a ≤ 24) (r0 : Int64) (f2 : Nat → Int64) (hf2 : f2 = zquo (T a) (top a) r0) : zCt l yX1_becomeQuotient wsX1_becomeQuotient 2 52 D cL cI cR A F 30 (zCE cL cR F T top Z) [.ref (F i), .ref (F a), .long r0] (fun v2 E2 => v2 = none ∧ E2 = (zCE cL cR F (va_up T i f2) (va_up top i (ztop f2 48)) Z)) := by
  refine zStart (cc := cX1_becomeQuotient) (maxL := 5) (ret := none) (by decide +kernel) rfl (Nat.le_of_ble_eq_true rfl) ?_
  intro p e s m below meth c hx hb hr hml hlk hown hts hAm H hP hS ls hl
  have hown : s.vm.findClass RX1 = some m.cls := hown
  have hl : lv_has ls 5 [(0, .ref (F i)), (1, .ref (F a)), (2, .long r0)] := hl
  have hinX1 : ∀ w ∈ u_ws RX1 TX1 2, w ∈ wsX1_becomeQuotient := by decide +kernel
  refine lv_aload_n hx hb dX1_becomeQuotient_0 rfl (lv_at hl 0 rfl) ?_
  refine zcallV (As := []) (rest := []) (q := i) (k := 0) hx hb hml hown hts (kX1_clear l D cL cI cR A F hF T top Z i (by omega)) gX1_becomeQuotient_X1_clear rfl (by decide +kernel) ⟨Nat.le_of_ble_eq_true rfl, Nat.le_of_ble_eq_true rfl⟩ rfl (by omega) (zC_s (by omega)) rfl rfl hAm hP hS rfl hl.1 rfl (Nat.le_of_ble_eq_true rfl) dX1_becomeQuotient_1 ⟨Nat.zero_le _, Nat.zero_le _⟩ (zkn (fun H locs hP hS => ?_))
  refine W.eq (g2 := F0 m 4 ls []) rfl ?_
  refine lv_aload_n hx hb dX1_becomeQuotient_4 rfl (lv_at hl 1 rfl) ?_
  refine zget (q := a) (k := 1) (v := .int (nI (top a))) hx hb hts hinX1 hown hAm hP (by omega) (zC_s (by omega)) rfl (by decide) (hts (.fieldLink RX1 15 "CosineSeries$Series" "top" "I") (by decide +kernel)) (by first | rfl | simp [va_up, *]) dX1_becomeQuotient_5 ?_
  refine lv_istore (lv' := [(4, .int (nI (top a))), (0, .ref (F i)), (1, .ref (F a)), (2, .long r0)]) hx hb dX1_becomeQuotient_8 hl (by decide) rfl (fun ls hl => ?_)
  have L10 : ∀ (n : Nat) (k : Nat) (f : Nat → Int64) (hk : k ≤ 24) (hf : zquoF (T a) r0 k f = zquoF (T a) r0 (top a) (fun _ => 0)) (hn : k < n) (H : Heap) (locs : List Loc), va_P D vwCl (zq_wd F 30 (zCE cL cR F (va_up T i f) (va_up top i 0) Z)) H → va_S A s.heap H locs → ∀ (ls : Array Slot), lv_has ls 5 [(0, .ref (F i)), (1, .ref (F a)), (2, .long r0), (4, .int (nI k))] → W p l e ({ frames := 2, cells := 0, slots := 0, locals := 52 }) s m ([.ref (F i), .ref (F a), .long r0] : List Value).toArray below meth c H locs 0 0 (zQ below D A F 30 [.ref (F i), .ref (F a), .long r0] s (fun v2 E2 => v2 = none ∧ E2 = (zCE cL cR F (va_up T i f2) (va_up top i (ztop f2 48)) Z))) (F0 m 10 ls []) := by
    intro n
    induction n with
    | zero =>
      intro k f hk hf hn
      exact absurd hn (Nat.not_lt_zero _)
    | succ n ih10 =>
      intro k f hk hf hn H locs hP hS ls hl
      refine lv_iload hx hb dX1_becomeQuotient_10 (lv_at hl 3 rfl) ?_
      refine lv_iconst (v := nI 2) hx hb dX1_becomeQuotient_12 (by decide +kernel) ?_
      refine zi_lt (tgt := 68) hx hb dX1_becomeQuotient_13 (by decide) (by omega) (by omega) (fun c1 => ?_) (fun c1 => ?_)
      ·
        have hf1 : zquoF (T a) r0 k f = f := by
          have h2 : k = 0 ∨ k = 1 := by omega
          rcases h2 with h2 | h2 <;> rw [h2] <;> rfl
        rw [hf1] at hf
        refine lv_aload_n hx hb dX1_becomeQuotient_68 rfl (lv_at hl 0 rfl) ?_
        refine lv_iconst (v := nI 0) hx hb dX1_becomeQuotient_69 (by decide +kernel) ?_
        refine lv_aload_n hx hb dX1_becomeQuotient_70 rfl (lv_at hl 1 rfl) ?_
        refine lv_iconst (v := nI 1) hx hb dX1_becomeQuotient_71 (by decide +kernel) ?_
        refine zcallV (As := [.int (nI 1)]) (rest := [.int (nI 0), .ref (F i)]) (q := a) (k := 1) hx hb hml hown hts (kX1_at l D cL cI cR A F hF (va_up T i f) (va_up top i 0) Z a ha 1 (by omega) (T a 1) (by simp [va_up, hai])) gX1_becomeQuotient_X1_at rfl (by decide +kernel) ⟨Nat.le_of_ble_eq_true rfl, Nat.le_of_ble_eq_true rfl⟩ rfl (by omega) (zC_s (by omega)) rfl rfl hAm hP hS rfl hl.1 rfl (Nat.le_of_ble_eq_true rfl) dX1_becomeQuotient_72 ⟨Nat.zero_le _, Nat.zero_le _⟩ (zkn (fun H locs hP hS => ?_))
        refine W.eq (g2 := F0 m 75 ls [.long (T a 1), .int (nI 0), .ref (F i)]) rfl ?_
        refine lv_lload_n hx hb dX1_becomeQuotient_75 rfl (lv_at hl 2 rfl) ?_
        refine lv_aload_n hx hb dX1_becomeQuotient_76 rfl (lv_at hl 0 rfl) ?_
        refine lv_iconst (v := nI 1) hx hb dX1_becomeQuotient_77 (by decide +kernel) ?_
        refine zcallV (As := [.int (nI 1)]) (rest := [.long r0, .long (T a 1), .int (nI 0), .ref (F i)]) (q := i) (k := 1) hx hb hml hown hts (kX1_at l D cL cI cR A F hF (va_up T i f) (va_up top i 0) Z i (by omega) 1 (by omega) (f 1) (by first | rfl | simp [va_up, *])) gX1_becomeQuotient_X1_at rfl (by decide +kernel) ⟨Nat.le_of_ble_eq_true rfl, Nat.le_of_ble_eq_true rfl⟩ rfl (by omega) (zC_s (by omega)) rfl rfl hAm hP hS rfl hl.1 rfl (Nat.le_of_ble_eq_true rfl) dX1_becomeQuotient_78 ⟨Nat.zero_le _, Nat.zero_le _⟩ (zkn (fun H locs hP hS => ?_))
        refine W.eq (g2 := F0 m 81 ls [.long (f 1), .long r0, .long (T a 1), .int (nI 0), .ref (F i)]) rfl ?_
        refine lv_lmul hx hb dX1_becomeQuotient_81 ?_
        refine lv_ldc2 hx hb hown (hts (.constantLong RX1 43 (1048576)) (by decide +kernel)) dX1_becomeQuotient_82 ?_
        refine zcallN (As := [.long (r0 * (f 1)), .long (1048576 : Int64)]) (rest := [.long (T a 1), .int (nI 0), .ref (F i)]) (k := 2) hx hb hml hown hts (kX2_rounded l D cL cI cR A F 30 (zCE cL cR F (va_up T i f) (va_up top i 0) Z) (r0 * (f 1)) (1048576 : Int64) (by decide)) gX1_becomeQuotient_X2_rounded_n45 rfl hAm.2.1 (hts (.initialized RX2) (by decide +kernel)) (hts (.static yX2_rounded) (by decide +kernel)) (by decide +kernel) ⟨Nat.le_of_ble_eq_true rfl, Nat.le_of_ble_eq_true rfl⟩ hAm hP hS rfl hl.1 rfl (Nat.le_of_ble_eq_true rfl) dX1_becomeQuotient_85 ⟨Nat.zero_le _, Nat.zero_le _⟩ (zkn (fun H locs hP hS => ?_))
        refine W.eq (g2 := F0 m 88 ls [.long (zR (r0 * (f 1)) (1048576 : Int64)), .long (T a 1), .int (nI 0), .ref (F i)]) rfl ?_
        refine lv_ladd hx hb dX1_becomeQuotient_88 ?_
        refine lv_aload_n hx hb dX1_becomeQuotient_89 rfl (lv_at hl 0 rfl) ?_
        refine lv_iconst (v := nI 2) hx hb dX1_becomeQuotient_90 (by decide +kernel) ?_
        refine zcallV (As := [.int (nI 2)]) (rest := [.long ((T a 1) + (zR (r0 * (f 1)) (1048576 : Int64))), .int (nI 0), .ref (F i)]) (q := i) (k := 1) hx hb hml hown hts (kX1_at l D cL cI cR A F hF (va_up T i f) (va_up top i 0) Z i (by omega) 2 (by omega) (f 2) (by first | rfl | simp [va_up, *])) gX1_becomeQuotient_X1_at rfl (by decide +kernel) ⟨Nat.le_of_ble_eq_true rfl, Nat.le_of_ble_eq_true rfl⟩ rfl (by omega) (zC_s (by omega)) rfl rfl hAm hP hS rfl hl.1 rfl (Nat.le_of_ble_eq_true rfl) dX1_becomeQuotient_91 ⟨Nat.zero_le _, Nat.zero_le _⟩ (zkn (fun H locs hP hS => ?_))
        refine W.eq (g2 := F0 m 94 ls [.long (f 2), .long ((T a 1) + (zR (r0 * (f 1)) (1048576 : Int64))), .int (nI 0), .ref (F i)]) rfl ?_
        refine lv_ldc2 hx hb hown (hts (.constantLong RX1 41 (2)) (by decide +kernel)) dX1_becomeQuotient_94 ?_
        refine zcallN (As := [.long (f 2), .long (2 : Int64)]) (rest := [.long ((T a 1) + (zR (r0 * (f 1)) (1048576 : Int64))), .int (nI 0), .ref (F i)]) (k := 2) hx hb hml hown hts (kX2_rounded l D cL cI cR A F 30 (zCE cL cR F (va_up T i f) (va_up top i 0) Z) (f 2) (2 : Int64) (by decide)) gX1_becomeQuotient_X2_rounded_n45 rfl hAm.2.1 (hts (.initialized RX2) (by decide +kernel)) (hts (.static yX2_rounded) (by decide +kernel)) (by decide +kernel) ⟨Nat.le_of_ble_eq_true rfl, Nat.le_of_ble_eq_true rfl⟩ hAm hP hS rfl hl.1 rfl (Nat.le_of_ble_eq_true rfl) dX1_becomeQuotient_97 ⟨Nat.zero_le _, Nat.zero_le _⟩ (zkn (fun H locs hP hS => ?_))
        refine W.eq (g2 := F0 m 100 ls [.long (zR (f 2) (2 : Int64)), .long ((T a 1) + (zR (r0 * (f 1)) (1048576 : Int64))), .int (nI 0), .ref (F i)]) rfl ?_
        refine lv_lsub hx hb dX1_becomeQuotient_100 ?_
        refine zcallV (As := [.int (nI 0), .long (((T a 1) + (zR (r0 * (f 1)) (1048576 : Int64))) - (zR (f 2) (2 : Int64)))]) (rest := []) (q := i) (k := 2) hx hb hml hown hts (kX1_put l D cL cI cR A F hF (va_up T i f) (va_up top i 0) Z i (by omega) 0 (by omega) (((T a 1) + (zR (r0 * (f 1)) (1048576 : Int64))) - (zR (f 2) (2 : Int64))) (va_up T i (vp_updL f 0 (((T a 1) + (zR (r0 * (f 1)) (1048576 : Int64))) - (zR (f 2) (2 : Int64))))) (by first | rfl | simp only [bx_uu, va_up_eq])) gX1_becomeQuotient_X1_put rfl (by decide +kernel) ⟨Nat.le_of_ble_eq_true rfl, Nat.le_of_ble_eq_true rfl⟩ rfl (by omega) (zC_s (by omega)) rfl rfl hAm hP hS rfl hl.1 rfl (Nat.le_of_ble_eq_true rfl) dX1_becomeQuotient_101 ⟨Nat.zero_le _, Nat.zero_le _⟩ (zkn (fun H locs hP hS => ?_))
        refine W.eq (g2 := F0 m 104 ls []) rfl ?_
        have hP : va_P D vwCl (zq_wd F 30 (zCE cL cR F (va_up T i f2) (va_up top i 0) Z)) H := by rw [hf2]; unfold zquo; rw [← hf]; exact hP
        refine lv_aload_n hx hb dX1_becomeQuotient_104 rfl (lv_at hl 0 rfl) ?_
        refine zcallV (As := []) (rest := []) (q := i) (k := 0) hx hb hml hown hts (kX1_trim l D cL cI cR A F hF (va_up T i f2) (va_up top i 0) Z i (by omega) f2 (by first | rfl | simp [va_up, *]) (va_up top i (ztop f2 48)) (by first | rfl | simp only [bx_uu])) gX1_becomeQuotient_X1_trim rfl (by decide +kernel) ⟨Nat.le_of_ble_eq_true rfl, Nat.le_of_ble_eq_true rfl⟩ rfl (by omega) (zC_s (by omega)) rfl rfl hAm hP hS rfl hl.1 rfl (Nat.le_of_ble_eq_true rfl) dX1_becomeQuotient_105 ⟨Nat.zero_le _, Nat.zero_le _⟩ (zkn (fun H locs hP hS => ?_))
        refine W.eq (g2 := F0 m 108 ls []) rfl ?_
        exact zretV hx hb hr hlk hS hP dX1_becomeQuotient_108 ⟨rfl, rfl⟩
      ·
        obtain ⟨k, rfl⟩ : ∃ j, k = j + 2 := ⟨k - 2, by omega⟩
        have hl : lv_has ls 5 [(0, .ref (F i)), (1, .ref (F a)), (2, .long r0), (4, .int (nI (k + 2)))] := by exact hl
        refine lv_aload_n hx hb dX1_becomeQuotient_16 rfl (lv_at hl 0 rfl) ?_
        refine lv_iload hx hb dX1_becomeQuotient_17 (lv_at hl 3 rfl) ?_
        refine lv_iconst (v := nI 1) hx hb dX1_becomeQuotient_19 (by decide +kernel) ?_
        refine zisub (d := (k + 1)) hx hb (by omega) dX1_becomeQuotient_20 ?_
        refine lv_ldc2 hx hb hown (hts (.constantLong RX1 41 (2)) (by decide +kernel)) dX1_becomeQuotient_21 ?_
        refine lv_aload_n hx hb dX1_becomeQuotient_24 rfl (lv_at hl 1 rfl) ?_
        refine lv_iload hx hb dX1_becomeQuotient_25 (lv_at hl 3 rfl) ?_
        refine zcallV (As := [.int (nI (k + 2))]) (rest := [.long (2 : Int64), .int (nI (k + 1)), .ref (F i)]) (q := a) (k := 1) hx hb hml hown hts (kX1_at l D cL cI cR A F hF (va_up T i f) (va_up top i 0) Z a ha (k + 2) (by omega) (T a (k + 2)) (by simp [va_up, hai])) gX1_becomeQuotient_X1_at rfl (by decide +kernel) ⟨Nat.le_of_ble_eq_true rfl, Nat.le_of_ble_eq_true rfl⟩ rfl (by omega) (zC_s (by omega)) rfl rfl hAm hP hS rfl hl.1 rfl (Nat.le_of_ble_eq_true rfl) dX1_becomeQuotient_27 ⟨Nat.zero_le _, Nat.zero_le _⟩ (zkn (fun H locs hP hS => ?_))
        refine W.eq (g2 := F0 m 30 ls [.long (T a (k + 2)), .long (2 : Int64), .int (nI (k + 1)), .ref (F i)]) rfl ?_
        refine lv_lmul hx hb dX1_becomeQuotient_30 ?_
        refine lv_ldc2 hx hb hown (hts (.constantLong RX1 41 (2)) (by decide +kernel)) dX1_becomeQuotient_31 ?_
        refine lv_lload_n hx hb dX1_becomeQuotient_34 rfl (lv_at hl 2 rfl) ?_
        refine lv_lmul hx hb dX1_becomeQuotient_35 ?_
        refine lv_aload_n hx hb dX1_becomeQuotient_36 rfl (lv_at hl 0 rfl) ?_
        refine lv_iload hx hb dX1_becomeQuotient_37 (lv_at hl 3 rfl) ?_
        refine zcallV (As := [.int (nI (k + 2))]) (rest := [.long ((2 : Int64) * r0), .long ((2 : Int64) * (T a (k + 2))), .int (nI (k + 1)), .ref (F i)]) (q := i) (k := 1) hx hb hml hown hts (kX1_at l D cL cI cR A F hF (va_up T i f) (va_up top i 0) Z i (by omega) (k + 2) (by omega) (f (k + 2)) (by first | rfl | simp [va_up, *])) gX1_becomeQuotient_X1_at rfl (by decide +kernel) ⟨Nat.le_of_ble_eq_true rfl, Nat.le_of_ble_eq_true rfl⟩ rfl (by omega) (zC_s (by omega)) rfl rfl hAm hP hS rfl hl.1 rfl (Nat.le_of_ble_eq_true rfl) dX1_becomeQuotient_39 ⟨Nat.zero_le _, Nat.zero_le _⟩ (zkn (fun H locs hP hS => ?_))
        refine W.eq (g2 := F0 m 42 ls [.long (f (k + 2)), .long ((2 : Int64) * r0), .long ((2 : Int64) * (T a (k + 2))), .int (nI (k + 1)), .ref (F i)]) rfl ?_
        refine lv_lmul hx hb dX1_becomeQuotient_42 ?_
        refine lv_ldc2 hx hb hown (hts (.constantLong RX1 43 (1048576)) (by decide +kernel)) dX1_becomeQuotient_43 ?_
        refine zcallN (As := [.long (((2 : Int64) * r0) * (f (k + 2))), .long (1048576 : Int64)]) (rest := [.long ((2 : Int64) * (T a (k + 2))), .int (nI (k + 1)), .ref (F i)]) (k := 2) hx hb hml hown hts (kX2_rounded l D cL cI cR A F 30 (zCE cL cR F (va_up T i f) (va_up top i 0) Z) (((2 : Int64) * r0) * (f (k + 2))) (1048576 : Int64) (by decide)) gX1_becomeQuotient_X2_rounded_n45 rfl hAm.2.1 (hts (.initialized RX2) (by decide +kernel)) (hts (.static yX2_rounded) (by decide +kernel)) (by decide +kernel) ⟨Nat.le_of_ble_eq_true rfl, Nat.le_of_ble_eq_true rfl⟩ hAm hP hS rfl hl.1 rfl (Nat.le_of_ble_eq_true rfl) dX1_becomeQuotient_46 ⟨Nat.zero_le _, Nat.zero_le _⟩ (zkn (fun H locs hP hS => ?_))
        refine W.eq (g2 := F0 m 49 ls [.long (zR (((2 : Int64) * r0) * (f (k + 2))) (1048576 : Int64)), .long ((2 : Int64) * (T a (k + 2))), .int (nI (k + 1)), .ref (F i)]) rfl ?_
        refine lv_ladd hx hb dX1_becomeQuotient_49 ?_
        refine lv_aload_n hx hb dX1_becomeQuotient_50 rfl (lv_at hl 0 rfl) ?_
        refine lv_iload hx hb dX1_becomeQuotient_51 (lv_at hl 3 rfl) ?_
        refine lv_iconst (v := nI 1) hx hb dX1_becomeQuotient_53 (by decide +kernel) ?_
        refine ziadd (d := (k + 3)) hx hb (by omega) dX1_becomeQuotient_54 ?_
        refine zcallV (As := [.int (nI (k + 3))]) (rest := [.long (((2 : Int64) * (T a (k + 2))) + (zR (((2 : Int64) * r0) * (f (k + 2))) (1048576 : Int64))), .int (nI (k + 1)), .ref (F i)]) (q := i) (k := 1) hx hb hml hown hts (kX1_at l D cL cI cR A F hF (va_up T i f) (va_up top i 0) Z i (by omega) (k + 3) (by omega) (f (k + 3)) (by first | rfl | simp [va_up, *])) gX1_becomeQuotient_X1_at rfl (by decide +kernel) ⟨Nat.le_of_ble_eq_true rfl, Nat.le_of_ble_eq_true rfl⟩ rfl (by omega) (zC_s (by omega)) rfl rfl hAm hP hS rfl hl.1 rfl (Nat.le_of_ble_eq_true rfl) dX1_becomeQuotient_55 ⟨Nat.zero_le _, Nat.zero_le _⟩ (zkn (fun H locs hP hS => ?_))
        refine W.eq (g2 := F0 m 58 ls [.long (f (k + 3)), .long (((2 : Int64) * (T a (k + 2))) + (zR (((2 : Int64) * r0) * (f (k + 2))) (1048576 : Int64))), .int (nI (k + 1)), .ref (F i)]) rfl ?_
        refine lv_lsub hx hb dX1_becomeQuotient_58 ?_
        refine zcallV (As := [.int (nI (k + 1)), .long ((((2 : Int64) * (T a (k + 2))) + (zR (((2 : Int64) * r0) * (f (k + 2))) (1048576 : Int64))) - (f (k + 3)))]) (rest := []) (q := i) (k := 2) hx hb hml hown hts (kX1_put l D cL cI cR A F hF (va_up T i f) (va_up top i 0) Z i (by omega) (k + 1) (by omega) ((((2 : Int64) * (T a (k + 2))) + (zR (((2 : Int64) * r0) * (f (k + 2))) (1048576 : Int64))) - (f (k + 3))) (va_up T i (vp_updL f (k + 1) ((((2 : Int64) * (T a (k + 2))) + (zR (((2 : Int64) * r0) * (f (k + 2))) (1048576 : Int64))) - (f (k + 3))))) (by first | rfl | simp only [bx_uu, va_up_eq])) gX1_becomeQuotient_X1_put rfl (by decide +kernel) ⟨Nat.le_of_ble_eq_true rfl, Nat.le_of_ble_eq_true rfl⟩ rfl (by omega) (zC_s (by omega)) rfl rfl hAm hP hS rfl hl.1 rfl (Nat.le_of_ble_eq_true rfl) dX1_becomeQuotient_59 ⟨Nat.zero_le _, Nat.zero_le _⟩ (zkn (fun H locs hP hS => ?_))
        refine W.eq (g2 := F0 m 62 ls []) rfl ?_
        refine lv_iinc (v := (nI (k + 1))) (lv' := [(4, .int (nI (k + 1))), (0, .ref (F i)), (1, .ref (F a)), (2, .long r0)]) hx hb dX1_becomeQuotient_62 hl (k := 3) rfl (zinc (by omega)) (by decide) rfl (fun ls hl => ?_)
        refine lv_goto (tgt := 10) hx hb dX1_becomeQuotient_65 (by decide) ?_
        exact ih10 (k + 1) _ (by omega) (by rw [← hf]; rfl) (by omega) H _ hP hS ls (lv_sub hl [1, 2, 3, 0] rfl)
  exact L10 _ (top a) _ (by omega) rfl (Nat.lt_succ_self _) H _ hP hS ls (lv_sub hl [1, 2, 3, 0] rfl)
