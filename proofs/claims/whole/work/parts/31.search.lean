/-! the reference: composition and search -/
theorem zst_eq (p d : Nat → Int64) (fl c : Int64) (j : Nat) : vp_updL (fun j => fl * p j) 0 (fl * p 0 + c) j - d j = zst p d fl c j := by
  unfold zst vp_updL zsum
  by_cases h : j = 0
  · rw [if_pos h, if_pos h, h]; exact zring _ _ _ _
  · rw [if_neg h, if_neg h]; exact zring0 _ _ _
theorem zprod_top {a b : Nat → Int64} {na nb : Nat} (ha : na ≤ 24) (hb : nb ≤ 24) : ∀ j, ztop (zprod a na b nb) 48 < j → zprod a na b nb j = 0 := by
  intro j hj
  rcases Nat.lt_or_ge 48 j with h | h
  · exact zprod_0 (by omega)
  · exact ztop_above j hj h
theorem zsub64 {x y : Int32} (hx : -4194304 ≤ x.toInt ∧ x.toInt ≤ 4194304) (hy : -4194304 ≤ y.toInt ∧ y.toInt ≤ 4194304) : (x - y).toInt64 = x.toInt64 - y.toInt64 ∧ (x - y).toInt = x.toInt - y.toInt := by
  have e : (x - y).toInt = x.toInt - y.toInt := by
    rw [Int32.toInt_sub]
    apply Int.bmod_eq_of_le <;> omega
  refine ⟨?_, e⟩
  apply Int64.toInt_inj.mp
  rw [Int32.toInt_toInt64, e, Int64.toInt_sub, Int32.toInt_toInt64, Int32.toInt_toInt64]
  symm
  apply Int.bmod_eq_of_le <;> omega
theorem zmidI {a b : Int32} (h1 : -1048576 ≤ a.toInt) (h2 : a.toInt ≤ b.toInt) (h3 : b.toInt ≤ 1048576) : ((a + b) >>> ((nI 1) &&& 31)).toInt = (a.toInt + b.toInt) / 2 ∧ ((a + b) >>> ((nI 1) &&& 31)).toInt64 = zfl (a.toInt64 + b.toInt64) 2 := by
  have e : ((a + b) >>> ((nI 1) &&& 31)).toInt = (a.toInt + b.toInt) / 2 := by
    rw [pk_shr _ _ 1 (by decide), Int32.toInt_add, Int.shiftRight_eq_div_pow]
    congr 1
    apply Int.bmod_eq_of_le <;> omega
  refine ⟨e, ?_⟩
  apply Int64.toInt_inj.mp
  have h := (zok_mid (a := a.toInt64) (b := b.toInt64) (by rw [Int32.toInt_toInt64]; exact h1) (by rw [Int32.toInt_toInt64, Int32.toInt_toInt64]; exact h2) (by rw [Int32.toInt_toInt64]; exact h3)).1
  rw [h, Int32.toInt_toInt64, Int32.toInt_toInt64, Int32.toInt_toInt64, e]
theorem zmaxI {a b m : Int32} (h1 : -1048576 ≤ a.toInt) (h2 : a.toInt ≤ b.toInt) (h3 : b.toInt ≤ 1048576) (hm : m.toInt = (a.toInt + b.toInt) / 2) : (b - m ≤ m - a → (m - a).toInt64 = zmax (b.toInt64 - m.toInt64) (m.toInt64 - a.toInt64)) ∧ (¬ b - m ≤ m - a → (b - m).toInt64 = zmax (b.toInt64 - m.toInt64) (m.toInt64 - a.toInt64)) := by
  have e1 := zsub64 (x := b) (y := m) (by omega) (by omega)
  have e2 := zsub64 (x := m) (y := a) (by omega) (by omega)
  rw [← e1.1, ← e2.1]
  unfold zmax
  constructor
  · intro h
    rw [Int32.le_iff_toInt_le] at h
    rw [if_neg]
    rw [Int64.lt_iff_toInt_lt, Int32.toInt_toInt64, Int32.toInt_toInt64]
    omega
  · intro h
    rw [Int32.le_iff_toInt_le] at h
    rw [if_pos]
    rw [Int64.lt_iff_toInt_lt, Int32.toInt_toInt64, Int32.toInt_toInt64]
    omega
/-- the reference's way to hold the intervals -/
def zlst (ws : Nat → Int32) : Nat → List (Int64 × Int64)
  | 0 => []
  | k + 1 => ((ws (2 * k)).toInt64, (ws (2 * k + 1)).toInt64) :: zlst ws k
theorem zlst_len (ws : Nat → Int32) : ∀ k, (zlst ws k).length = k := by
  intro k
  induction k with
  | zero => rfl
  | succ k ih => unfold zlst; rw [List.length_cons, ih]
theorem zlst_up (ws : Nat → Int32) (j : Nat) (x : Int32) : ∀ k, 2 * k ≤ j → zlst (upd ws j x) k = zlst ws k := by
  intro k
  induction k with
  | zero => intro _; rfl
  | succ k ih =>
    intro h
    have e1 : upd ws j x (2 * k) = ws (2 * k) := by unfold upd; rw [if_neg (by omega)]
    have e2 : upd ws j x (2 * k + 1) = ws (2 * k + 1) := by unfold upd; rw [if_neg (by omega)]
    unfold zlst
    rw [e1, e2, ih (by omega)]
def zrtsI (fd : Nat → Int32) : List Int64 → Prop
  | [] => True
  | x :: l => (fd l.length).toInt64 = x ∧ zrtsI fd l
theorem zrtsI_up {fd : Nat → Int32} {k : Nat} {x : Int32} : ∀ (l : List Int64), l.length ≤ k → zrtsI fd l → zrtsI (upd fd k x) l := by
  intro l
  induction l with
  | nil => intro _ _; trivial
  | cons y l ih =>
    intro h1 h2
    rw [List.length_cons] at h1
    refine ⟨?_, ih (by omega) h2.2⟩
    unfold upd
    rw [if_neg (by omega)]
    exact h2.1
theorem zrtsI_get {fd : Nat → Int32} : ∀ (l : List Int64), zrtsI fd l → ∀ j, j < l.length → (fd j).toInt64 = zgetr l j := by
  intro l
  induction l with
  | nil => intro _ j hj; exact absurd hj (Nat.not_lt_zero _)
  | cons x l ih =>
    intro h j hj
    unfold zgetr
    rw [List.length_cons] at hj
    by_cases e : j = l.length
    · rw [if_pos e, e]; exact h.1
    · rw [if_neg e]; exact ih h.2 j (by omega)
theorem z16 {a b : Int32} (h1 : -1048576 ≤ a.toInt) (h2 : a.toInt ≤ b.toInt) (h3 : b.toInt ≤ 1048576) : (b - a ≤ nI 16 → ¬ 16 < b.toInt64 - a.toInt64) ∧ (¬ b - a ≤ nI 16 → 16 < b.toInt64 - a.toInt64) := by
  have e1 := zsub64 (x := b) (y := a) (by omega) (by omega)
  have e3 : (16 : Int64).toInt = 16 := rfl
  have e4 : (nI 16).toInt = 16 := rfl
  rw [← e1.1, Int64.lt_iff_toInt_lt, Int32.toInt_toInt64, Int32.le_iff_toInt_le, e3, e4]
  omega
theorem zn16 {a x : Int32} (h1 : -1048576 ≤ a.toInt) (h3 : a.toInt ≤ 1048576) : (a - nI 16 ≤ x) ↔ a.toInt64 - 16 ≤ x.toInt64 := by
  have e4 : (nI 16).toInt = 16 := rfl
  have e1 := zsub64 (x := a) (y := nI 16) (by omega) (by rw [e4]; omega)
  have e5 : (nI 16).toInt64 = 16 := by decide
  rw [e5] at e1
  rw [← e1.1, Int64.le_iff_toInt_le, Int32.toInt_toInt64, Int32.toInt_toInt64, Int32.le_iff_toInt_le]

set_option maxHeartbeats 4000000 in
set_option maxRecDepth 100000 in
theorem kX3_goes_err (l : Launch) (D : va_G) (cL cI cR : ClassId) (A : Nat → Prop) (F : Nat → Nat) (hF : zq_F A F 7) (C : Nat → Nat → Int64) (dg : Nat → Nat) (Y : zZM) (g : Nat) (hg : g < 8) (fa : Int32) (fl : Int64) (hfl : fa.toInt64 = fl) (c0 : Int64) (hng : dg g ≤ 24) (hnb : dg 9 ≤ 24) (pl : Nat → Int64) (hpl : pl = zprod (C g) (dg g) (C 9) (dg 9)) (he : ¬ zke pl = 0) : zCt l yX3_goes wsX3_goes 3 74 D cL cI cR A F 7 (zME cL cI F C dg Y) [.ref (F 0), .int (nI g), .int fa, .long c0] (fun v2 E2 => v2 = (some (.long (zke pl))) ∧ E2 = (zME cL cI F (va_up C 8 pl) (va_up dg 8 (ztop pl 48)) Y)) := by
  refine zStart (cc := cX3_goes) (maxL := 8) (ret := (some .long)) (by decide +kernel) rfl (Nat.le_of_ble_eq_true rfl) ?_
  intro p e s m below meth c hx hb hr hml hlk hown hts hAm H hP hS ls hl
  have hown : s.vm.findClass RX3 = some m.cls := hown
  have hl : lv_has ls 8 [(0, .ref (F 0)), (1, .int (nI g)), (2, .int fa), (3, .long c0)] := hl
  refine lv_aload_n hx hb dX3_goes_0 rfl (lv_at hl 0 rfl) ?_
  refine lv_iload_n hx hb dX3_goes_1 rfl (lv_at hl 1 rfl) ?_
  refine lv_bipush (v := nI 9) hx hb dX3_goes_2 (by decide +kernel) ?_
  refine zcallV (As := [.int (nI g), .int (nI 9)]) (rest := []) (q := 0) (k := 2) hx hb hml hown hts (kX3_multiplies l D cL cI cR A F hF C dg Y g (by omega) (by omega) 9 (by omega) (by omega) hng hnb (va_up C 8 pl) (va_up dg 8 (ztop pl 48)) (by rw [hpl]) (by rw [hpl])) gX3_goes_X3_multiplies rfl (by decide +kernel) ⟨Nat.le_of_ble_eq_true rfl, Nat.le_of_ble_eq_true rfl⟩ rfl (by omega) (zM_o) rfl rfl hAm hP hS rfl hl.1 rfl (Nat.le_of_ble_eq_true rfl) dX3_goes_4 ⟨Nat.zero_le _, Nat.zero_le _⟩ (zkn (fun H locs hP hS => ?_))
  refine W.eq (g2 := F0 m 7 ls [.long (zke (zprod (C g) (dg g) (C 9) (dg 9)))]) rfl ?_
  refine W.eq (g2 := F0 m 7 ls [.long (zke pl)]) (by rw [hpl]) ?_
  refine lv_lstore (lv' := [(5, .long (zke pl)), (0, .ref (F 0)), (1, .int (nI g)), (2, .int fa), (3, .long c0)]) hx hb dX3_goes_7 hl (by decide) rfl (fun ls hl => ?_)
  refine lv_lload hx hb dX3_goes_9 (lv_at hl 0 rfl) ?_
  refine lv_lconst (v := (0 : Int64)) hx hb dX3_goes_11 (by decide +kernel) ?_
  refine zl_eq (tgt := 19) hx hb dX3_goes_12 dX3_goes_13 (by decide) (fun c1 => ?_) (fun c1 => ?_)
  ·
    exact absurd c1 he
  ·
    refine lv_lload hx hb dX3_goes_16 (lv_at hl 0 rfl) ?_
    exact zretL hx hb hr hlk hS hP dX3_goes_18 ⟨rfl, rfl⟩

set_option maxHeartbeats 4000000 in
set_option maxRecDepth 100000 in
theorem kX3_goes_ok (l : Launch) (D : va_G) (cL cI cR : ClassId) (A : Nat → Prop) (F : Nat → Nat) (hF : zq_F A F 7) (C : Nat → Nat → Int64) (dg : Nat → Nat) (Y : zZM) (g : Nat) (hg : g < 8) (fa : Int32) (fl : Int64) (hfl : fa.toInt64 = fl) (c0 : Int64) (hng : dg g ≤ 24) (hnb : dg 9 ≤ 24) (pl : Nat → Int64) (hpl : pl = zprod (C g) (dg g) (C 9) (dg 9)) (hnd : dg 10 ≤ 24) (hzd : ∀ j, dg 10 < j → C 10 j = 0) (he : zke pl = 0) (f : Nat → Int64) (hf : f = zst pl (C 10) fl c0) : zCt l yX3_goes wsX3_goes 3 74 D cL cI cR A F 7 (zME cL cI F C dg Y) [.ref (F 0), .int (nI g), .int fa, .long c0] (fun v2 E2 => v2 = (some (.long (zke f))) ∧ E2 = (zME cL cI F (va_up (va_up C 8 pl) 11 f) (va_up (va_up dg 8 (ztop pl 48)) 11 (ztop f 48)) Y)) := by
  refine zStart (cc := cX3_goes) (maxL := 8) (ret := (some .long)) (by decide +kernel) rfl (Nat.le_of_ble_eq_true rfl) ?_
  intro p e s m below meth c hx hb hr hml hlk hown hts hAm H hP hS ls hl
  have hown : s.vm.findClass RX3 = some m.cls := hown
  have hl : lv_has ls 8 [(0, .ref (F 0)), (1, .int (nI g)), (2, .int fa), (3, .long c0)] := hl
  have hinX3 : ∀ w ∈ u_ws RX3 TX3 8, w ∈ wsX3_goes := by decide +kernel
  have htd := zke_24 he
  have hplz : ∀ j, ztop pl 48 < j → pl j = 0 := by rw [hpl]; exact zprod_top hng hnb
  obtain ⟨f2, hf2⟩ : ∃ z : Nat → Int64, z = vp_updL (fun j => fl * pl j) 0 (fl * pl 0 + c0) := ⟨_, rfl⟩
  have hfe : ∀ j, f2 j - C 10 j = f j := fun j => by rw [hf2, hf]; exact zst_eq _ _ _ _ j
  have hf2z : ∀ j, ztop pl 48 < j → f2 j = 0 := fun j hj => by rw [hf2]; unfold vp_updL; rw [if_neg (by omega)]; show fl * pl j = 0; rw [hplz j hj, Int64.mul_zero]
  refine lv_aload_n hx hb dX3_goes_0 rfl (lv_at hl 0 rfl) ?_
  refine lv_iload_n hx hb dX3_goes_1 rfl (lv_at hl 1 rfl) ?_
  refine lv_bipush (v := nI 9) hx hb dX3_goes_2 (by decide +kernel) ?_
  refine zcallV (As := [.int (nI g), .int (nI 9)]) (rest := []) (q := 0) (k := 2) hx hb hml hown hts (kX3_multiplies l D cL cI cR A F hF C dg Y g (by omega) (by omega) 9 (by omega) (by omega) hng hnb (va_up C 8 pl) (va_up dg 8 (ztop pl 48)) (by rw [hpl]) (by rw [hpl])) gX3_goes_X3_multiplies rfl (by decide +kernel) ⟨Nat.le_of_ble_eq_true rfl, Nat.le_of_ble_eq_true rfl⟩ rfl (by omega) (zM_o) rfl rfl hAm hP hS rfl hl.1 rfl (Nat.le_of_ble_eq_true rfl) dX3_goes_4 ⟨Nat.zero_le _, Nat.zero_le _⟩ (zkn (fun H locs hP hS => ?_))
  refine W.eq (g2 := F0 m 7 ls [.long (zke (zprod (C g) (dg g) (C 9) (dg 9)))]) rfl ?_
  refine W.eq (g2 := F0 m 7 ls [.long (zke pl)]) (by rw [hpl]) ?_
  refine lv_lstore (lv' := [(5, .long (zke pl)), (0, .ref (F 0)), (1, .int (nI g)), (2, .int fa), (3, .long c0)]) hx hb dX3_goes_7 hl (by decide) rfl (fun ls hl => ?_)
  refine lv_lload hx hb dX3_goes_9 (lv_at hl 0 rfl) ?_
  refine lv_lconst (v := (0 : Int64)) hx hb dX3_goes_11 (by decide +kernel) ?_
  refine zl_eq (tgt := 19) hx hb dX3_goes_12 dX3_goes_13 (by decide) (fun c1 => ?_) (fun c1 => ?_)
  ·
    refine lv_aload_n hx hb dX3_goes_19 rfl (lv_at hl 1 rfl) ?_
    refine lv_bipush (v := nI 8) hx hb dX3_goes_20 (by decide +kernel) ?_
    refine lv_bipush (v := nI 11) hx hb dX3_goes_22 (by decide +kernel) ?_
    refine zcallV (As := [.int (nI 8), .int (nI 11)]) (rest := []) (q := 0) (k := 2) hx hb hml hown hts (kX3_copies l D cL cI cR A F hF (va_up C 8 pl) (va_up dg 8 (ztop pl 48)) Y 8 (by omega) 11 (by omega) pl (va_up_eq _ _ _) (ztop pl 48) (va_up_eq _ _ _) (by omega)) gX3_goes_X3_copies rfl (by decide +kernel) ⟨Nat.le_of_ble_eq_true rfl, Nat.le_of_ble_eq_true rfl⟩ rfl (by omega) (zM_o) rfl rfl hAm hP hS rfl hl.1 rfl (Nat.le_of_ble_eq_true rfl) dX3_goes_24 ⟨Nat.zero_le _, Nat.zero_le _⟩ (zkn (fun H locs hP hS => ?_))
    refine W.eq (g2 := F0 m 27 ls []) rfl ?_
    refine lv_iconst (v := nI 0) hx hb dX3_goes_27 (by decide +kernel) ?_
    refine lv_istore (lv' := [(7, .int (nI 0)), (5, .long (zke pl)), (0, .ref (F 0)), (1, .int (nI g)), (2, .int fa), (3, .long c0)]) hx hb dX3_goes_28 hl (by decide) rfl (fun ls hl => ?_)
    have L30 : ∀ (n : Nat) (k : Nat) (f1 : Nat → Int64) (hk : k ≤ ztop pl 48 + 1) (hf1 : ∀ j, f1 j = if j < k then fl * pl j else pl j) (hn : ztop pl 48 + 1 - k < n) (H : Heap) (locs : List Loc), va_P D vwCl (zq_wd F 7 (zME cL cI F (va_up (va_up C 8 pl) 11 f1) (va_up (va_up dg 8 (ztop pl 48)) 11 (ztop pl 48)) Y)) H → va_S A s.heap H locs → ∀ (ls : Array Slot), lv_has ls 8 [(0, .ref (F 0)), (1, .int (nI g)), (2, .int fa), (3, .long c0), (7, .int (nI k))] → W p l e ({ frames := 3, cells := 0, slots := 0, locals := 74 }) s m ([.ref (F 0), .int (nI g), .int fa, .long c0] : List Value).toArray below meth c H locs 0 0 (zQ below D A F 7 [.ref (F 0), .int (nI g), .int fa, .long c0] s (fun v2 E2 => v2 = (some (.long (zke f))) ∧ E2 = (zME cL cI F (va_up (va_up C 8 pl) 11 f) (va_up (va_up dg 8 (ztop pl 48)) 11 (ztop f 48)) Y))) (F0 m 30 ls []) := by
      intro n
      induction n with
      | zero =>
        intro k f1 hk hf1 hn
        exact absurd hn (Nat.not_lt_zero _)
      | succ n ih30 =>
        intro k f1 hk hf1 hn H locs hP hS ls hl
        refine lv_iload hx hb dX3_goes_30 (lv_at hl 4 rfl) ?_
        refine lv_aload_n hx hb dX3_goes_32 rfl (lv_at hl 0 rfl) ?_
        refine zget (q := 0) (k := 1) (v := .ref (F 2)) hx hb hts hinX3 hown hAm hP (by omega) (zM_o) rfl (by decide) (hts (.fieldLink RX3 13 "CosineSeriesModel" "degrees" "[I") (by decide +kernel)) (by first | rfl | simp [va_up, *]) dX3_goes_33 ?_
        refine lv_bipush (v := nI 11) hx hb dX3_goes_36 (by decide +kernel) ?_
        refine ziald (q := 2) (k := 11) (v := (nI (ztop pl 48))) hx hb hAm hP (by omega) (zM_d) (by omega) (by decide) (by first | rfl | simp [va_up, *]) dX3_goes_38 ?_
        refine zi_gt (tgt := 67) hx hb dX3_goes_39 (by decide) (by omega) (by omega) (fun c2 => ?_) (fun c2 => ?_)
        ·
          have hf1e : f1 = (fun j => fl * pl j) := funext (fun j => by rw [hf1 j]; by_cases h : j < k; (rw [if_pos h]); (rw [if_neg h, hplz j (by omega), Int64.mul_zero]))
          have hP : va_P D vwCl (zq_wd F 7 (zME cL cI F (va_up (va_up C 8 pl) 11 (fun j => fl * pl j)) (va_up (va_up dg 8 (ztop pl 48)) 11 (ztop pl 48)) Y)) H := by rw [← hf1e]; exact hP
          refine lv_aload_n hx hb dX3_goes_67 rfl (lv_at hl 0 rfl) ?_
          refine lv_bipush (v := nI 11) hx hb dX3_goes_68 (by decide +kernel) ?_
          refine lv_iconst (v := nI 0) hx hb dX3_goes_70 (by decide +kernel) ?_
          refine lv_aload_n hx hb dX3_goes_71 rfl (lv_at hl 0 rfl) ?_
          refine lv_bipush (v := nI 11) hx hb dX3_goes_72 (by decide +kernel) ?_
          refine lv_iconst (v := nI 0) hx hb dX3_goes_74 (by decide +kernel) ?_
          refine zcallV (As := [.int (nI 11), .int (nI 0)]) (rest := [.int (nI 0), .int (nI 11), .ref (F 0)]) (q := 0) (k := 2) hx hb hml hown hts (kX3_of l D cL cI cR A F hF (va_up (va_up C 8 pl) 11 (fun j => fl * pl j)) (va_up (va_up dg 8 (ztop pl 48)) 11 (ztop pl 48)) Y 11 (by omega) 0 (by omega) (fl * pl 0) (by simp [va_up])) gX3_goes_X3_of rfl (by decide +kernel) ⟨Nat.le_of_ble_eq_true rfl, Nat.le_of_ble_eq_true rfl⟩ rfl (by omega) (zM_o) rfl rfl hAm hP hS rfl hl.1 rfl (Nat.le_of_ble_eq_true rfl) dX3_goes_75 ⟨Nat.zero_le _, Nat.zero_le _⟩ (zkn (fun H locs hP hS => ?_))
          refine W.eq (g2 := F0 m 78 ls [.long (fl * pl 0), .int (nI 0), .int (nI 11), .ref (F 0)]) rfl ?_
          refine lv_lload_n hx hb dX3_goes_78 rfl (lv_at hl 3 rfl) ?_
          refine lv_ladd hx hb dX3_goes_79 ?_
          refine zcallV (As := [.int (nI 11), .int (nI 0), .long ((fl * pl 0) + c0)]) (rest := []) (q := 0) (k := 3) hx hb hml hown hts (kX3_sets l D cL cI cR A F hF (va_up (va_up C 8 pl) 11 (fun j => fl * pl j)) (va_up (va_up dg 8 (ztop pl 48)) 11 (ztop pl 48)) Y 11 (by omega) 0 (by omega) (fl * pl 0 + c0) (va_up (va_up C 8 pl) 11 f2) (by rw [bx_uu, va_up_eq, hf2])) gX3_goes_X3_sets rfl (by decide +kernel) ⟨Nat.le_of_ble_eq_true rfl, Nat.le_of_ble_eq_true rfl⟩ rfl (by omega) (zM_o) rfl rfl hAm hP hS rfl hl.1 rfl (Nat.le_of_ble_eq_true rfl) dX3_goes_80 ⟨Nat.zero_le _, Nat.zero_le _⟩ (zkn (fun H locs hP hS => ?_))
          refine W.eq (g2 := F0 m 83 ls []) rfl ?_
          refine lv_aload_n hx hb dX3_goes_83 rfl (lv_at hl 0 rfl) ?_
          refine zget (q := 0) (k := 1) (v := .ref (F 2)) hx hb hts hinX3 hown hAm hP (by omega) (zM_o) rfl (by decide) (hts (.fieldLink RX3 13 "CosineSeriesModel" "degrees" "[I") (by decide +kernel)) (by first | rfl | simp [va_up, *]) dX3_goes_84 ?_
          refine lv_bipush (v := nI 11) hx hb dX3_goes_87 (by decide +kernel) ?_
          refine lv_aload_n hx hb dX3_goes_89 rfl (lv_at hl 0 rfl) ?_
          refine zget (q := 0) (k := 1) (v := .ref (F 2)) hx hb hts hinX3 hown hAm hP (by omega) (zM_o) rfl (by decide) (hts (.fieldLink RX3 13 "CosineSeriesModel" "degrees" "[I") (by decide +kernel)) (by first | rfl | simp [va_up, *]) dX3_goes_90 ?_
          refine lv_bipush (v := nI 10) hx hb dX3_goes_93 (by decide +kernel) ?_
          refine ziald (q := 2) (k := 10) (v := (nI (dg 10))) hx hb hAm hP (by omega) (zM_d) (by omega) (by decide) (by first | rfl | simp [va_up, *]) dX3_goes_95 ?_
          refine lv_aload_n hx hb dX3_goes_96 rfl (lv_at hl 0 rfl) ?_
          refine zget (q := 0) (k := 1) (v := .ref (F 2)) hx hb hts hinX3 hown hAm hP (by omega) (zM_o) rfl (by decide) (hts (.fieldLink RX3 13 "CosineSeriesModel" "degrees" "[I") (by decide +kernel)) (by first | rfl | simp [va_up, *]) dX3_goes_97 ?_
          refine lv_bipush (v := nI 11) hx hb dX3_goes_100 (by decide +kernel) ?_
          refine ziald (q := 2) (k := 11) (v := (nI (ztop pl 48))) hx hb hAm hP (by omega) (zM_d) (by omega) (by decide) (by first | rfl | simp [va_up, *]) dX3_goes_102 ?_
          refine zi_le (tgt := 116) hx hb dX3_goes_103 (by decide) (by omega) (by omega) (fun c3 => ?_) (fun c3 => ?_)
          ·
            refine lv_aload_n hx hb dX3_goes_116 rfl (lv_at hl 0 rfl) ?_
            refine zget (q := 0) (k := 1) (v := .ref (F 2)) hx hb hts hinX3 hown hAm hP (by omega) (zM_o) rfl (by decide) (hts (.fieldLink RX3 13 "CosineSeriesModel" "degrees" "[I") (by decide +kernel)) (by first | rfl | simp [va_up, *]) dX3_goes_117 ?_
            refine lv_bipush (v := nI 11) hx hb dX3_goes_120 (by decide +kernel) ?_
            refine ziald (q := 2) (k := 11) (v := (nI (ztop pl 48))) hx hb hAm hP (by omega) (zM_d) (by omega) (by decide) (by first | rfl | simp [va_up, *]) dX3_goes_122 ?_
            refine ziast (q := 2) (k := 11) (E' := (zME cL cI F (va_up (va_up C 8 pl) 11 f2) (va_up (va_up dg 8 (ztop pl 48)) 11 (ztop pl 48)) Y)) hx hb hAm hP hF hS (by omega) (zM_d) (by omega) (by decide) dX3_goes_123 (by first | exact zM_ud | (rw [zM_ud]; simp only [bx_uu, va_up_eq])) (fun H locs hP hS => ?_)
            refine lv_iconst (v := nI 0) hx hb dX3_goes_124 (by decide +kernel) ?_
            refine lv_istore (lv' := [(7, .int (nI 0)), (0, .ref (F 0)), (1, .int (nI g)), (2, .int fa), (3, .long c0)]) hx hb dX3_goes_125 hl (by decide) rfl (fun ls hl => ?_)
            have L127 : ∀ (n : Nat) (k : Nat) (f3 : Nat → Int64) (hk : k ≤ (ztop pl 48) + 1) (hf3 : ∀ j, f3 j = if j < k then f2 j - C 10 j else f2 j) (hn : (ztop pl 48) + 1 - k < n) (H : Heap) (locs : List Loc), va_P D vwCl (zq_wd F 7 (zME cL cI F (va_up (va_up C 8 pl) 11 f3) (va_up (va_up dg 8 (ztop pl 48)) 11 (ztop pl 48)) Y)) H → va_S A s.heap H locs → ∀ (ls : Array Slot), lv_has ls 8 [(0, .ref (F 0)), (1, .int (nI g)), (7, .int (nI k))] → W p l e ({ frames := 3, cells := 0, slots := 0, locals := 74 }) s m ([.ref (F 0), .int (nI g), .int fa, .long c0] : List Value).toArray below meth c H locs 0 0 (zQ below D A F 7 [.ref (F 0), .int (nI g), .int fa, .long c0] s (fun v2 E2 => v2 = (some (.long (zke f))) ∧ E2 = (zME cL cI F (va_up (va_up C 8 pl) 11 f) (va_up (va_up dg 8 (ztop pl 48)) 11 (ztop f 48)) Y))) (F0 m 127 ls []) := by
              intro n
              induction n with
              | zero =>
                intro k f3 hk hf3 hn
                exact absurd hn (Nat.not_lt_zero _)
              | succ n ih127 =>
                intro k f3 hk hf3 hn H locs hP hS ls hl
                refine lv_iload hx hb dX3_goes_127 (lv_at hl 2 rfl) ?_
                refine lv_aload_n hx hb dX3_goes_129 rfl (lv_at hl 0 rfl) ?_
                refine zget (q := 0) (k := 1) (v := .ref (F 2)) hx hb hts hinX3 hown hAm hP (by omega) (zM_o) rfl (by decide) (hts (.fieldLink RX3 13 "CosineSeriesModel" "degrees" "[I") (by decide +kernel)) (by first | rfl | simp [va_up, *]) dX3_goes_130 ?_
                refine lv_bipush (v := nI 11) hx hb dX3_goes_133 (by decide +kernel) ?_
                refine ziald (q := 2) (k := 11) (v := (nI (ztop pl 48))) hx hb hAm hP (by omega) (zM_d) (by omega) (by decide) (by first | rfl | simp [va_up, *]) dX3_goes_135 ?_
                refine zi_gt (tgt := 170) hx hb dX3_goes_136 (by decide) (by omega) (by omega) (fun c4 => ?_) (fun c4 => ?_)
                ·
                  have hf3e : f3 = f := funext (fun j => by rw [hf3 j, ← hfe j]; by_cases h : j < k; (rw [if_pos h]); (rw [if_neg h, hzd j (by omega), Int64.sub_zero]))
                  have hP : va_P D vwCl (zq_wd F 7 (zME cL cI F (va_up (va_up C 8 pl) 11 f) (va_up (va_up dg 8 (ztop pl 48)) 11 (ztop pl 48)) Y)) H := by rw [← hf3e]; exact hP
                  refine lv_aload_n hx hb dX3_goes_170 rfl (lv_at hl 0 rfl) ?_
                  refine lv_bipush (v := nI 11) hx hb dX3_goes_171 (by decide +kernel) ?_
                  refine zcallV (As := [.int (nI 11)]) (rest := []) (q := 0) (k := 1) hx hb hml hown hts (kX3_trims l D cL cI cR A F hF (va_up (va_up C 8 pl) 11 f) (va_up (va_up dg 8 (ztop pl 48)) 11 (ztop pl 48)) Y 11 (by omega) f (by first | rfl | simp [va_up, *]) (ztop pl 48) (by first | rfl | simp [va_up, *]) (by omega) (fun j hj => by rw [← hfe j, hf2z j (by omega), hzd j (by omega), Int64.sub_zero]) (va_up (va_up dg 8 (ztop pl 48)) 11 (ztop f 48)) (by first | rfl | simp only [bx_uu])) gX3_goes_X3_trims rfl (by decide +kernel) ⟨Nat.le_of_ble_eq_true rfl, Nat.le_of_ble_eq_true rfl⟩ rfl (by omega) (zM_o) rfl rfl hAm hP hS rfl hl.1 rfl (Nat.le_of_ble_eq_true rfl) dX3_goes_173 ⟨Nat.zero_le _, Nat.zero_le _⟩ (zkn (fun H locs hP hS => ?_))
                  refine W.eq (g2 := F0 m 176 ls [.long (zke f)]) rfl ?_
                  exact zretL hx hb hr hlk hS hP dX3_goes_176 ⟨rfl, rfl⟩
                ·
                  refine lv_aload_n hx hb dX3_goes_139 rfl (lv_at hl 0 rfl) ?_
                  refine lv_bipush (v := nI 11) hx hb dX3_goes_140 (by decide +kernel) ?_
                  refine lv_iload hx hb dX3_goes_142 (lv_at hl 2 rfl) ?_
                  refine lv_aload_n hx hb dX3_goes_144 rfl (lv_at hl 0 rfl) ?_
                  refine lv_bipush (v := nI 11) hx hb dX3_goes_145 (by decide +kernel) ?_
                  refine lv_iload hx hb dX3_goes_147 (lv_at hl 2 rfl) ?_
                  refine zcallV (As := [.int (nI 11), .int (nI k)]) (rest := [.int (nI k), .int (nI 11), .ref (F 0)]) (q := 0) (k := 2) hx hb hml hown hts (kX3_of l D cL cI cR A F hF (va_up (va_up C 8 pl) 11 f3) (va_up (va_up dg 8 (ztop pl 48)) 11 (ztop pl 48)) Y 11 (by omega) k (by omega) (f3 k) (by first | rfl | simp [va_up, *])) gX3_goes_X3_of rfl (by decide +kernel) ⟨Nat.le_of_ble_eq_true rfl, Nat.le_of_ble_eq_true rfl⟩ rfl (by omega) (zM_o) rfl rfl hAm hP hS rfl hl.1 rfl (Nat.le_of_ble_eq_true rfl) dX3_goes_149 ⟨Nat.zero_le _, Nat.zero_le _⟩ (zkn (fun H locs hP hS => ?_))
                  refine W.eq (g2 := F0 m 152 ls [.long (f3 k), .int (nI k), .int (nI 11), .ref (F 0)]) rfl ?_
                  refine lv_aload_n hx hb dX3_goes_152 rfl (lv_at hl 0 rfl) ?_
                  refine lv_bipush (v := nI 10) hx hb dX3_goes_153 (by decide +kernel) ?_
                  refine lv_iload hx hb dX3_goes_155 (lv_at hl 2 rfl) ?_
                  refine zcallV (As := [.int (nI 10), .int (nI k)]) (rest := [.long (f3 k), .int (nI k), .int (nI 11), .ref (F 0)]) (q := 0) (k := 2) hx hb hml hown hts (kX3_of l D cL cI cR A F hF (va_up (va_up C 8 pl) 11 f3) (va_up (va_up dg 8 (ztop pl 48)) 11 (ztop pl 48)) Y 10 (by omega) k (by omega) (C 10 k) (by simp [va_up])) gX3_goes_X3_of rfl (by decide +kernel) ⟨Nat.le_of_ble_eq_true rfl, Nat.le_of_ble_eq_true rfl⟩ rfl (by omega) (zM_o) rfl rfl hAm hP hS rfl hl.1 rfl (Nat.le_of_ble_eq_true rfl) dX3_goes_157 ⟨Nat.zero_le _, Nat.zero_le _⟩ (zkn (fun H locs hP hS => ?_))
                  refine W.eq (g2 := F0 m 160 ls [.long (C 10 k), .long (f3 k), .int (nI k), .int (nI 11), .ref (F 0)]) rfl ?_
                  refine lv_lsub hx hb dX3_goes_160 ?_
                  refine zcallV (As := [.int (nI 11), .int (nI k), .long ((f3 k) - (C 10 k))]) (rest := []) (q := 0) (k := 3) hx hb hml hown hts (kX3_sets l D cL cI cR A F hF (va_up (va_up C 8 pl) 11 f3) (va_up (va_up dg 8 (ztop pl 48)) 11 (ztop pl 48)) Y 11 (by omega) k (by omega) ((f3 k) - (C 10 k)) (va_up (va_up C 8 pl) 11 (vp_updL f3 k ((f3 k) - (C 10 k)))) (by first | rfl | simp only [bx_uu, va_up_eq])) gX3_goes_X3_sets rfl (by decide +kernel) ⟨Nat.le_of_ble_eq_true rfl, Nat.le_of_ble_eq_true rfl⟩ rfl (by omega) (zM_o) rfl rfl hAm hP hS rfl hl.1 rfl (Nat.le_of_ble_eq_true rfl) dX3_goes_161 ⟨Nat.zero_le _, Nat.zero_le _⟩ (zkn (fun H locs hP hS => ?_))
                  refine W.eq (g2 := F0 m 164 ls []) rfl ?_
                  refine lv_iinc (v := (nI (k + 1))) (lv' := [(7, .int (nI (k + 1))), (0, .ref (F 0)), (1, .int (nI g))]) hx hb dX3_goes_164 hl (k := 2) rfl (zinc (by omega)) (by decide) rfl (fun ls hl => ?_)
                  refine lv_goto (tgt := 127) hx hb dX3_goes_167 (by decide) ?_
                  exact ih127 (k + 1) _ (by omega) (fun j => by unfold vp_updL; split; (rename_i h; rw [h, if_pos (by omega), hf3 k, if_neg (by omega)]); (rw [hf3 j]; by_cases h : j < k; (rw [if_pos h, if_pos (by omega)]); (rw [if_neg h, if_neg (by omega)]))) (by omega) H _ hP hS ls (lv_sub hl [1, 2, 0] rfl)
            exact L127 _ 0 f2 (by omega) (fun j => by rw [if_neg (by omega)]) (Nat.lt_succ_self _) H _ hP hS ls (lv_sub hl [1, 2, 0] rfl)
          ·
            refine lv_aload_n hx hb dX3_goes_106 rfl (lv_at hl 0 rfl) ?_
            refine zget (q := 0) (k := 1) (v := .ref (F 2)) hx hb hts hinX3 hown hAm hP (by omega) (zM_o) rfl (by decide) (hts (.fieldLink RX3 13 "CosineSeriesModel" "degrees" "[I") (by decide +kernel)) (by first | rfl | simp [va_up, *]) dX3_goes_107 ?_
            refine lv_bipush (v := nI 10) hx hb dX3_goes_110 (by decide +kernel) ?_
            refine ziald (q := 2) (k := 10) (v := (nI (dg 10))) hx hb hAm hP (by omega) (zM_d) (by omega) (by decide) (by first | rfl | simp [va_up, *]) dX3_goes_112 ?_
            refine lv_goto (tgt := 123) hx hb dX3_goes_113 (by decide) ?_
            refine ziast (q := 2) (k := 11) (E' := (zME cL cI F (va_up (va_up C 8 pl) 11 f2) (va_up (va_up dg 8 (ztop pl 48)) 11 (dg 10)) Y)) hx hb hAm hP hF hS (by omega) (zM_d) (by omega) (by decide) dX3_goes_123 (by first | exact zM_ud | (rw [zM_ud]; simp only [bx_uu, va_up_eq])) (fun H locs hP hS => ?_)
            refine lv_iconst (v := nI 0) hx hb dX3_goes_124 (by decide +kernel) ?_
            refine lv_istore (lv' := [(7, .int (nI 0)), (0, .ref (F 0)), (1, .int (nI g)), (2, .int fa), (3, .long c0)]) hx hb dX3_goes_125 hl (by decide) rfl (fun ls hl => ?_)
            have L127 : ∀ (n : Nat) (k : Nat) (f3 : Nat → Int64) (hk : k ≤ (dg 10) + 1) (hf3 : ∀ j, f3 j = if j < k then f2 j - C 10 j else f2 j) (hn : (dg 10) + 1 - k < n) (H : Heap) (locs : List Loc), va_P D vwCl (zq_wd F 7 (zME cL cI F (va_up (va_up C 8 pl) 11 f3) (va_up (va_up dg 8 (ztop pl 48)) 11 (dg 10)) Y)) H → va_S A s.heap H locs → ∀ (ls : Array Slot), lv_has ls 8 [(0, .ref (F 0)), (1, .int (nI g)), (7, .int (nI k))] → W p l e ({ frames := 3, cells := 0, slots := 0, locals := 74 }) s m ([.ref (F 0), .int (nI g), .int fa, .long c0] : List Value).toArray below meth c H locs 0 0 (zQ below D A F 7 [.ref (F 0), .int (nI g), .int fa, .long c0] s (fun v2 E2 => v2 = (some (.long (zke f))) ∧ E2 = (zME cL cI F (va_up (va_up C 8 pl) 11 f) (va_up (va_up dg 8 (ztop pl 48)) 11 (ztop f 48)) Y))) (F0 m 127 ls []) := by
              intro n
              induction n with
              | zero =>
                intro k f3 hk hf3 hn
                exact absurd hn (Nat.not_lt_zero _)
              | succ n ih127 =>
                intro k f3 hk hf3 hn H locs hP hS ls hl
                refine lv_iload hx hb dX3_goes_127 (lv_at hl 2 rfl) ?_
                refine lv_aload_n hx hb dX3_goes_129 rfl (lv_at hl 0 rfl) ?_
                refine zget (q := 0) (k := 1) (v := .ref (F 2)) hx hb hts hinX3 hown hAm hP (by omega) (zM_o) rfl (by decide) (hts (.fieldLink RX3 13 "CosineSeriesModel" "degrees" "[I") (by decide +kernel)) (by first | rfl | simp [va_up, *]) dX3_goes_130 ?_
                refine lv_bipush (v := nI 11) hx hb dX3_goes_133 (by decide +kernel) ?_
                refine ziald (q := 2) (k := 11) (v := (nI (dg 10))) hx hb hAm hP (by omega) (zM_d) (by omega) (by decide) (by first | rfl | simp [va_up, *]) dX3_goes_135 ?_
                refine zi_gt (tgt := 170) hx hb dX3_goes_136 (by decide) (by omega) (by omega) (fun c5 => ?_) (fun c5 => ?_)
                ·
                  have hf3e : f3 = f := funext (fun j => by rw [hf3 j, ← hfe j]; by_cases h : j < k; (rw [if_pos h]); (rw [if_neg h, hzd j (by omega), Int64.sub_zero]))
                  have hP : va_P D vwCl (zq_wd F 7 (zME cL cI F (va_up (va_up C 8 pl) 11 f) (va_up (va_up dg 8 (ztop pl 48)) 11 (dg 10)) Y)) H := by rw [← hf3e]; exact hP
                  refine lv_aload_n hx hb dX3_goes_170 rfl (lv_at hl 0 rfl) ?_
                  refine lv_bipush (v := nI 11) hx hb dX3_goes_171 (by decide +kernel) ?_
                  refine zcallV (As := [.int (nI 11)]) (rest := []) (q := 0) (k := 1) hx hb hml hown hts (kX3_trims l D cL cI cR A F hF (va_up (va_up C 8 pl) 11 f) (va_up (va_up dg 8 (ztop pl 48)) 11 (dg 10)) Y 11 (by omega) f (by first | rfl | simp [va_up, *]) (dg 10) (by first | rfl | simp [va_up, *]) (by omega) (fun j hj => by rw [← hfe j, hf2z j (by omega), hzd j (by omega), Int64.sub_zero]) (va_up (va_up dg 8 (ztop pl 48)) 11 (ztop f 48)) (by first | rfl | simp only [bx_uu])) gX3_goes_X3_trims rfl (by decide +kernel) ⟨Nat.le_of_ble_eq_true rfl, Nat.le_of_ble_eq_true rfl⟩ rfl (by omega) (zM_o) rfl rfl hAm hP hS rfl hl.1 rfl (Nat.le_of_ble_eq_true rfl) dX3_goes_173 ⟨Nat.zero_le _, Nat.zero_le _⟩ (zkn (fun H locs hP hS => ?_))
                  refine W.eq (g2 := F0 m 176 ls [.long (zke f)]) rfl ?_
                  exact zretL hx hb hr hlk hS hP dX3_goes_176 ⟨rfl, rfl⟩
                ·
                  refine lv_aload_n hx hb dX3_goes_139 rfl (lv_at hl 0 rfl) ?_
                  refine lv_bipush (v := nI 11) hx hb dX3_goes_140 (by decide +kernel) ?_
                  refine lv_iload hx hb dX3_goes_142 (lv_at hl 2 rfl) ?_
                  refine lv_aload_n hx hb dX3_goes_144 rfl (lv_at hl 0 rfl) ?_
                  refine lv_bipush (v := nI 11) hx hb dX3_goes_145 (by decide +kernel) ?_
                  refine lv_iload hx hb dX3_goes_147 (lv_at hl 2 rfl) ?_
                  refine zcallV (As := [.int (nI 11), .int (nI k)]) (rest := [.int (nI k), .int (nI 11), .ref (F 0)]) (q := 0) (k := 2) hx hb hml hown hts (kX3_of l D cL cI cR A F hF (va_up (va_up C 8 pl) 11 f3) (va_up (va_up dg 8 (ztop pl 48)) 11 (dg 10)) Y 11 (by omega) k (by omega) (f3 k) (by first | rfl | simp [va_up, *])) gX3_goes_X3_of rfl (by decide +kernel) ⟨Nat.le_of_ble_eq_true rfl, Nat.le_of_ble_eq_true rfl⟩ rfl (by omega) (zM_o) rfl rfl hAm hP hS rfl hl.1 rfl (Nat.le_of_ble_eq_true rfl) dX3_goes_149 ⟨Nat.zero_le _, Nat.zero_le _⟩ (zkn (fun H locs hP hS => ?_))
                  refine W.eq (g2 := F0 m 152 ls [.long (f3 k), .int (nI k), .int (nI 11), .ref (F 0)]) rfl ?_
                  refine lv_aload_n hx hb dX3_goes_152 rfl (lv_at hl 0 rfl) ?_
                  refine lv_bipush (v := nI 10) hx hb dX3_goes_153 (by decide +kernel) ?_
                  refine lv_iload hx hb dX3_goes_155 (lv_at hl 2 rfl) ?_
                  refine zcallV (As := [.int (nI 10), .int (nI k)]) (rest := [.long (f3 k), .int (nI k), .int (nI 11), .ref (F 0)]) (q := 0) (k := 2) hx hb hml hown hts (kX3_of l D cL cI cR A F hF (va_up (va_up C 8 pl) 11 f3) (va_up (va_up dg 8 (ztop pl 48)) 11 (dg 10)) Y 10 (by omega) k (by omega) (C 10 k) (by simp [va_up])) gX3_goes_X3_of rfl (by decide +kernel) ⟨Nat.le_of_ble_eq_true rfl, Nat.le_of_ble_eq_true rfl⟩ rfl (by omega) (zM_o) rfl rfl hAm hP hS rfl hl.1 rfl (Nat.le_of_ble_eq_true rfl) dX3_goes_157 ⟨Nat.zero_le _, Nat.zero_le _⟩ (zkn (fun H locs hP hS => ?_))
                  refine W.eq (g2 := F0 m 160 ls [.long (C 10 k), .long (f3 k), .int (nI k), .int (nI 11), .ref (F 0)]) rfl ?_
                  refine lv_lsub hx hb dX3_goes_160 ?_
                  refine zcallV (As := [.int (nI 11), .int (nI k), .long ((f3 k) - (C 10 k))]) (rest := []) (q := 0) (k := 3) hx hb hml hown hts (kX3_sets l D cL cI cR A F hF (va_up (va_up C 8 pl) 11 f3) (va_up (va_up dg 8 (ztop pl 48)) 11 (dg 10)) Y 11 (by omega) k (by omega) ((f3 k) - (C 10 k)) (va_up (va_up C 8 pl) 11 (vp_updL f3 k ((f3 k) - (C 10 k)))) (by first | rfl | simp only [bx_uu, va_up_eq])) gX3_goes_X3_sets rfl (by decide +kernel) ⟨Nat.le_of_ble_eq_true rfl, Nat.le_of_ble_eq_true rfl⟩ rfl (by omega) (zM_o) rfl rfl hAm hP hS rfl hl.1 rfl (Nat.le_of_ble_eq_true rfl) dX3_goes_161 ⟨Nat.zero_le _, Nat.zero_le _⟩ (zkn (fun H locs hP hS => ?_))
                  refine W.eq (g2 := F0 m 164 ls []) rfl ?_
                  refine lv_iinc (v := (nI (k + 1))) (lv' := [(7, .int (nI (k + 1))), (0, .ref (F 0)), (1, .int (nI g))]) hx hb dX3_goes_164 hl (k := 2) rfl (zinc (by omega)) (by decide) rfl (fun ls hl => ?_)
                  refine lv_goto (tgt := 127) hx hb dX3_goes_167 (by decide) ?_
                  exact ih127 (k + 1) _ (by omega) (fun j => by unfold vp_updL; split; (rename_i h; rw [h, if_pos (by omega), hf3 k, if_neg (by omega)]); (rw [hf3 j]; by_cases h : j < k; (rw [if_pos h, if_pos (by omega)]); (rw [if_neg h, if_neg (by omega)]))) (by omega) H _ hP hS ls (lv_sub hl [1, 2, 0] rfl)
            exact L127 _ 0 f2 (by omega) (fun j => by rw [if_neg (by omega)]) (Nat.lt_succ_self _) H _ hP hS ls (lv_sub hl [1, 2, 0] rfl)
        ·
          refine lv_aload_n hx hb dX3_goes_42 rfl (lv_at hl 0 rfl) ?_
          refine lv_bipush (v := nI 11) hx hb dX3_goes_43 (by decide +kernel) ?_
          refine lv_iload hx hb dX3_goes_45 (lv_at hl 4 rfl) ?_
          refine lv_iload_n hx hb dX3_goes_47 rfl (lv_at hl 2 rfl) ?_
          refine lv_i2l (v := fa.toInt64) hx hb dX3_goes_48 rfl ?_
          refine lv_aload_n hx hb dX3_goes_49 rfl (lv_at hl 0 rfl) ?_
          refine lv_bipush (v := nI 11) hx hb dX3_goes_50 (by decide +kernel) ?_
          refine lv_iload hx hb dX3_goes_52 (lv_at hl 4 rfl) ?_
          refine zcallV (As := [.int (nI 11), .int (nI k)]) (rest := [.long fa.toInt64, .int (nI k), .int (nI 11), .ref (F 0)]) (q := 0) (k := 2) hx hb hml hown hts (kX3_of l D cL cI cR A F hF (va_up (va_up C 8 pl) 11 f1) (va_up (va_up dg 8 (ztop pl 48)) 11 (ztop pl 48)) Y 11 (by omega) k (by omega) (f1 k) (by first | rfl | simp [va_up, *])) gX3_goes_X3_of rfl (by decide +kernel) ⟨Nat.le_of_ble_eq_true rfl, Nat.le_of_ble_eq_true rfl⟩ rfl (by omega) (zM_o) rfl rfl hAm hP hS rfl hl.1 rfl (Nat.le_of_ble_eq_true rfl) dX3_goes_54 ⟨Nat.zero_le _, Nat.zero_le _⟩ (zkn (fun H locs hP hS => ?_))
          refine W.eq (g2 := F0 m 57 ls [.long (f1 k), .long fa.toInt64, .int (nI k), .int (nI 11), .ref (F 0)]) rfl ?_
          refine lv_lmul hx hb dX3_goes_57 ?_
          refine zcallV (As := [.int (nI 11), .int (nI k), .long (fa.toInt64 * (f1 k))]) (rest := []) (q := 0) (k := 3) hx hb hml hown hts (kX3_sets l D cL cI cR A F hF (va_up (va_up C 8 pl) 11 f1) (va_up (va_up dg 8 (ztop pl 48)) 11 (ztop pl 48)) Y 11 (by omega) k (by omega) (fa.toInt64 * (f1 k)) (va_up (va_up C 8 pl) 11 (vp_updL f1 k (fa.toInt64 * (f1 k)))) (by first | rfl | simp only [bx_uu, va_up_eq])) gX3_goes_X3_sets rfl (by decide +kernel) ⟨Nat.le_of_ble_eq_true rfl, Nat.le_of_ble_eq_true rfl⟩ rfl (by omega) (zM_o) rfl rfl hAm hP hS rfl hl.1 rfl (Nat.le_of_ble_eq_true rfl) dX3_goes_58 ⟨Nat.zero_le _, Nat.zero_le _⟩ (zkn (fun H locs hP hS => ?_))
          refine W.eq (g2 := F0 m 61 ls []) rfl ?_
          refine lv_iinc (v := (nI (k + 1))) (lv' := [(7, .int (nI (k + 1))), (0, .ref (F 0)), (1, .int (nI g)), (2, .int fa), (3, .long c0)]) hx hb dX3_goes_61 hl (k := 4) rfl (zinc (by omega)) (by decide) rfl (fun ls hl => ?_)
          refine lv_goto (tgt := 30) hx hb dX3_goes_64 (by decide) ?_
          exact ih30 (k + 1) _ (by omega) (fun j => by unfold vp_updL; split; (rename_i h; rw [h, if_pos (by omega), hf1 k, if_neg (by omega), hfl]); (rw [hf1 j]; by_cases h : j < k; (rw [if_pos h, if_pos (by omega)]); (rw [if_neg h, if_neg (by omega)]))) (by omega) H _ hP hS ls (lv_sub hl [1, 2, 3, 4, 0] rfl)
    exact L30 _ 0 pl (by omega) (fun j => by rw [if_neg (by omega)]) (Nat.lt_succ_self _) H _ hP hS ls (lv_sub hl [2, 3, 4, 5, 0] rfl)
  ·
    exact absurd he c1

set_option maxHeartbeats 4000000 in
set_option maxRecDepth 100000 in
theorem kX3_isFree (l : Launch) (D : va_G) (cL cI cR : ClassId) (A : Nat → Prop) (F : Nat → Nat) (hF : zq_F A F 7) (C : Nat → Nat → Int64) (dg : Nat → Nat) (Y : zZM) (s0 : Nat) (hs : s0 < 12) (h48 : dg s0 ≤ 48) (a0 b0 : Int32) (h1 : -1048576 ≤ a0.toInt) (h2 : a0.toInt ≤ b0.toInt) (h3 : b0.toInt ≤ 1048576) (b : Nat) (hv : b = zbN (zfr (C s0) (dg s0) a0.toInt64 b0.toInt64 = true)) : zCt l yX3_isFree wsX3_isFree 2 55 D cL cI cR A F 7 (zME cL cI F C dg Y) [.ref (F 0), .int (nI s0), .int a0, .int b0] (fun v2 E2 => v2 = (some (.int (nI b))) ∧ E2 = (zME cL cI F C dg Y)) := by
  refine zStart (cc := cX3_isFree) (maxL := 10) (ret := (some .boolean)) (by decide +kernel) rfl (Nat.le_of_ble_eq_true rfl) ?_
  intro p e s m below meth c hx hb hr hml hlk hown hts hAm H hP hS ls hl
  have hown : s.vm.findClass RX3 = some m.cls := hown
  have hl : lv_has ls 10 [(0, .ref (F 0)), (1, .int (nI s0)), (2, .int a0), (3, .int b0)] := hl
  have hinX3 : ∀ w ∈ u_ws RX3 TX3 8, w ∈ wsX3_isFree := by decide +kernel
  obtain ⟨mI, hmI⟩ : ∃ z : Int32, z = (a0 + b0) >>> ((nI 1) &&& 31) := ⟨_, rfl⟩
  have hmd := zmidI h1 h2 h3
  rw [← hmI] at hmd
  have hmx := zmaxI h1 h2 h3 hmd.1
  rw [hmd.2] at hmx
  refine lv_iload_n hx hb dX3_isFree_0 rfl (lv_at hl 2 rfl) ?_
  refine lv_iload_n hx hb dX3_isFree_1 rfl (lv_at hl 3 rfl) ?_
  refine zcallS (As := [.int a0, .int b0]) (rest := []) (k := 2) hx hb hml hown hts (kX3_middle l D cL cI cR A F 7 (zME cL cI F C dg Y) a0 b0) gX3_isFree_X3_middle rfl (by decide +kernel) ⟨Nat.le_of_ble_eq_true rfl, Nat.le_of_ble_eq_true rfl⟩ hAm hP hS rfl hl.1 rfl (Nat.le_of_ble_eq_true rfl) dX3_isFree_2 ⟨Nat.zero_le _, Nat.zero_le _⟩ (zkn (fun H locs hP hS => ?_))
  refine W.eq (g2 := F0 m 5 ls [.int ((a0 + b0) >>> ((nI 1) &&& 31))]) rfl ?_
  refine W.eq (g2 := F0 m 5 ls [.int mI]) (by rw [hmI]) ?_
  refine lv_istore (lv' := [(4, .int mI), (0, .ref (F 0)), (1, .int (nI s0)), (2, .int a0), (3, .int b0)]) hx hb dX3_isFree_5 hl (by decide) rfl (fun ls hl => ?_)
  refine lv_iload_n hx hb dX3_isFree_7 rfl (lv_at hl 4 rfl) ?_
  refine lv_iload hx hb dX3_isFree_8 (lv_at hl 0 rfl) ?_
  refine lv_isub hx hb dX3_isFree_10 ?_
  refine lv_iload hx hb dX3_isFree_11 (lv_at hl 0 rfl) ?_
  refine lv_iload_n hx hb dX3_isFree_13 rfl (lv_at hl 3 rfl) ?_
  refine lv_isub hx hb dX3_isFree_14 ?_
  refine lv_icmp_le (tgt := 26) hx hb dX3_isFree_15 (by decide) (fun c1 => ?_) (fun c1 => ?_)
  ·
    have hxx := hmx.1 c1
    refine lv_iload hx hb dX3_isFree_26 (lv_at hl 0 rfl) ?_
    refine lv_iload_n hx hb dX3_isFree_28 rfl (lv_at hl 3 rfl) ?_
    refine lv_isub hx hb dX3_isFree_29 ?_
    refine lv_i2l (v := (mI - a0).toInt64) hx hb dX3_isFree_30 rfl ?_
    refine W.eq (g2 := F0 m 31 ls [.long (zmax (b0.toInt64 - (zfl (a0.toInt64 + b0.toInt64) 2)) ((zfl (a0.toInt64 + b0.toInt64) 2) - a0.toInt64))]) (by rw [hxx]) ?_
    refine lv_lstore (lv' := [(5, .long (zmax (b0.toInt64 - (zfl (a0.toInt64 + b0.toInt64) 2)) ((zfl (a0.toInt64 + b0.toInt64) 2) - a0.toInt64))), (4, .int mI), (0, .ref (F 0)), (1, .int (nI s0)), (2, .int a0), (3, .int b0)]) hx hb dX3_isFree_31 hl (by decide) rfl (fun ls hl => ?_)
    refine lv_lconst (v := (0 : Int64)) hx hb dX3_isFree_33 (by decide +kernel) ?_
    refine lv_lstore (lv' := [(7, .long (0 : Int64)), (5, .long (zmax (b0.toInt64 - (zfl (a0.toInt64 + b0.toInt64) 2)) ((zfl (a0.toInt64 + b0.toInt64) 2) - a0.toInt64))), (4, .int mI), (0, .ref (F 0)), (1, .int (nI s0)), (2, .int a0), (3, .int b0)]) hx hb dX3_isFree_34 hl (by decide) rfl (fun ls hl => ?_)
    refine lv_iconst (v := nI 1) hx hb dX3_isFree_36 (by decide +kernel) ?_
    refine lv_istore (lv' := [(9, .int (nI 1)), (7, .long (0 : Int64)), (5, .long (zmax (b0.toInt64 - (zfl (a0.toInt64 + b0.toInt64) 2)) ((zfl (a0.toInt64 + b0.toInt64) 2) - a0.toInt64))), (4, .int mI), (0, .ref (F 0)), (1, .int (nI s0)), (2, .int a0), (3, .int b0)]) hx hb dX3_isFree_37 hl (by decide) rfl (fun ls hl => ?_)
    have L39 : ∀ (n : Nat) (m0 : Nat) (u : Int64) (hm0 : m0 ≤ dg s0) (hu : u = zstp (C s0) m0) (hn : dg s0 - m0 < n) (H : Heap) (locs : List Loc), va_P D vwCl (zq_wd F 7 (zME cL cI F C dg Y)) H → va_S A s.heap H locs → ∀ (ls : Array Slot), lv_has ls 10 [(0, .ref (F 0)), (1, .int (nI s0)), (4, .int mI), (5, .long (zmax (b0.toInt64 - (zfl (a0.toInt64 + b0.toInt64) 2)) ((zfl (a0.toInt64 + b0.toInt64) 2) - a0.toInt64))), (7, .long u), (9, .int (nI (m0 + 1)))] → W p l e ({ frames := 2, cells := 0, slots := 0, locals := 55 }) s m ([.ref (F 0), .int (nI s0), .int a0, .int b0] : List Value).toArray below meth c H locs 0 0 (zQ below D A F 7 [.ref (F 0), .int (nI s0), .int a0, .int b0] s (fun v2 E2 => v2 = (some (.int (nI b))) ∧ E2 = (zME cL cI F C dg Y))) (F0 m 39 ls []) := by
      intro n
      induction n with
      | zero =>
        intro m0 u hm0 hu hn
        exact absurd hn (Nat.not_lt_zero _)
      | succ n ih39 =>
        intro m0 u hm0 hu hn H locs hP hS ls hl
        refine lv_iload hx hb dX3_isFree_39 (lv_at hl 5 rfl) ?_
        refine lv_aload_n hx hb dX3_isFree_41 rfl (lv_at hl 0 rfl) ?_
        refine zget (q := 0) (k := 1) (v := .ref (F 2)) hx hb hts hinX3 hown hAm hP (by omega) (zM_o) rfl (by decide) (hts (.fieldLink RX3 13 "CosineSeriesModel" "degrees" "[I") (by decide +kernel)) (by first | rfl | simp [va_up, *]) dX3_isFree_42 ?_
        refine lv_iload_n hx hb dX3_isFree_45 rfl (lv_at hl 1 rfl) ?_
        refine ziald (q := 2) (k := s0) (v := (nI (dg s0))) hx hb hAm hP (by omega) (zM_d) (by omega) (by decide) (by first | rfl | simp [va_up, *]) dX3_isFree_46 ?_
        refine zi_gt (tgt := 79) hx hb dX3_isFree_47 (by decide) (by omega) (by omega) (fun c2 => ?_) (fun c2 => ?_)
        ·
          have hud : u = zstp (C s0) (dg s0) := by rw [hu, show m0 = dg s0 by omega]
          have hl : lv_has ls 10 [(0, .ref (F 0)), (1, .int (nI s0)), (4, .int mI), (5, .long (zmax (b0.toInt64 - (zfl (a0.toInt64 + b0.toInt64) 2)) ((zfl (a0.toInt64 + b0.toInt64) 2) - a0.toInt64))), (7, .long (zstp (C s0) (dg s0))), (9, .int (nI (m0 + 1)))] := by rw [← hud]; exact hl
          refine lv_aload_n hx hb dX3_isFree_79 rfl (lv_at hl 0 rfl) ?_
          refine lv_iload_n hx hb dX3_isFree_80 rfl (lv_at hl 1 rfl) ?_
          refine lv_iload hx hb dX3_isFree_81 (lv_at hl 2 rfl) ?_
          refine lv_i2l (v := mI.toInt64) hx hb dX3_isFree_83 rfl ?_
          refine W.eq (g2 := F0 m 84 ls [.long (zfl (a0.toInt64 + b0.toInt64) 2), .int (nI s0), .ref (F 0)]) (by rw [hmd.2]) ?_
          refine zcallV (As := [.int (nI s0), .long (zfl (a0.toInt64 + b0.toInt64) 2)]) (rest := []) (q := 0) (k := 2) hx hb hml hown hts (kX3_valueAt l D cL cI cR A F hF C dg Y s0 (by omega) (zfl (a0.toInt64 + b0.toInt64) 2) (C s0) (by first | rfl | simp [va_up, *]) (dg s0) (by first | rfl | simp [va_up, *]) (by omega)) gX3_isFree_X3_valueAt rfl (by decide +kernel) ⟨Nat.le_of_ble_eq_true rfl, Nat.le_of_ble_eq_true rfl⟩ rfl (by omega) (zM_o) rfl rfl hAm hP hS rfl hl.1 rfl (Nat.le_of_ble_eq_true rfl) dX3_isFree_84 ⟨Nat.zero_le _, Nat.zero_le _⟩ (zkn (fun H locs hP hS => ?_))
          refine W.eq (g2 := F0 m 87 ls [.long (zval (C s0) (dg s0) (zfl (a0.toInt64 + b0.toInt64) 2))]) rfl ?_
          refine zcallS (As := [.long (zval (C s0) (dg s0) (zfl (a0.toInt64 + b0.toInt64) 2))]) (rest := []) (k := 1) hx hb hml hown hts (kX3_size l D cL cI cR A F 7 (zME cL cI F C dg Y) (zval (C s0) (dg s0) (zfl (a0.toInt64 + b0.toInt64) 2))) gX3_isFree_X3_size rfl (by decide +kernel) ⟨Nat.le_of_ble_eq_true rfl, Nat.le_of_ble_eq_true rfl⟩ hAm hP hS rfl hl.1 rfl (Nat.le_of_ble_eq_true rfl) dX3_isFree_87 ⟨Nat.zero_le _, Nat.zero_le _⟩ (zkn (fun H locs hP hS => ?_))
          refine W.eq (g2 := F0 m 90 ls [.long (zabs (zval (C s0) (dg s0) (zfl (a0.toInt64 + b0.toInt64) 2)))]) rfl ?_
          refine lv_lload hx hb dX3_isFree_90 (lv_at hl 4 rfl) ?_
          refine lv_lload hx hb dX3_isFree_92 (lv_at hl 3 rfl) ?_
          refine lv_lmul hx hb dX3_isFree_94 ?_
          refine lv_ldc2 hx hb hown (hts (.constantLong RX3 45 (1048576)) (by decide +kernel)) dX3_isFree_95 ?_
          refine zcallS (As := [.long ((zstp (C s0) (dg s0)) * (zmax (b0.toInt64 - (zfl (a0.toInt64 + b0.toInt64) 2)) ((zfl (a0.toInt64 + b0.toInt64) 2) - a0.toInt64))), .long (1048576 : Int64)]) (rest := [.long (zabs (zval (C s0) (dg s0) (zfl (a0.toInt64 + b0.toInt64) 2)))]) (k := 2) hx hb hml hown hts (kX3_rounded l D cL cI cR A F 7 (zME cL cI F C dg Y) ((zstp (C s0) (dg s0)) * (zmax (b0.toInt64 - (zfl (a0.toInt64 + b0.toInt64) 2)) ((zfl (a0.toInt64 + b0.toInt64) 2) - a0.toInt64))) (1048576 : Int64) (by decide)) gX3_isFree_X3_rounded rfl (by decide +kernel) ⟨Nat.le_of_ble_eq_true rfl, Nat.le_of_ble_eq_true rfl⟩ hAm hP hS rfl hl.1 rfl (Nat.le_of_ble_eq_true rfl) dX3_isFree_98 ⟨Nat.zero_le _, Nat.zero_le _⟩ (zkn (fun H locs hP hS => ?_))
          refine W.eq (g2 := F0 m 101 ls [.long (zR ((zstp (C s0) (dg s0)) * (zmax (b0.toInt64 - (zfl (a0.toInt64 + b0.toInt64) 2)) ((zfl (a0.toInt64 + b0.toInt64) 2) - a0.toInt64))) (1048576 : Int64)), .long (zabs (zval (C s0) (dg s0) (zfl (a0.toInt64 + b0.toInt64) 2)))]) rfl ?_
          refine lv_ldc2 hx hb hown (hts (.constantLong RX3 153 (8)) (by decide +kernel)) dX3_isFree_101 ?_
          refine lv_aload_n hx hb dX3_isFree_104 rfl (lv_at hl 0 rfl) ?_
          refine zget (q := 0) (k := 1) (v := .ref (F 2)) hx hb hts hinX3 hown hAm hP (by omega) (zM_o) rfl (by decide) (hts (.fieldLink RX3 13 "CosineSeriesModel" "degrees" "[I") (by decide +kernel)) (by first | rfl | simp [va_up, *]) dX3_isFree_105 ?_
          refine lv_iload_n hx hb dX3_isFree_108 rfl (lv_at hl 1 rfl) ?_
          refine ziald (q := 2) (k := s0) (v := (nI (dg s0))) hx hb hAm hP (by omega) (zM_d) (by omega) (by decide) (by first | rfl | simp [va_up, *]) dX3_isFree_109 ?_
          refine lv_iconst (v := nI 1) hx hb dX3_isFree_110 (by decide +kernel) ?_
          refine ziadd (d := ((dg s0) + 1)) hx hb (by omega) dX3_isFree_111 ?_
          refine zi2l hx hb (by omega) dX3_isFree_112 ?_
          refine lv_lmul hx hb dX3_isFree_113 ?_
          refine lv_ladd hx hb dX3_isFree_114 ?_
          refine zl_le (tgt := 123) hx hb dX3_isFree_115 dX3_isFree_116 (by decide) (fun c3 => ?_) (fun c3 => ?_)
          ·
            refine lv_iconst (v := nI 0) hx hb dX3_isFree_123 (by decide +kernel) ?_
            exact zretZ hx hb hr hlk hS hP (by first | rfl | (rw [hv]; unfold zbN; split <;> rfl)) dX3_isFree_124 ⟨by rw [hv]; unfold zbN zfr; rw [if_neg (fun h => absurd (of_decide_eq_true h) (Int64.not_lt.mpr c3))], rfl⟩
          ·
            refine lv_iconst (v := nI 1) hx hb dX3_isFree_119 (by decide +kernel) ?_
            refine lv_goto (tgt := 124) hx hb dX3_isFree_120 (by decide) ?_
            exact zretZ hx hb hr hlk hS hP (by first | rfl | (rw [hv]; unfold zbN; split <;> rfl)) dX3_isFree_124 ⟨by rw [hv]; unfold zbN zfr; rw [if_pos (decide_eq_true (Int64.not_le.mp c3))], rfl⟩
        ·
          refine lv_lload hx hb dX3_isFree_50 (lv_at hl 4 rfl) ?_
          refine lv_iload hx hb dX3_isFree_52 (lv_at hl 5 rfl) ?_
          refine zi2l hx hb (by omega) dX3_isFree_54 ?_
          refine lv_iload hx hb dX3_isFree_55 (lv_at hl 5 rfl) ?_
          refine zi2l hx hb (by omega) dX3_isFree_57 ?_
          refine lv_lmul hx hb dX3_isFree_58 ?_
          refine lv_aload_n hx hb dX3_isFree_59 rfl (lv_at hl 0 rfl) ?_
          refine lv_iload_n hx hb dX3_isFree_60 rfl (lv_at hl 1 rfl) ?_
          refine lv_iload hx hb dX3_isFree_61 (lv_at hl 5 rfl) ?_
          refine zcallV (As := [.int (nI s0), .int (nI (m0 + 1))]) (rest := [.long ((lN (m0 + 1)) * (lN (m0 + 1))), .long u]) (q := 0) (k := 2) hx hb hml hown hts (kX3_of l D cL cI cR A F hF C dg Y s0 (by omega) (m0 + 1) (by omega) ((C s0) (m0 + 1)) (by first | rfl | simp [va_up, *])) gX3_isFree_X3_of rfl (by decide +kernel) ⟨Nat.le_of_ble_eq_true rfl, Nat.le_of_ble_eq_true rfl⟩ rfl (by omega) (zM_o) rfl rfl hAm hP hS rfl hl.1 rfl (Nat.le_of_ble_eq_true rfl) dX3_isFree_63 ⟨Nat.zero_le _, Nat.zero_le _⟩ (zkn (fun H locs hP hS => ?_))
          refine W.eq (g2 := F0 m 66 ls [.long ((C s0) (m0 + 1)), .long ((lN (m0 + 1)) * (lN (m0 + 1))), .long u]) rfl ?_
          refine zcallS (As := [.long ((C s0) (m0 + 1))]) (rest := [.long ((lN (m0 + 1)) * (lN (m0 + 1))), .long u]) (k := 1) hx hb hml hown hts (kX3_size l D cL cI cR A F 7 (zME cL cI F C dg Y) ((C s0) (m0 + 1))) gX3_isFree_X3_size rfl (by decide +kernel) ⟨Nat.le_of_ble_eq_true rfl, Nat.le_of_ble_eq_true rfl⟩ hAm hP hS rfl hl.1 rfl (Nat.le_of_ble_eq_true rfl) dX3_isFree_66 ⟨Nat.zero_le _, Nat.zero_le _⟩ (zkn (fun H locs hP hS => ?_))
          refine W.eq (g2 := F0 m 69 ls [.long (zabs ((C s0) (m0 + 1))), .long ((lN (m0 + 1)) * (lN (m0 + 1))), .long u]) rfl ?_
          refine lv_lmul hx hb dX3_isFree_69 ?_
          refine lv_ladd hx hb dX3_isFree_70 ?_
          refine lv_lstore (lv' := [(7, .long (u + (((lN (m0 + 1)) * (lN (m0 + 1))) * (zabs ((C s0) (m0 + 1)))))), (0, .ref (F 0)), (1, .int (nI s0)), (4, .int mI), (5, .long (zmax (b0.toInt64 - (zfl (a0.toInt64 + b0.toInt64) 2)) ((zfl (a0.toInt64 + b0.toInt64) 2) - a0.toInt64))), (9, .int (nI (m0 + 1)))]) hx hb dX3_isFree_71 hl (by decide) rfl (fun ls hl => ?_)
          refine lv_iinc (v := (nI (m0 + 2))) (lv' := [(9, .int (nI (m0 + 2))), (7, .long (u + (((lN (m0 + 1)) * (lN (m0 + 1))) * (zabs ((C s0) (m0 + 1)))))), (0, .ref (F 0)), (1, .int (nI s0)), (4, .int mI), (5, .long (zmax (b0.toInt64 - (zfl (a0.toInt64 + b0.toInt64) 2)) ((zfl (a0.toInt64 + b0.toInt64) 2) - a0.toInt64)))]) hx hb dX3_isFree_73 hl (k := 5) rfl (zinc (by omega)) (by decide) rfl (fun ls hl => ?_)
          refine lv_goto (tgt := 39) hx hb dX3_isFree_76 (by decide) ?_
          exact ih39 (m0 + 1) (u + (((lN (m0 + 1)) * (lN (m0 + 1))) * (zabs ((C s0) (m0 + 1))))) (by omega) (by rw [hu, lN_mul]; rfl) (by omega) H _ hP hS ls (lv_sub hl [2, 3, 4, 5, 1, 0] rfl)
    exact L39 _ 0 0 (by omega) rfl (Nat.lt_succ_self _) H _ hP hS ls (lv_sub hl [4, 5, 3, 2, 1, 0] rfl)
  ·
    have hxx := hmx.2 c1
    refine lv_iload_n hx hb dX3_isFree_18 rfl (lv_at hl 4 rfl) ?_
    refine lv_iload hx hb dX3_isFree_19 (lv_at hl 0 rfl) ?_
    refine lv_isub hx hb dX3_isFree_21 ?_
    refine lv_i2l (v := (b0 - mI).toInt64) hx hb dX3_isFree_22 rfl ?_
    refine lv_goto (tgt := 31) hx hb dX3_isFree_23 (by decide) ?_
    refine W.eq (g2 := F0 m 31 ls [.long (zmax (b0.toInt64 - (zfl (a0.toInt64 + b0.toInt64) 2)) ((zfl (a0.toInt64 + b0.toInt64) 2) - a0.toInt64))]) (by rw [hxx]) ?_
    refine lv_lstore (lv' := [(5, .long (zmax (b0.toInt64 - (zfl (a0.toInt64 + b0.toInt64) 2)) ((zfl (a0.toInt64 + b0.toInt64) 2) - a0.toInt64))), (4, .int mI), (0, .ref (F 0)), (1, .int (nI s0)), (2, .int a0), (3, .int b0)]) hx hb dX3_isFree_31 hl (by decide) rfl (fun ls hl => ?_)
    refine lv_lconst (v := (0 : Int64)) hx hb dX3_isFree_33 (by decide +kernel) ?_
    refine lv_lstore (lv' := [(7, .long (0 : Int64)), (5, .long (zmax (b0.toInt64 - (zfl (a0.toInt64 + b0.toInt64) 2)) ((zfl (a0.toInt64 + b0.toInt64) 2) - a0.toInt64))), (4, .int mI), (0, .ref (F 0)), (1, .int (nI s0)), (2, .int a0), (3, .int b0)]) hx hb dX3_isFree_34 hl (by decide) rfl (fun ls hl => ?_)
    refine lv_iconst (v := nI 1) hx hb dX3_isFree_36 (by decide +kernel) ?_
    refine lv_istore (lv' := [(9, .int (nI 1)), (7, .long (0 : Int64)), (5, .long (zmax (b0.toInt64 - (zfl (a0.toInt64 + b0.toInt64) 2)) ((zfl (a0.toInt64 + b0.toInt64) 2) - a0.toInt64))), (4, .int mI), (0, .ref (F 0)), (1, .int (nI s0)), (2, .int a0), (3, .int b0)]) hx hb dX3_isFree_37 hl (by decide) rfl (fun ls hl => ?_)
    have L39 : ∀ (n : Nat) (m0 : Nat) (u : Int64) (hm0 : m0 ≤ dg s0) (hu : u = zstp (C s0) m0) (hn : dg s0 - m0 < n) (H : Heap) (locs : List Loc), va_P D vwCl (zq_wd F 7 (zME cL cI F C dg Y)) H → va_S A s.heap H locs → ∀ (ls : Array Slot), lv_has ls 10 [(0, .ref (F 0)), (1, .int (nI s0)), (4, .int mI), (5, .long (zmax (b0.toInt64 - (zfl (a0.toInt64 + b0.toInt64) 2)) ((zfl (a0.toInt64 + b0.toInt64) 2) - a0.toInt64))), (7, .long u), (9, .int (nI (m0 + 1)))] → W p l e ({ frames := 2, cells := 0, slots := 0, locals := 55 }) s m ([.ref (F 0), .int (nI s0), .int a0, .int b0] : List Value).toArray below meth c H locs 0 0 (zQ below D A F 7 [.ref (F 0), .int (nI s0), .int a0, .int b0] s (fun v2 E2 => v2 = (some (.int (nI b))) ∧ E2 = (zME cL cI F C dg Y))) (F0 m 39 ls []) := by
      intro n
      induction n with
      | zero =>
        intro m0 u hm0 hu hn
        exact absurd hn (Nat.not_lt_zero _)
      | succ n ih39 =>
        intro m0 u hm0 hu hn H locs hP hS ls hl
        refine lv_iload hx hb dX3_isFree_39 (lv_at hl 5 rfl) ?_
        refine lv_aload_n hx hb dX3_isFree_41 rfl (lv_at hl 0 rfl) ?_
        refine zget (q := 0) (k := 1) (v := .ref (F 2)) hx hb hts hinX3 hown hAm hP (by omega) (zM_o) rfl (by decide) (hts (.fieldLink RX3 13 "CosineSeriesModel" "degrees" "[I") (by decide +kernel)) (by first | rfl | simp [va_up, *]) dX3_isFree_42 ?_
        refine lv_iload_n hx hb dX3_isFree_45 rfl (lv_at hl 1 rfl) ?_
        refine ziald (q := 2) (k := s0) (v := (nI (dg s0))) hx hb hAm hP (by omega) (zM_d) (by omega) (by decide) (by first | rfl | simp [va_up, *]) dX3_isFree_46 ?_
        refine zi_gt (tgt := 79) hx hb dX3_isFree_47 (by decide) (by omega) (by omega) (fun c4 => ?_) (fun c4 => ?_)
        ·
          have hud : u = zstp (C s0) (dg s0) := by rw [hu, show m0 = dg s0 by omega]
          have hl : lv_has ls 10 [(0, .ref (F 0)), (1, .int (nI s0)), (4, .int mI), (5, .long (zmax (b0.toInt64 - (zfl (a0.toInt64 + b0.toInt64) 2)) ((zfl (a0.toInt64 + b0.toInt64) 2) - a0.toInt64))), (7, .long (zstp (C s0) (dg s0))), (9, .int (nI (m0 + 1)))] := by rw [← hud]; exact hl
          refine lv_aload_n hx hb dX3_isFree_79 rfl (lv_at hl 0 rfl) ?_
          refine lv_iload_n hx hb dX3_isFree_80 rfl (lv_at hl 1 rfl) ?_
          refine lv_iload hx hb dX3_isFree_81 (lv_at hl 2 rfl) ?_
          refine lv_i2l (v := mI.toInt64) hx hb dX3_isFree_83 rfl ?_
          refine W.eq (g2 := F0 m 84 ls [.long (zfl (a0.toInt64 + b0.toInt64) 2), .int (nI s0), .ref (F 0)]) (by rw [hmd.2]) ?_
          refine zcallV (As := [.int (nI s0), .long (zfl (a0.toInt64 + b0.toInt64) 2)]) (rest := []) (q := 0) (k := 2) hx hb hml hown hts (kX3_valueAt l D cL cI cR A F hF C dg Y s0 (by omega) (zfl (a0.toInt64 + b0.toInt64) 2) (C s0) (by first | rfl | simp [va_up, *]) (dg s0) (by first | rfl | simp [va_up, *]) (by omega)) gX3_isFree_X3_valueAt rfl (by decide +kernel) ⟨Nat.le_of_ble_eq_true rfl, Nat.le_of_ble_eq_true rfl⟩ rfl (by omega) (zM_o) rfl rfl hAm hP hS rfl hl.1 rfl (Nat.le_of_ble_eq_true rfl) dX3_isFree_84 ⟨Nat.zero_le _, Nat.zero_le _⟩ (zkn (fun H locs hP hS => ?_))
          refine W.eq (g2 := F0 m 87 ls [.long (zval (C s0) (dg s0) (zfl (a0.toInt64 + b0.toInt64) 2))]) rfl ?_
          refine zcallS (As := [.long (zval (C s0) (dg s0) (zfl (a0.toInt64 + b0.toInt64) 2))]) (rest := []) (k := 1) hx hb hml hown hts (kX3_size l D cL cI cR A F 7 (zME cL cI F C dg Y) (zval (C s0) (dg s0) (zfl (a0.toInt64 + b0.toInt64) 2))) gX3_isFree_X3_size rfl (by decide +kernel) ⟨Nat.le_of_ble_eq_true rfl, Nat.le_of_ble_eq_true rfl⟩ hAm hP hS rfl hl.1 rfl (Nat.le_of_ble_eq_true rfl) dX3_isFree_87 ⟨Nat.zero_le _, Nat.zero_le _⟩ (zkn (fun H locs hP hS => ?_))
          refine W.eq (g2 := F0 m 90 ls [.long (zabs (zval (C s0) (dg s0) (zfl (a0.toInt64 + b0.toInt64) 2)))]) rfl ?_
          refine lv_lload hx hb dX3_isFree_90 (lv_at hl 4 rfl) ?_
          refine lv_lload hx hb dX3_isFree_92 (lv_at hl 3 rfl) ?_
          refine lv_lmul hx hb dX3_isFree_94 ?_
          refine lv_ldc2 hx hb hown (hts (.constantLong RX3 45 (1048576)) (by decide +kernel)) dX3_isFree_95 ?_
          refine zcallS (As := [.long ((zstp (C s0) (dg s0)) * (zmax (b0.toInt64 - (zfl (a0.toInt64 + b0.toInt64) 2)) ((zfl (a0.toInt64 + b0.toInt64) 2) - a0.toInt64))), .long (1048576 : Int64)]) (rest := [.long (zabs (zval (C s0) (dg s0) (zfl (a0.toInt64 + b0.toInt64) 2)))]) (k := 2) hx hb hml hown hts (kX3_rounded l D cL cI cR A F 7 (zME cL cI F C dg Y) ((zstp (C s0) (dg s0)) * (zmax (b0.toInt64 - (zfl (a0.toInt64 + b0.toInt64) 2)) ((zfl (a0.toInt64 + b0.toInt64) 2) - a0.toInt64))) (1048576 : Int64) (by decide)) gX3_isFree_X3_rounded rfl (by decide +kernel) ⟨Nat.le_of_ble_eq_true rfl, Nat.le_of_ble_eq_true rfl⟩ hAm hP hS rfl hl.1 rfl (Nat.le_of_ble_eq_true rfl) dX3_isFree_98 ⟨Nat.zero_le _, Nat.zero_le _⟩ (zkn (fun H locs hP hS => ?_))
          refine W.eq (g2 := F0 m 101 ls [.long (zR ((zstp (C s0) (dg s0)) * (zmax (b0.toInt64 - (zfl (a0.toInt64 + b0.toInt64) 2)) ((zfl (a0.toInt64 + b0.toInt64) 2) - a0.toInt64))) (1048576 : Int64)), .long (zabs (zval (C s0) (dg s0) (zfl (a0.toInt64 + b0.toInt64) 2)))]) rfl ?_
          refine lv_ldc2 hx hb hown (hts (.constantLong RX3 153 (8)) (by decide +kernel)) dX3_isFree_101 ?_
          refine lv_aload_n hx hb dX3_isFree_104 rfl (lv_at hl 0 rfl) ?_
          refine zget (q := 0) (k := 1) (v := .ref (F 2)) hx hb hts hinX3 hown hAm hP (by omega) (zM_o) rfl (by decide) (hts (.fieldLink RX3 13 "CosineSeriesModel" "degrees" "[I") (by decide +kernel)) (by first | rfl | simp [va_up, *]) dX3_isFree_105 ?_
          refine lv_iload_n hx hb dX3_isFree_108 rfl (lv_at hl 1 rfl) ?_
          refine ziald (q := 2) (k := s0) (v := (nI (dg s0))) hx hb hAm hP (by omega) (zM_d) (by omega) (by decide) (by first | rfl | simp [va_up, *]) dX3_isFree_109 ?_
          refine lv_iconst (v := nI 1) hx hb dX3_isFree_110 (by decide +kernel) ?_
          refine ziadd (d := ((dg s0) + 1)) hx hb (by omega) dX3_isFree_111 ?_
          refine zi2l hx hb (by omega) dX3_isFree_112 ?_
          refine lv_lmul hx hb dX3_isFree_113 ?_
          refine lv_ladd hx hb dX3_isFree_114 ?_
          refine zl_le (tgt := 123) hx hb dX3_isFree_115 dX3_isFree_116 (by decide) (fun c5 => ?_) (fun c5 => ?_)
          ·
            refine lv_iconst (v := nI 0) hx hb dX3_isFree_123 (by decide +kernel) ?_
            exact zretZ hx hb hr hlk hS hP (by first | rfl | (rw [hv]; unfold zbN; split <;> rfl)) dX3_isFree_124 ⟨by rw [hv]; unfold zbN zfr; rw [if_neg (fun h => absurd (of_decide_eq_true h) (Int64.not_lt.mpr c5))], rfl⟩
          ·
            refine lv_iconst (v := nI 1) hx hb dX3_isFree_119 (by decide +kernel) ?_
            refine lv_goto (tgt := 124) hx hb dX3_isFree_120 (by decide) ?_
            exact zretZ hx hb hr hlk hS hP (by first | rfl | (rw [hv]; unfold zbN; split <;> rfl)) dX3_isFree_124 ⟨by rw [hv]; unfold zbN zfr; rw [if_pos (decide_eq_true (Int64.not_le.mp c5))], rfl⟩
        ·
          refine lv_lload hx hb dX3_isFree_50 (lv_at hl 4 rfl) ?_
          refine lv_iload hx hb dX3_isFree_52 (lv_at hl 5 rfl) ?_
          refine zi2l hx hb (by omega) dX3_isFree_54 ?_
          refine lv_iload hx hb dX3_isFree_55 (lv_at hl 5 rfl) ?_
          refine zi2l hx hb (by omega) dX3_isFree_57 ?_
          refine lv_lmul hx hb dX3_isFree_58 ?_
          refine lv_aload_n hx hb dX3_isFree_59 rfl (lv_at hl 0 rfl) ?_
          refine lv_iload_n hx hb dX3_isFree_60 rfl (lv_at hl 1 rfl) ?_
          refine lv_iload hx hb dX3_isFree_61 (lv_at hl 5 rfl) ?_
          refine zcallV (As := [.int (nI s0), .int (nI (m0 + 1))]) (rest := [.long ((lN (m0 + 1)) * (lN (m0 + 1))), .long u]) (q := 0) (k := 2) hx hb hml hown hts (kX3_of l D cL cI cR A F hF C dg Y s0 (by omega) (m0 + 1) (by omega) ((C s0) (m0 + 1)) (by first | rfl | simp [va_up, *])) gX3_isFree_X3_of rfl (by decide +kernel) ⟨Nat.le_of_ble_eq_true rfl, Nat.le_of_ble_eq_true rfl⟩ rfl (by omega) (zM_o) rfl rfl hAm hP hS rfl hl.1 rfl (Nat.le_of_ble_eq_true rfl) dX3_isFree_63 ⟨Nat.zero_le _, Nat.zero_le _⟩ (zkn (fun H locs hP hS => ?_))
          refine W.eq (g2 := F0 m 66 ls [.long ((C s0) (m0 + 1)), .long ((lN (m0 + 1)) * (lN (m0 + 1))), .long u]) rfl ?_
          refine zcallS (As := [.long ((C s0) (m0 + 1))]) (rest := [.long ((lN (m0 + 1)) * (lN (m0 + 1))), .long u]) (k := 1) hx hb hml hown hts (kX3_size l D cL cI cR A F 7 (zME cL cI F C dg Y) ((C s0) (m0 + 1))) gX3_isFree_X3_size rfl (by decide +kernel) ⟨Nat.le_of_ble_eq_true rfl, Nat.le_of_ble_eq_true rfl⟩ hAm hP hS rfl hl.1 rfl (Nat.le_of_ble_eq_true rfl) dX3_isFree_66 ⟨Nat.zero_le _, Nat.zero_le _⟩ (zkn (fun H locs hP hS => ?_))
          refine W.eq (g2 := F0 m 69 ls [.long (zabs ((C s0) (m0 + 1))), .long ((lN (m0 + 1)) * (lN (m0 + 1))), .long u]) rfl ?_
          refine lv_lmul hx hb dX3_isFree_69 ?_
          refine lv_ladd hx hb dX3_isFree_70 ?_
          refine lv_lstore (lv' := [(7, .long (u + (((lN (m0 + 1)) * (lN (m0 + 1))) * (zabs ((C s0) (m0 + 1)))))), (0, .ref (F 0)), (1, .int (nI s0)), (4, .int mI), (5, .long (zmax (b0.toInt64 - (zfl (a0.toInt64 + b0.toInt64) 2)) ((zfl (a0.toInt64 + b0.toInt64) 2) - a0.toInt64))), (9, .int (nI (m0 + 1)))]) hx hb dX3_isFree_71 hl (by decide) rfl (fun ls hl => ?_)
          refine lv_iinc (v := (nI (m0 + 2))) (lv' := [(9, .int (nI (m0 + 2))), (7, .long (u + (((lN (m0 + 1)) * (lN (m0 + 1))) * (zabs ((C s0) (m0 + 1)))))), (0, .ref (F 0)), (1, .int (nI s0)), (4, .int mI), (5, .long (zmax (b0.toInt64 - (zfl (a0.toInt64 + b0.toInt64) 2)) ((zfl (a0.toInt64 + b0.toInt64) 2) - a0.toInt64)))]) hx hb dX3_isFree_73 hl (k := 5) rfl (zinc (by omega)) (by decide) rfl (fun ls hl => ?_)
          refine lv_goto (tgt := 39) hx hb dX3_isFree_76 (by decide) ?_
          exact ih39 (m0 + 1) (u + (((lN (m0 + 1)) * (lN (m0 + 1))) * (zabs ((C s0) (m0 + 1))))) (by omega) (by rw [hu, lN_mul]; rfl) (by omega) H _ hP hS ls (lv_sub hl [2, 3, 4, 5, 1, 0] rfl)
    exact L39 _ 0 0 (by omega) rfl (Nat.lt_succ_self _) H _ hP hS ls (lv_sub hl [4, 5, 3, 2, 1, 0] rfl)

set_option maxHeartbeats 4000000 in
set_option maxRecDepth 100000 in
theorem kX3_searches (l : Launch) (D : va_G) (cL cI cR : ClassId) (A : Nat → Prop) (F : Nat → Nat) (hF : zq_F A F 7) (C : Nat → Nat → Int64) (dg : Nat → Nat) (vals found waits : Nat → Int32) (roots looks : Nat) (s0 : Nat) (hs : s0 < 12) (h48 : dg s0 ≤ 48) : zCt l yX3_searches wsX3_searches 3 84 D cL cI cR A F 7 (zME cL cI F C dg (vals, found, waits, roots, looks)) [.ref (F 0), .int (nI s0)] (fun v2 E2 => ∃ (fd2 ws2 : Nat → Int32), v2 = none ∧ E2 = zME cL cI F C dg (vals, fd2, ws2, (zroots (C s0) (dg s0)).1.length, (zroots (C s0) (dg s0)).2) ∧ zrtsI fd2 (zroots (C s0) (dg s0)).1) := by
  refine zStart (cc := cX3_searches) (maxL := 6) (ret := none) (by decide +kernel) rfl (Nat.le_of_ble_eq_true rfl) ?_
  intro p e s m below meth c hx hb hr hml hlk hown hts hAm H hP hS ls hl
  have hown : s.vm.findClass RX3 = some m.cls := hown
  have hl : lv_has ls 6 [(0, .ref (F 0)), (1, .int (nI s0))] := hl
  have hinX3 : ∀ w ∈ u_ws RX3 TX3 8, w ∈ wsX3_searches := by decide +kernel
  refine lv_aload_n hx hb dX3_searches_0 rfl (lv_at hl 0 rfl) ?_
  refine lv_iconst (v := nI 0) hx hb dX3_searches_1 (by decide +kernel) ?_
  refine zput (q := 0) (k := 4) (ty := .int) (E' := (zME cL cI F C dg (vals, found, waits, 0, looks))) hx hb hts hinX3 tyX3 tyX3_ok nmX3 hown hAm hP hF hS (by omega) (zM_o) rfl (by decide) (hts (.fieldLink RX3 155 "CosineSeriesModel" "roots" "I") (by decide +kernel)) rfl rfl rfl rfl (Nat.le_of_ble_eq_true rfl) dX3_searches_2 (zM_uo) (fun H locs hP hS => ?_)
  refine lv_aload_n hx hb dX3_searches_5 rfl (lv_at hl 0 rfl) ?_
  refine lv_iconst (v := nI 0) hx hb dX3_searches_6 (by decide +kernel) ?_
  refine zput (q := 0) (k := 6) (ty := .int) (E' := (zME cL cI F C dg (vals, found, waits, 0, 0))) hx hb hts hinX3 tyX3 tyX3_ok nmX3 hown hAm hP hF hS (by omega) (zM_o) rfl (by decide) (hts (.fieldLink RX3 159 "CosineSeriesModel" "looks" "I") (by decide +kernel)) rfl rfl rfl rfl (Nat.le_of_ble_eq_true rfl) dX3_searches_7 (zM_uo) (fun H locs hP hS => ?_)
  refine lv_iconst (v := nI 1) hx hb dX3_searches_10 (by decide +kernel) ?_
  refine lv_istore_n (lv' := [(2, .int (nI 1)), (0, .ref (F 0)), (1, .int (nI s0))]) hx hb dX3_searches_11 rfl hl (by decide) rfl (fun ls hl => ?_)
  refine lv_aload_n hx hb dX3_searches_12 rfl (lv_at hl 1 rfl) ?_
  refine zget (q := 0) (k := 7) (v := .ref (F 6)) hx hb hts hinX3 hown hAm hP (by omega) (zM_o) rfl (by decide) (hts (.fieldLink RX3 34 "CosineSeriesModel" "waits" "[I") (by decide +kernel)) (by first | rfl | simp [va_up, *]) dX3_searches_13 ?_
  refine lv_iconst (v := nI 0) hx hb dX3_searches_16 (by decide +kernel) ?_
  refine lv_ldc hx hb hown (hts (.constant RX3 162 (-1048576)) (by decide +kernel)) dX3_searches_17 ?_
  refine ziast (q := 6) (k := 0) (E' := (zME cL cI F C dg (vals, found, (upd waits 0 (-1048576 : Int32)), 0, 0))) hx hb hAm hP hF hS (by omega) (zM_w) (by omega) (by decide) dX3_searches_19 (zM_uw) (fun H locs hP hS => ?_)
  refine lv_aload_n hx hb dX3_searches_20 rfl (lv_at hl 1 rfl) ?_
  refine zget (q := 0) (k := 7) (v := .ref (F 6)) hx hb hts hinX3 hown hAm hP (by omega) (zM_o) rfl (by decide) (hts (.fieldLink RX3 34 "CosineSeriesModel" "waits" "[I") (by decide +kernel)) (by first | rfl | simp [va_up, *]) dX3_searches_21 ?_
  refine lv_iconst (v := nI 1) hx hb dX3_searches_24 (by decide +kernel) ?_
  refine lv_ldc hx hb hown (hts (.constant RX3 20 (1048576)) (by decide +kernel)) dX3_searches_25 ?_
  refine ziast (q := 6) (k := 1) (E' := (zME cL cI F C dg (vals, found, (upd (upd waits 0 (-1048576 : Int32)) 1 (1048576 : Int32)), 0, 0))) hx hb hAm hP hF hS (by omega) (zM_w) (by omega) (by decide) dX3_searches_27 (zM_uw) (fun H locs hP hS => ?_)
  have L28 : ∀ (n : Nat) (u m1 : Nat) (ws fd : Nat → Int32) (fs : List Int64) (lo : Nat) (hu : u + lo = 2001 ∧ lo ≤ 2000) (hsp : zsea (zfr (C s0) (dg s0)) u (zlst ws m1) fs lo = (zroots (C s0) (dg s0))) (hok : zok (zlst ws m1)) (hrt : fs.length ≤ 24 ∧ zrtsI fd fs) (hw32 : m1 ≤ 32) (hn : u < n) (H : Heap) (locs : List Loc), va_P D vwCl (zq_wd F 7 (zME cL cI F C dg (vals, fd, ws, fs.length, lo))) H → va_S A s.heap H locs → ∀ (ls : Array Slot), lv_has ls 6 [(0, .ref (F 0)), (1, .int (nI s0)), (2, .int (nI m1))] → W p l e ({ frames := 3, cells := 0, slots := 0, locals := 84 }) s m ([.ref (F 0), .int (nI s0)] : List Value).toArray below meth c H locs 0 0 (zQ below D A F 7 [.ref (F 0), .int (nI s0)] s (fun v2 E2 => ∃ (fd2 ws2 : Nat → Int32), v2 = none ∧ E2 = zME cL cI F C dg (vals, fd2, ws2, (zroots (C s0) (dg s0)).1.length, (zroots (C s0) (dg s0)).2) ∧ zrtsI fd2 (zroots (C s0) (dg s0)).1)) (F0 m 28 ls []) := by
    intro n
    induction n with
    | zero =>
      intro u m1 ws fd fs lo hu hsp hok hrt hw32 hn
      exact absurd hn (Nat.not_lt_zero _)
    | succ n ih28 =>
      intro u m1 ws fd fs lo hu hsp hok hrt hw32 hn H locs hP hS ls hl
      obtain ⟨hrl, hrt⟩ := hrt
      obtain ⟨u, rfl⟩ : ∃ j, u = j + 1 := ⟨u - 1, by omega⟩
      refine lv_iload_n hx hb dX3_searches_28 rfl (lv_at hl 2 rfl) ?_
      refine zf_le (tgt := 216) hx hb dX3_searches_29 (by decide) (by omega) (fun c1 => ?_) (fun c1 => ?_)
      ·
        have hw0 : m1 = 0 := c1
        have hfin : (fs, lo) = (zroots (C s0) (dg s0)) := by rw [← hsp, hw0]; rfl
        exact zretV hx hb hr hlk hS hP dX3_searches_216 ⟨_, _, rfl, by rw [← hfin], by rw [← hfin]; exact hrt⟩
      ·
        obtain ⟨k, rfl⟩ : ∃ j, m1 = j + 1 := ⟨m1 - 1, by omega⟩
        have hk17 : k ≤ 17 := by have := hok.2.2.1; rw [zlst_len] at this; exact this
        have hb1 := hok.1.1
        have hb2 := hok.1.2.1
        have hb3 := hok.1.2.2
        rw [Int32.toInt_toInt64] at hb1 hb2 hb3
        rw [Int32.toInt_toInt64] at hb2
        obtain ⟨mI, hmI⟩ : ∃ z : Int32, z = (((ws (2 * k)) + (ws (2 * k + 1))) >>> ((nI 1) &&& 31)) := ⟨_, rfl⟩
        have hmd := zmidI hb1 hb2 hb3
        rw [← hmI] at hmd
        have hl : lv_has ls 6 [(0, .ref (F 0)), (1, .int (nI s0)), (2, .int (nI (k + 1)))] := by exact hl
        refine lv_aload_n hx hb dX3_searches_32 rfl (lv_at hl 0 rfl) ?_
        refine zget (q := 0) (k := 4) (v := .int (nI fs.length)) hx hb hts hinX3 hown hAm hP (by omega) (zM_o) rfl (by decide) (hts (.fieldLink RX3 155 "CosineSeriesModel" "roots" "I") (by decide +kernel)) (by first | rfl | simp [va_up, *]) dX3_searches_33 ?_
        refine lv_bipush (v := nI 24) hx hb dX3_searches_36 (by decide +kernel) ?_
        refine zi_ge (tgt := 216) hx hb dX3_searches_38 (by decide) (by omega) (by omega) (fun c2 => ?_) (fun c2 => ?_)
        ·
          have hfin : (fs, lo) = (zroots (C s0) (dg s0)) := by rw [← hsp, zlst, zsea, if_neg (by omega)]
          exact zretV hx hb hr hlk hS hP dX3_searches_216 ⟨_, _, rfl, by rw [← hfin], by rw [← hfin]; exact hrt⟩
        ·
          refine lv_aload_n hx hb dX3_searches_41 rfl (lv_at hl 0 rfl) ?_
          refine zget (q := 0) (k := 6) (v := .int (nI lo)) hx hb hts hinX3 hown hAm hP (by omega) (zM_o) rfl (by decide) (hts (.fieldLink RX3 159 "CosineSeriesModel" "looks" "I") (by decide +kernel)) (by first | rfl | simp [va_up, *]) dX3_searches_42 ?_
          refine lv_sipush (v := nI 2000) hx hb dX3_searches_45 (by decide +kernel) ?_
          refine zi_ge (tgt := 216) hx hb dX3_searches_48 (by decide) (by omega) (by omega) (fun c3 => ?_) (fun c3 => ?_)
          ·
            have hfin : (fs, lo) = (zroots (C s0) (dg s0)) := by rw [← hsp, zlst, zsea, if_neg (by omega)]
            exact zretV hx hb hr hlk hS hP dX3_searches_216 ⟨_, _, rfl, by rw [← hfin], by rw [← hfin]; exact hrt⟩
          ·
            rw [zlst, zsea, if_pos ⟨by omega, by omega⟩] at hsp
            refine lv_iinc (v := (nI k)) (lv' := [(2, .int (nI k)), (0, .ref (F 0)), (1, .int (nI s0))]) hx hb dX3_searches_51 hl (k := 2) rfl (zinc (by omega)) (by decide) rfl (fun ls hl => ?_)
            refine lv_aload_n hx hb dX3_searches_54 rfl (lv_at hl 1 rfl) ?_
            refine zget (q := 0) (k := 7) (v := .ref (F 6)) hx hb hts hinX3 hown hAm hP (by omega) (zM_o) rfl (by decide) (hts (.fieldLink RX3 34 "CosineSeriesModel" "waits" "[I") (by decide +kernel)) (by first | rfl | simp [va_up, *]) dX3_searches_55 ?_
            refine lv_iconst (v := nI 2) hx hb dX3_searches_58 (by decide +kernel) ?_
            refine lv_iload_n hx hb dX3_searches_59 rfl (lv_at hl 0 rfl) ?_
            refine zimul (d := (2 * k)) hx hb (by omega) dX3_searches_60 ?_
            refine ziald (q := 6) (k := (2 * k)) (v := (ws (2 * k))) hx hb hAm hP (by omega) (zM_w) (by omega) (by decide) (by first | rfl | simp [va_up, *]) dX3_searches_61 ?_
            refine lv_istore_n (lv' := [(3, .int (ws (2 * k))), (2, .int (nI k)), (0, .ref (F 0)), (1, .int (nI s0))]) hx hb dX3_searches_62 rfl hl (by decide) rfl (fun ls hl => ?_)
            refine lv_aload_n hx hb dX3_searches_63 rfl (lv_at hl 2 rfl) ?_
            refine zget (q := 0) (k := 7) (v := .ref (F 6)) hx hb hts hinX3 hown hAm hP (by omega) (zM_o) rfl (by decide) (hts (.fieldLink RX3 34 "CosineSeriesModel" "waits" "[I") (by decide +kernel)) (by first | rfl | simp [va_up, *]) dX3_searches_64 ?_
            refine lv_iconst (v := nI 2) hx hb dX3_searches_67 (by decide +kernel) ?_
            refine lv_iload_n hx hb dX3_searches_68 rfl (lv_at hl 1 rfl) ?_
            refine zimul (d := (2 * k)) hx hb (by omega) dX3_searches_69 ?_
            refine lv_iconst (v := nI 1) hx hb dX3_searches_70 (by decide +kernel) ?_
            refine ziadd (d := (2 * k + 1)) hx hb (by omega) dX3_searches_71 ?_
            refine ziald (q := 6) (k := (2 * k + 1)) (v := (ws (2 * k + 1))) hx hb hAm hP (by omega) (zM_w) (by omega) (by decide) (by first | rfl | simp [va_up, *]) dX3_searches_72 ?_
            refine lv_istore (lv' := [(4, .int (ws (2 * k + 1))), (3, .int (ws (2 * k))), (2, .int (nI k)), (0, .ref (F 0)), (1, .int (nI s0))]) hx hb dX3_searches_73 hl (by decide) rfl (fun ls hl => ?_)
            refine lv_aload_n hx hb dX3_searches_75 rfl (lv_at hl 3 rfl) ?_
            refine lv_dup hx hb dX3_searches_76 rfl ?_
            refine zget (q := 0) (k := 6) (v := .int (nI lo)) hx hb hts hinX3 hown hAm hP (by omega) (zM_o) rfl (by decide) (hts (.fieldLink RX3 159 "CosineSeriesModel" "looks" "I") (by decide +kernel)) (by first | rfl | simp [va_up, *]) dX3_searches_77 ?_
            refine lv_iconst (v := nI 1) hx hb dX3_searches_80 (by decide +kernel) ?_
            refine ziadd (d := (lo + 1)) hx hb (by omega) dX3_searches_81 ?_
            refine zput (q := 0) (k := 6) (ty := .int) (E' := (zME cL cI F C dg (vals, fd, ws, fs.length, (lo + 1)))) hx hb hts hinX3 tyX3 tyX3_ok nmX3 hown hAm hP hF hS (by omega) (zM_o) rfl (by decide) (hts (.fieldLink RX3 159 "CosineSeriesModel" "looks" "I") (by decide +kernel)) rfl rfl rfl rfl (Nat.le_of_ble_eq_true rfl) dX3_searches_82 (zM_uo) (fun H locs hP hS => ?_)
            refine lv_aload_n hx hb dX3_searches_85 rfl (lv_at hl 3 rfl) ?_
            refine lv_iload_n hx hb dX3_searches_86 rfl (lv_at hl 4 rfl) ?_
            refine lv_iload_n hx hb dX3_searches_87 rfl (lv_at hl 1 rfl) ?_
            refine lv_iload hx hb dX3_searches_88 (lv_at hl 0 rfl) ?_
            by_cases hfree : zfr (C s0) (dg s0) (ws (2 * k)).toInt64 (ws (2 * k + 1)).toInt64 = true
            ·
              rw [if_pos hfree] at hsp
              refine zcallV (As := [.int (nI s0), .int (ws (2 * k)), .int (ws (2 * k + 1))]) (rest := []) (q := 0) (k := 3) hx hb hml hown hts (kX3_isFree l D cL cI cR A F hF C dg (vals, fd, ws, fs.length, (lo + 1)) s0 hs h48 (ws (2 * k)) (ws (2 * k + 1)) hb1 hb2 hb3 1 (by unfold zbN; rw [if_pos hfree])) gX3_searches_X3_isFree rfl (by decide +kernel) ⟨Nat.le_of_ble_eq_true rfl, Nat.le_of_ble_eq_true rfl⟩ rfl (by omega) (zM_o) rfl rfl hAm hP hS rfl hl.1 rfl (Nat.le_of_ble_eq_true rfl) dX3_searches_90 ⟨Nat.zero_le _, Nat.zero_le _⟩ (zkn (fun H locs hP hS => ?_))
              refine W.eq (g2 := F0 m 93 ls [.int (nI 1)]) rfl ?_
              refine zf_eq (tgt := 99) hx hb dX3_searches_93 (by decide) (by omega) (fun c4 => ?_) (fun c4 => ?_)
              ·
                exfalso; omega
              ·
                refine lv_goto (tgt := 28) hx hb dX3_searches_96 (by decide) ?_
                exact ih28 u k ws fd fs (lo + 1) (by omega) hsp hok.2.2.2 ⟨hrl, hrt⟩ (by omega) (by omega) H _ hP hS ls (lv_sub hl [3, 4, 2] rfl)
            ·
              rw [if_neg hfree] at hsp
              refine zcallV (As := [.int (nI s0), .int (ws (2 * k)), .int (ws (2 * k + 1))]) (rest := []) (q := 0) (k := 3) hx hb hml hown hts (kX3_isFree l D cL cI cR A F hF C dg (vals, fd, ws, fs.length, (lo + 1)) s0 hs h48 (ws (2 * k)) (ws (2 * k + 1)) hb1 hb2 hb3 0 (by unfold zbN; rw [if_neg hfree])) gX3_searches_X3_isFree rfl (by decide +kernel) ⟨Nat.le_of_ble_eq_true rfl, Nat.le_of_ble_eq_true rfl⟩ rfl (by omega) (zM_o) rfl rfl hAm hP hS rfl hl.1 rfl (Nat.le_of_ble_eq_true rfl) dX3_searches_90 ⟨Nat.zero_le _, Nat.zero_le _⟩ (zkn (fun H locs hP hS => ?_))
              refine W.eq (g2 := F0 m 93 ls [.int (nI 0)]) rfl ?_
              refine zf_eq (tgt := 99) hx hb dX3_searches_93 (by decide) (by omega) (fun c5 => ?_) (fun c5 => ?_)
              ·
                refine lv_iload_n hx hb dX3_searches_99 rfl (lv_at hl 1 rfl) ?_
                refine lv_iload hx hb dX3_searches_100 (lv_at hl 0 rfl) ?_
                refine zcallS (As := [.int (ws (2 * k)), .int (ws (2 * k + 1))]) (rest := []) (k := 2) hx hb hml hown hts (kX3_middle l D cL cI cR A F 7 (zME cL cI F C dg (vals, fd, ws, fs.length, (lo + 1))) (ws (2 * k)) (ws (2 * k + 1))) gX3_searches_X3_middle rfl (by decide +kernel) ⟨Nat.le_of_ble_eq_true rfl, Nat.le_of_ble_eq_true rfl⟩ hAm hP hS rfl hl.1 rfl (Nat.le_of_ble_eq_true rfl) dX3_searches_102 ⟨Nat.zero_le _, Nat.zero_le _⟩ (zkn (fun H locs hP hS => ?_))
                refine W.eq (g2 := F0 m 105 ls [.int (((ws (2 * k)) + (ws (2 * k + 1))) >>> ((nI 1) &&& 31))]) rfl ?_
                refine W.eq (g2 := F0 m 105 ls [.int mI]) (by rw [hmI]) ?_
                refine lv_istore (lv' := [(5, .int mI), (4, .int (ws (2 * k + 1))), (3, .int (ws (2 * k))), (2, .int (nI k)), (0, .ref (F 0)), (1, .int (nI s0))]) hx hb dX3_searches_105 hl (by decide) rfl (fun ls hl => ?_)
                refine lv_iload hx hb dX3_searches_107 (lv_at hl 1 rfl) ?_
                refine lv_iload_n hx hb dX3_searches_109 rfl (lv_at hl 2 rfl) ?_
                refine lv_isub hx hb dX3_searches_110 ?_
                refine lv_bipush (v := nI 16) hx hb dX3_searches_111 (by decide +kernel) ?_
                refine lv_icmp_le (tgt := 167) hx hb dX3_searches_113 (by decide) (fun c6 => ?_) (fun c6 => ?_)
                ·
                  rw [if_neg ((z16 hb1 hb2 hb3).1 c6)] at hsp
                  refine lv_aload_n hx hb dX3_searches_167 rfl (lv_at hl 4 rfl) ?_
                  refine zget (q := 0) (k := 4) (v := .int (nI fs.length)) hx hb hts hinX3 hown hAm hP (by omega) (zM_o) rfl (by decide) (hts (.fieldLink RX3 155 "CosineSeriesModel" "roots" "I") (by decide +kernel)) (by first | rfl | simp [va_up, *]) dX3_searches_168 ?_
                  refine zf_eq (tgt := 192) hx hb dX3_searches_171 (by decide) (by omega) (fun c7 => ?_) (fun c7 => ?_)
                  ·
                    have hf0 : fs = [] := List.length_eq_zero_iff.mp c7
                    rw [if_neg (by rw [hf0]; simp [znear]), ← hmd.2] at hsp
                    refine lv_aload_n hx hb dX3_searches_192 rfl (lv_at hl 4 rfl) ?_
                    refine zget (q := 0) (k := 5) (v := .ref (F 5)) hx hb hts hinX3 hown hAm hP (by omega) (zM_o) rfl (by decide) (hts (.fieldLink RX3 31 "CosineSeriesModel" "found" "[I") (by decide +kernel)) (by first | rfl | simp [va_up, *]) dX3_searches_193 ?_
                    refine lv_aload_n hx hb dX3_searches_196 rfl (lv_at hl 4 rfl) ?_
                    refine zget (q := 0) (k := 4) (v := .int (nI fs.length)) hx hb hts hinX3 hown hAm hP (by omega) (zM_o) rfl (by decide) (hts (.fieldLink RX3 155 "CosineSeriesModel" "roots" "I") (by decide +kernel)) (by first | rfl | simp [va_up, *]) dX3_searches_197 ?_
                    refine lv_iload hx hb dX3_searches_200 (lv_at hl 0 rfl) ?_
                    refine ziast (q := 5) (k := fs.length) (E' := (zME cL cI F C dg (vals, (upd fd fs.length mI), ws, fs.length, (lo + 1)))) hx hb hAm hP hF hS (by omega) (zM_f) (by omega) (by decide) dX3_searches_202 (zM_uf) (fun H locs hP hS => ?_)
                    refine lv_aload_n hx hb dX3_searches_203 rfl (lv_at hl 4 rfl) ?_
                    refine lv_dup hx hb dX3_searches_204 rfl ?_
                    refine zget (q := 0) (k := 4) (v := .int (nI fs.length)) hx hb hts hinX3 hown hAm hP (by omega) (zM_o) rfl (by decide) (hts (.fieldLink RX3 155 "CosineSeriesModel" "roots" "I") (by decide +kernel)) (by first | rfl | simp [va_up, *]) dX3_searches_205 ?_
                    refine lv_iconst (v := nI 1) hx hb dX3_searches_208 (by decide +kernel) ?_
                    refine ziadd (d := (fs.length + 1)) hx hb (by omega) dX3_searches_209 ?_
                    refine zput (q := 0) (k := 4) (ty := .int) (E' := (zME cL cI F C dg (vals, (upd fd fs.length mI), ws, (fs.length + 1), (lo + 1)))) hx hb hts hinX3 tyX3 tyX3_ok nmX3 hown hAm hP hF hS (by omega) (zM_o) rfl (by decide) (hts (.fieldLink RX3 155 "CosineSeriesModel" "roots" "I") (by decide +kernel)) rfl rfl rfl rfl (Nat.le_of_ble_eq_true rfl) dX3_searches_210 (zM_uo) (fun H locs hP hS => ?_)
                    refine lv_goto (tgt := 28) hx hb dX3_searches_213 (by decide) ?_
                    exact ih28 u k ws (upd fd fs.length mI) (mI.toInt64 :: fs) (lo + 1) (by omega) hsp hok.2.2.2 ⟨by rw [List.length_cons]; omega, by simp [upd], zrtsI_up fs (Nat.le_refl _) hrt⟩ (by omega) (by omega) H _ hP hS ls (lv_sub hl [4, 5, 3] rfl)
                  ·
                    have hnr : (znear fs (ws (2 * k)).toInt64 = true) ↔ (ws (2 * k)) - nI 16 ≤ fd (fs.length - 1) := by
                      cases fs with
                      | nil => exact absurd c7 (by simp)
                      | cons r fs => rw [List.length_cons, Nat.add_sub_cancel, zn16 hb1 (by omega), hrt.1]; unfold znear; exact decide_eq_true_iff
                    refine lv_aload_n hx hb dX3_searches_174 rfl (lv_at hl 4 rfl) ?_
                    refine zget (q := 0) (k := 5) (v := .ref (F 5)) hx hb hts hinX3 hown hAm hP (by omega) (zM_o) rfl (by decide) (hts (.fieldLink RX3 31 "CosineSeriesModel" "found" "[I") (by decide +kernel)) (by first | rfl | simp [va_up, *]) dX3_searches_175 ?_
                    refine lv_aload_n hx hb dX3_searches_178 rfl (lv_at hl 4 rfl) ?_
                    refine zget (q := 0) (k := 4) (v := .int (nI fs.length)) hx hb hts hinX3 hown hAm hP (by omega) (zM_o) rfl (by decide) (hts (.fieldLink RX3 155 "CosineSeriesModel" "roots" "I") (by decide +kernel)) (by first | rfl | simp [va_up, *]) dX3_searches_179 ?_
                    refine lv_iconst (v := nI 1) hx hb dX3_searches_182 (by decide +kernel) ?_
                    refine zisub (d := (fs.length - 1)) hx hb (by omega) dX3_searches_183 ?_
                    refine ziald (q := 5) (k := (fs.length - 1)) (v := (fd (fs.length - 1))) hx hb hAm hP (by omega) (zM_f) (by omega) (by decide) (by first | rfl | simp [va_up, *]) dX3_searches_184 ?_
                    refine lv_iload_n hx hb dX3_searches_185 rfl (lv_at hl 2 rfl) ?_
                    refine lv_bipush (v := nI 16) hx hb dX3_searches_186 (by decide +kernel) ?_
                    refine lv_isub hx hb dX3_searches_188 ?_
                    refine lv_icmp_ge (tgt := 213) hx hb dX3_searches_189 (by decide) (fun c8 => ?_) (fun c8 => ?_)
                    ·
                      rw [if_pos (hnr.mpr c8)] at hsp
                      refine lv_goto (tgt := 28) hx hb dX3_searches_213 (by decide) ?_
                      exact ih28 u k ws fd fs (lo + 1) (by omega) hsp hok.2.2.2 ⟨hrl, hrt⟩ (by omega) (by omega) H _ hP hS ls (lv_sub hl [4, 5, 3] rfl)
                    ·
                      rw [if_neg (fun h => c8 (hnr.mp h)), ← hmd.2] at hsp
                      refine lv_aload_n hx hb dX3_searches_192 rfl (lv_at hl 4 rfl) ?_
                      refine zget (q := 0) (k := 5) (v := .ref (F 5)) hx hb hts hinX3 hown hAm hP (by omega) (zM_o) rfl (by decide) (hts (.fieldLink RX3 31 "CosineSeriesModel" "found" "[I") (by decide +kernel)) (by first | rfl | simp [va_up, *]) dX3_searches_193 ?_
                      refine lv_aload_n hx hb dX3_searches_196 rfl (lv_at hl 4 rfl) ?_
                      refine zget (q := 0) (k := 4) (v := .int (nI fs.length)) hx hb hts hinX3 hown hAm hP (by omega) (zM_o) rfl (by decide) (hts (.fieldLink RX3 155 "CosineSeriesModel" "roots" "I") (by decide +kernel)) (by first | rfl | simp [va_up, *]) dX3_searches_197 ?_
                      refine lv_iload hx hb dX3_searches_200 (lv_at hl 0 rfl) ?_
                      refine ziast (q := 5) (k := fs.length) (E' := (zME cL cI F C dg (vals, (upd fd fs.length mI), ws, fs.length, (lo + 1)))) hx hb hAm hP hF hS (by omega) (zM_f) (by omega) (by decide) dX3_searches_202 (zM_uf) (fun H locs hP hS => ?_)
                      refine lv_aload_n hx hb dX3_searches_203 rfl (lv_at hl 4 rfl) ?_
                      refine lv_dup hx hb dX3_searches_204 rfl ?_
                      refine zget (q := 0) (k := 4) (v := .int (nI fs.length)) hx hb hts hinX3 hown hAm hP (by omega) (zM_o) rfl (by decide) (hts (.fieldLink RX3 155 "CosineSeriesModel" "roots" "I") (by decide +kernel)) (by first | rfl | simp [va_up, *]) dX3_searches_205 ?_
                      refine lv_iconst (v := nI 1) hx hb dX3_searches_208 (by decide +kernel) ?_
                      refine ziadd (d := (fs.length + 1)) hx hb (by omega) dX3_searches_209 ?_
                      refine zput (q := 0) (k := 4) (ty := .int) (E' := (zME cL cI F C dg (vals, (upd fd fs.length mI), ws, (fs.length + 1), (lo + 1)))) hx hb hts hinX3 tyX3 tyX3_ok nmX3 hown hAm hP hF hS (by omega) (zM_o) rfl (by decide) (hts (.fieldLink RX3 155 "CosineSeriesModel" "roots" "I") (by decide +kernel)) rfl rfl rfl rfl (Nat.le_of_ble_eq_true rfl) dX3_searches_210 (zM_uo) (fun H locs hP hS => ?_)
                      refine lv_goto (tgt := 28) hx hb dX3_searches_213 (by decide) ?_
                      exact ih28 u k ws (upd fd fs.length mI) (mI.toInt64 :: fs) (lo + 1) (by omega) hsp hok.2.2.2 ⟨by rw [List.length_cons]; omega, by simp [upd], zrtsI_up fs (Nat.le_refl _) hrt⟩ (by omega) (by omega) H _ hP hS ls (lv_sub hl [4, 5, 3] rfl)
                ·
                  have h16 := (z16 hb1 hb2 hb3).2 c6
                  rw [if_pos h16] at hsp
                  have hspl := zok_split hok h16
                  rw [← hmd.2] at hspl hsp
                  have hls : zlst (upd (upd (upd (upd ws (2 * k) mI) (2 * k + 1) (ws (2 * k + 1))) (2 * k + 2) (ws (2 * k))) (2 * k + 3) mI) (k + 2) = ((ws (2 * k)).toInt64, mI.toInt64) :: (mI.toInt64, (ws (2 * k + 1)).toInt64) :: zlst ws k := by
                    have e1 : (upd (upd (upd (upd ws (2 * k) mI) (2 * k + 1) (ws (2 * k + 1))) (2 * k + 2) (ws (2 * k))) (2 * k + 3) mI) (2 * (k + 1)) = (ws (2 * k)) := by rw [show 2 * (k + 1) = 2 * k + 2 by omega]; simp [upd]
                    have e2 : (upd (upd (upd (upd ws (2 * k) mI) (2 * k + 1) (ws (2 * k + 1))) (2 * k + 2) (ws (2 * k))) (2 * k + 3) mI) (2 * (k + 1) + 1) = mI := by rw [show 2 * (k + 1) + 1 = 2 * k + 3 by omega]; simp [upd]
                    have e3 : (upd (upd (upd (upd ws (2 * k) mI) (2 * k + 1) (ws (2 * k + 1))) (2 * k + 2) (ws (2 * k))) (2 * k + 3) mI) (2 * k) = mI := by simp [upd]
                    have e4 : (upd (upd (upd (upd ws (2 * k) mI) (2 * k + 1) (ws (2 * k + 1))) (2 * k + 2) (ws (2 * k))) (2 * k + 3) mI) (2 * k + 1) = (ws (2 * k + 1)) := by simp [upd]
                    rw [zlst, zlst, e1, e2, e3, e4, zlst_up _ _ _ _ (by omega), zlst_up _ _ _ _ (by omega), zlst_up _ _ _ _ (by omega), zlst_up _ _ _ _ (by omega)]
                  refine lv_aload_n hx hb dX3_searches_116 rfl (lv_at hl 4 rfl) ?_
                  refine zget (q := 0) (k := 7) (v := .ref (F 6)) hx hb hts hinX3 hown hAm hP (by omega) (zM_o) rfl (by decide) (hts (.fieldLink RX3 34 "CosineSeriesModel" "waits" "[I") (by decide +kernel)) (by first | rfl | simp [va_up, *]) dX3_searches_117 ?_
                  refine lv_iconst (v := nI 2) hx hb dX3_searches_120 (by decide +kernel) ?_
                  refine lv_iload_n hx hb dX3_searches_121 rfl (lv_at hl 3 rfl) ?_
                  refine zimul (d := (2 * k)) hx hb (by omega) dX3_searches_122 ?_
                  refine lv_iload hx hb dX3_searches_123 (lv_at hl 0 rfl) ?_
                  refine ziast (q := 6) (k := (2 * k)) (E' := (zME cL cI F C dg (vals, fd, (upd ws (2 * k) mI), fs.length, (lo + 1)))) hx hb hAm hP hF hS (by omega) (zM_w) (by omega) (by decide) dX3_searches_125 (zM_uw) (fun H locs hP hS => ?_)
                  refine lv_aload_n hx hb dX3_searches_126 rfl (lv_at hl 4 rfl) ?_
                  refine zget (q := 0) (k := 7) (v := .ref (F 6)) hx hb hts hinX3 hown hAm hP (by omega) (zM_o) rfl (by decide) (hts (.fieldLink RX3 34 "CosineSeriesModel" "waits" "[I") (by decide +kernel)) (by first | rfl | simp [va_up, *]) dX3_searches_127 ?_
                  refine lv_iconst (v := nI 2) hx hb dX3_searches_130 (by decide +kernel) ?_
                  refine lv_iload_n hx hb dX3_searches_131 rfl (lv_at hl 3 rfl) ?_
                  refine zimul (d := (2 * k)) hx hb (by omega) dX3_searches_132 ?_
                  refine lv_iconst (v := nI 1) hx hb dX3_searches_133 (by decide +kernel) ?_
                  refine ziadd (d := (2 * k + 1)) hx hb (by omega) dX3_searches_134 ?_
                  refine lv_iload hx hb dX3_searches_135 (lv_at hl 1 rfl) ?_
                  refine ziast (q := 6) (k := (2 * k + 1)) (E' := (zME cL cI F C dg (vals, fd, (upd (upd ws (2 * k) mI) (2 * k + 1) (ws (2 * k + 1))), fs.length, (lo + 1)))) hx hb hAm hP hF hS (by omega) (zM_w) (by omega) (by decide) dX3_searches_137 (zM_uw) (fun H locs hP hS => ?_)
                  refine lv_aload_n hx hb dX3_searches_138 rfl (lv_at hl 4 rfl) ?_
                  refine zget (q := 0) (k := 7) (v := .ref (F 6)) hx hb hts hinX3 hown hAm hP (by omega) (zM_o) rfl (by decide) (hts (.fieldLink RX3 34 "CosineSeriesModel" "waits" "[I") (by decide +kernel)) (by first | rfl | simp [va_up, *]) dX3_searches_139 ?_
                  refine lv_iconst (v := nI 2) hx hb dX3_searches_142 (by decide +kernel) ?_
                  refine lv_iload_n hx hb dX3_searches_143 rfl (lv_at hl 3 rfl) ?_
                  refine zimul (d := (2 * k)) hx hb (by omega) dX3_searches_144 ?_
                  refine lv_iconst (v := nI 2) hx hb dX3_searches_145 (by decide +kernel) ?_
                  refine ziadd (d := (2 * k + 2)) hx hb (by omega) dX3_searches_146 ?_
                  refine lv_iload_n hx hb dX3_searches_147 rfl (lv_at hl 2 rfl) ?_
                  refine ziast (q := 6) (k := (2 * k + 2)) (E' := (zME cL cI F C dg (vals, fd, (upd (upd (upd ws (2 * k) mI) (2 * k + 1) (ws (2 * k + 1))) (2 * k + 2) (ws (2 * k))), fs.length, (lo + 1)))) hx hb hAm hP hF hS (by omega) (zM_w) (by omega) (by decide) dX3_searches_148 (zM_uw) (fun H locs hP hS => ?_)
                  refine lv_aload_n hx hb dX3_searches_149 rfl (lv_at hl 4 rfl) ?_
                  refine zget (q := 0) (k := 7) (v := .ref (F 6)) hx hb hts hinX3 hown hAm hP (by omega) (zM_o) rfl (by decide) (hts (.fieldLink RX3 34 "CosineSeriesModel" "waits" "[I") (by decide +kernel)) (by first | rfl | simp [va_up, *]) dX3_searches_150 ?_
                  refine lv_iconst (v := nI 2) hx hb dX3_searches_153 (by decide +kernel) ?_
                  refine lv_iload_n hx hb dX3_searches_154 rfl (lv_at hl 3 rfl) ?_
                  refine zimul (d := (2 * k)) hx hb (by omega) dX3_searches_155 ?_
                  refine lv_iconst (v := nI 3) hx hb dX3_searches_156 (by decide +kernel) ?_
                  refine ziadd (d := (2 * k + 3)) hx hb (by omega) dX3_searches_157 ?_
                  refine lv_iload hx hb dX3_searches_158 (lv_at hl 0 rfl) ?_
                  refine ziast (q := 6) (k := (2 * k + 3)) (E' := (zME cL cI F C dg (vals, fd, (upd (upd (upd (upd ws (2 * k) mI) (2 * k + 1) (ws (2 * k + 1))) (2 * k + 2) (ws (2 * k))) (2 * k + 3) mI), fs.length, (lo + 1)))) hx hb hAm hP hF hS (by omega) (zM_w) (by omega) (by decide) dX3_searches_160 (zM_uw) (fun H locs hP hS => ?_)
                  refine lv_iinc (v := (nI (k + 2))) (lv' := [(2, .int (nI (k + 2))), (5, .int mI), (4, .int (ws (2 * k + 1))), (3, .int (ws (2 * k))), (0, .ref (F 0)), (1, .int (nI s0))]) hx hb dX3_searches_161 hl (k := 3) rfl (zinc (by omega)) (by decide) rfl (fun ls hl => ?_)
                  refine lv_goto (tgt := 213) hx hb dX3_searches_164 (by decide) ?_
                  refine lv_goto (tgt := 28) hx hb dX3_searches_213 (by decide) ?_
                  exact ih28 u (k + 2) (upd (upd (upd (upd ws (2 * k) mI) (2 * k + 1) (ws (2 * k + 1))) (2 * k + 2) (ws (2 * k))) (2 * k + 3) mI) fd fs (lo + 1) (by omega) (by rw [hls]; exact hsp) (by rw [hls]; exact hspl.1) ⟨hrl, hrt⟩ (by omega) (by omega) H _ hP hS ls (lv_sub hl [4, 5, 0] rfl)
              ·
                exfalso; omega
  exact L28 _ 2001 1 (upd (upd waits 0 (-1048576)) 1 1048576) found [] 0 (by omega) rfl zok_0 ⟨by decide, trivial⟩ (by decide) (Nat.lt_succ_self _) H _ hP hS ls (lv_sub hl [1, 2, 0] rfl)
