/-! the series x - r: its values, its root -/
abbrev zxr (r : Int64) : Nat → Int64 := vp_updL (ztb 1) 0 (-r)
theorem zxr_0 (r : Int64) : zxr r 0 = -r := by unfold zxr vp_updL; rw [if_pos rfl]
theorem zxr_1 (r : Int64) : zxr r 1 = 1048576 := by unfold zxr vp_updL; rw [if_neg (by omega)]; exact ztb_at 1
theorem zxr_hi (r : Int64) {j : Nat} (h : 1 < j) : zxr r j = 0 := by unfold zxr vp_updL; rw [if_neg (by omega)]; exact ztb_ne (by omega)
theorem zxr_b {r : Int64} (hr : zb r 950000) (j : Nat) : zb (zxr r j) 1048576 := by
  by_cases h0 : j = 0
  · subst h0; rw [zxr_0]; exact zb_le (zb_neg hr (by decide)) (by decide)
  by_cases h1 : j = 1
  · subst h1; rw [zxr_1]; unfold zb; decide
  rw [zxr_hi r (by omega)]; exact Nat.zero_le _
theorem zxr_good {r : Int64} (hr : zb r 950000) : zgood (zxr r) := fun j => zb_le (zxr_b hr j) (by decide)
theorem zxr_top (r : Int64) : ztop (zxr r) 48 = 1 := ztop_is (by omega) (fun j hj => zxr_hi r hj) (Or.inr (by rw [zxr_1]; decide))
theorem zR_z0 : (0 + zR 0 1048576 - 0 : Int64) = 0 := by decide
theorem zxr_val {r x : Int64} (hr : zb r 950000) (hx : zb x 1048576) : (zval (zxr r) 1 x).toInt = x.toInt - r.toInt := by
  have h1 := zb_i hr
  have h2 := zb_i hx
  have hn : (-r).toInt = -r.toInt := zt_neg (by omega)
  have hm : (x * 1048576).toInt = 1048576 * x.toInt := by rw [zt_mul (by rw [show (1048576 : Int64).toInt = 1048576 from rfl]; omega), show (1048576 : Int64).toInt = 1048576 from rfl, Int.mul_comm]
  have hz := zR_x hm (by omega)
  unfold zval
  show (zclen (zxr r) x 0 (zxr r 1 + zR (2 * x * 0) 1048576 - 0) 0).toInt = _
  rw [Int64.mul_zero, zxr_1, show (1048576 + zR 0 1048576 - 0 : Int64) = 1048576 from by decide]
  unfold zclen
  rw [zxr_0]
  have e : (-r + zR (x * 1048576) 1048576).toInt = -r.toInt + x.toInt := by rw [zt_add (by rw [hn, hz]; omega), hn, hz]
  rw [zt_sub (by rw [e, show (0 : Int64).toInt = 0 from rfl]; omega), e, show (0 : Int64).toInt = 0 from rfl]
  omega
theorem zt_a16 {x y : Int64} {M : Int} (h1 : x.toInt = M) (h2 : y.toInt = 16) (h : 0 ≤ M ∧ M ≤ 2097152) : (x + y).toInt = M + 16 := by
  rw [zt_add (by omega), h1, h2]
def zMax (x y : Int) : Int := if y < x then x else y
theorem zt_max (x y : Int64) : (zmax x y).toInt = zMax x.toInt y.toInt := by
  unfold zmax zMax
  by_cases h : y < x
  · rw [if_pos h, if_pos (Int64.lt_iff_toInt_lt.mp h)]
  · rw [if_neg h, if_neg (fun h2 => h (Int64.lt_iff_toInt_lt.mpr h2))]
/-- an interval is free where its middle lies far from r -/
theorem zxr_free {r a b : Int64} (hr : zb r 950000) (h1 : -1048576 ≤ a.toInt) (h2 : a.toInt ≤ b.toInt) (h3 : b.toInt ≤ 1048576) : zfr (zxr r) 1 a b = decide (zMax (b.toInt - (a.toInt + b.toInt) / 2) ((a.toInt + b.toInt) / 2 - a.toInt) + 16 < (((a.toInt + b.toInt) / 2 - r.toInt).natAbs : Int)) := by
  obtain ⟨m1, m2⟩ := zok_mid h1 h2 h3
  have hrb := zb_i hr
  unfold zfr
  generalize zfl (a + b) 2 = m at *
  have hm : zb m 1048576 := zb_o (by omega) (by omega)
  have hv := zxr_val hr hm
  have ea : (zabs (zval (zxr r) 1 m)).toInt = ((m.toInt - r.toInt).natAbs : Int) := by rw [zt_abs (by rw [hv]; omega), hv]
  have e1 : (b - m).toInt = b.toInt - m.toInt := zt_sub (by omega)
  have e2 : (m - a).toInt = m.toInt - a.toInt := zt_sub (by omega)
  have eM := zt_max (b - m) (m - a)
  rw [e1, e2] at eM
  have hMb : 0 ≤ zMax (b.toInt - m.toInt) (m.toInt - a.toInt) ∧ zMax (b.toInt - m.toInt) (m.toInt - a.toInt) ≤ 2097152 := by
    unfold zMax
    split <;> omega
  have es : zstp (zxr r) 1 = 1048576 := by
    show 0 + lN 1 * zabs (zxr r 1) = 1048576
    rw [zxr_1]
    decide
  have ep : (zstp (zxr r) 1 * zmax (b - m) (m - a)).toInt = 1048576 * zMax (b.toInt - m.toInt) (m.toInt - a.toInt) := by
    rw [es, zt_mul (by rw [eM, show (1048576 : Int64).toInt = 1048576 from rfl]; omega), eM]
    rfl
  have eR := zR_x ep (by omega)
  have eL : (zR (zstp (zxr r) 1 * zmax (b - m) (m - a)) 1048576 + 8 * lN (1 + 1)).toInt = zMax (b.toInt - m.toInt) (m.toInt - a.toInt) + 16 := by
    have e8 : (8 * lN (1 + 1)).toInt = 16 := by decide
    exact zt_a16 eR e8 hMb
  have key : (zR (zstp (zxr r) 1 * zmax (b - m) (m - a)) 1048576 + 8 * lN (1 + 1) < zabs (zval (zxr r) 1 m)) ↔ (zMax (b.toInt - (a.toInt + b.toInt) / 2) ((a.toInt + b.toInt) / 2 - a.toInt) + 16 < (((a.toInt + b.toInt) / 2 - r.toInt).natAbs : Int)) := by
    rw [Int64.lt_iff_toInt_lt, eL, ea, ← m1]
  exact decide_eq_decide.mpr key
def zin2 (q : Int64 × Int64) : Prop := -1048576 ≤ q.1.toInt ∧ q.1.toInt ≤ q.2.toInt ∧ q.2.toInt ≤ 1048576
def znr (r x : Int64) : Prop := -24 ≤ x.toInt - r.toInt ∧ x.toInt - r.toInt ≤ 24
theorem zsea_near {r : Int64} (hr : zb r 950000) : ∀ (u : Nat) (l : List (Int64 × Int64)) (fs : List Int64) (lo : Nat), (∀ q ∈ l, zin2 q) → (∀ x ∈ fs, znr r x) → ∀ x ∈ (zsea (zfr (zxr r) 1) u l fs lo).1, znr r x := by
  intro u
  induction u with
  | zero => intro l fs lo _ hf; exact hf
  | succ u ih =>
    intro l fs lo hl hf
    cases l with
    | nil => exact hf
    | cons q l =>
      obtain ⟨a, b⟩ := q
      have h0 := hl (a, b) List.mem_cons_self
      have ht : ∀ q ∈ l, zin2 q := fun q hq => hl q (List.mem_cons_of_mem _ hq)
      obtain ⟨h1, h2, h3⟩ := h0
      have h1 : -1048576 ≤ a.toInt := h1
      have h2 : a.toInt ≤ b.toInt := h2
      have h3 : b.toInt ≤ 1048576 := h3
      obtain ⟨m1, m2⟩ := zok_mid h1 h2 h3
      unfold zsea
      split
      · split
        · exact ih _ _ _ ht hf
        · rename_i hfr
          split
          · refine ih _ _ _ (fun q hq => ?_) hf
            rcases List.mem_cons.mp hq with e | hq
            · subst e
              exact ⟨h1, by show a.toInt ≤ (zfl (a + b) 2).toInt; omega, by show (zfl (a + b) 2).toInt ≤ _; omega⟩
            · rcases List.mem_cons.mp hq with e | hq
              · subst e
                exact ⟨by show _ ≤ (zfl (a + b) 2).toInt; omega, by show (zfl (a + b) 2).toInt ≤ b.toInt; omega, h3⟩
              · exact ht q hq
          · rename_i hw
            rw [Int64.lt_iff_toInt_lt, m2, show (16 : Int64).toInt = 16 from rfl] at hw
            split
            · exact ih _ _ _ ht hf
            · refine ih _ _ _ ht (fun x hx => ?_)
              rcases List.mem_cons.mp hx with e | hx
              · subst e
                rw [zxr_free hr h1 h2 h3, decide_eq_true_eq] at hfr
                unfold zMax at hfr
                unfold znr
                rw [m1]
                split at hfr <;> omega
              · exact hf x hx
      · exact hf
theorem zsea_grow (fr : Int64 → Int64 → Bool) : ∀ (u : Nat) (l : List (Int64 × Int64)) (fs : List Int64) (lo : Nat), fs.length ≤ (zsea fr u l fs lo).1.length := by
  intro u
  induction u with
  | zero => intro l fs lo; exact Nat.le_refl _
  | succ u ih =>
    intro l fs lo
    cases l with
    | nil => exact Nat.le_refl _
    | cons q l =>
      obtain ⟨a, b⟩ := q
      unfold zsea
      split
      · split
        · exact ih _ _ _
        · split
          · exact ih _ _ _
          · split
            · exact ih _ _ _
            · exact Nat.le_trans (Nat.le_succ _) (ih l (zfl (a + b) 2 :: fs) (lo + 1))
      · exact Nat.le_refl _
def zw : Nat → Int
  | 0 => 16
  | i + 1 => 2 * zw i
theorem zw_ok : ∀ i, 16 ≤ zw i ∧ zw i % 2 = 0 := by
  intro i
  induction i with
  | zero => exact ⟨by show (16 : Int) ≤ 16; omega, by show (16 : Int) % 2 = 0; omega⟩
  | succ i ih => unfold zw; omega
theorem zsea_find {r : Int64} (hr : zb r 950000) : ∀ (i : Nat) (a b : Int64) (l : List (Int64 × Int64)) (u lo : Nat), -1048576 ≤ a.toInt → b.toInt ≤ 1048576 → b.toInt - a.toInt = zw i → a.toInt - 16 ≤ r.toInt → r.toInt ≤ b.toInt + 16 → 2 * i + 1 ≤ u → lo + 2 * i + 1 ≤ 2000 → 1 ≤ (zsea (zfr (zxr r) 1) u ((a, b) :: l) [] lo).1.length := by
  have nf : ∀ a b : Int64, -1048576 ≤ a.toInt → a.toInt ≤ b.toInt → b.toInt ≤ 1048576 → (b.toInt - a.toInt) % 2 = 0 → (¬ zfr (zxr r) 1 a b = true ↔ a.toInt - 16 ≤ r.toInt ∧ r.toInt ≤ b.toInt + 16) := by
    intro a b h1 h2 h3 h4
    rw [zxr_free hr h1 h2 h3, decide_eq_true_eq]
    unfold zMax
    constructor
    · intro h
      split at h <;> omega
    · intro h
      split <;> omega
  have nn : ∀ a : Int64, ¬ znear [] a = true := fun a h => by
    exact Bool.false_ne_true h
  intro i
  induction i with
  | zero =>
    intro a b l u lo h1 h3 hw g1 g2 hu hlo
    obtain ⟨u, rfl⟩ : ∃ v, u = v + 1 := ⟨u - 1, by omega⟩
    have hw : b.toInt - a.toInt = 16 := hw
    have h2 : a.toInt ≤ b.toInt := by omega
    obtain ⟨m1, m2⟩ := zok_mid h1 h2 h3
    unfold zsea
    rw [if_pos ⟨by decide, by omega⟩, if_neg ((nf a b h1 h2 h3 (by omega)).mpr ⟨g1, g2⟩), if_neg (by rw [Int64.lt_iff_toInt_lt, m2, show (16 : Int64).toInt = 16 from rfl]; omega), if_neg (nn a)]
    exact zsea_grow (zfr (zxr r) 1) u l [zfl (a + b) 2] (lo + 1)
  | succ i ih =>
    intro a b l u lo h1 h3 hw g1 g2 hu hlo
    obtain ⟨u, rfl⟩ : ∃ v, u = v + 2 := ⟨u - 2, by omega⟩
    obtain ⟨hw0, hw1⟩ := zw_ok i
    have hw : b.toInt - a.toInt = 2 * zw i := hw
    have h2 : a.toInt ≤ b.toInt := by omega
    obtain ⟨m1, m2⟩ := zok_mid h1 h2 h3
    unfold zsea
    rw [if_pos ⟨by decide, by omega⟩, if_neg ((nf a b h1 h2 h3 (by omega)).mpr ⟨g1, g2⟩), if_pos (by rw [Int64.lt_iff_toInt_lt, m2, show (16 : Int64).toInt = 16 from rfl]; omega)]
    generalize zfl (a + b) 2 = m at *
    by_cases hf : zfr (zxr r) 1 a m = true
    · have hn : ¬ (a.toInt - 16 ≤ r.toInt ∧ r.toInt ≤ m.toInt + 16) := fun h => (nf a m h1 (by omega) (by omega) (by omega)).mpr h hf
      unfold zsea
      rw [if_pos ⟨by decide, by omega⟩, if_pos hf]
      exact ih m b l u (lo + 1 + 1) (by omega) h3 (by omega) (by omega) g2 (by omega) (by omega)
    · have hn := (nf a m h1 (by omega) (by omega) (by omega)).mp hf
      exact ih a m _ (u + 1) (lo + 1) h1 (by omega) (by omega) g1 hn.2 (by omega) (by omega)
theorem zxr_some {r : Int64} (hr : zb r 950000) : 1 ≤ (zroots (zxr r) 1).1.length := by
  have h := zb_i hr
  exact zsea_find hr 17 (-1048576) 1048576 [] 2001 0 (by decide) (by decide) (by decide) (by show (-1048576 : Int) - 16 ≤ _; omega) (by show _ ≤ (1048576 : Int) + 16; omega) (by omega) (by omega)
theorem zgetr_in : ∀ (l : List Int64) (j : Nat), j < l.length → zgetr l j ∈ l := by
  intro l
  induction l with
  | nil => intro j h; exact absurd h (Nat.not_lt_zero _)
  | cons x l ih =>
    intro j h
    unfold zgetr
    rw [List.length_cons] at h
    by_cases e : j = l.length
    · rw [if_pos e]; exact List.mem_cons_self
    · rw [if_neg e]; exact List.mem_cons_of_mem _ (ih j (by omega))
theorem zxr_near {r : Int64} (hr : zb r 950000) {j : Nat} (h : j < (zroots (zxr r) 1).1.length) : znr r (zgetr (zroots (zxr r) 1).1 j) := by
  refine zsea_near hr 2001 [(-1048576, 1048576)] [] 0 (fun q hq => ?_) (fun x hx => absurd hx List.not_mem_nil) _ (zgetr_in _ j h)
  rcases List.mem_cons.mp hq with e | e
  · subst e
    exact ⟨by decide, by decide, by decide⟩
  · exact absurd e List.not_mem_nil
/-! its greatest value, its quotient -/
theorem zxr_der (r : Int64) : zder (zxr r) 1 = ztb 0 := by
  funext j
  unfold zder
  have e : zderF (zxr r) 1 (fun _ => 0) = vp_updL (fun _ => 0) 0 2097152 := by
    show vp_updL (fun _ => 0) 0 (0 + 2 * lN 1 * zxr r 1) = _
    rw [zxr_1]
    rfl
  rw [e]
  unfold vp_updL
  by_cases h : j = 0
  · subst h
    rw [if_pos rfl, if_pos rfl, ztb_at]
    decide
  · rw [if_neg h, if_neg h, ztb_ne h]
theorem zroots_1 : (zroots (ztb 0) 0).1 = [] := by decide +kernel
theorem zxr_gr {r : Int64} (hr : zb r 950000) : zgr (zxr r) 1 = 1048576 - r := by
  have h := zb_i hr
  unfold zgr
  rw [zxr_der, if_pos (zke_ztb (Nat.zero_le _)), zbas_top (Nat.zero_le _), zroots_1]
  show zmax (zval (zxr r) 1 (-1048576)) (zval (zxr r) 1 1048576) = _
  have e1 := zxr_val (x := -1048576) hr (by unfold zb; decide)
  have e2 := zxr_val (x := 1048576) hr (by unfold zb; decide)
  rw [show (-1048576 : Int64).toInt = -1048576 from rfl] at e1
  rw [show (1048576 : Int64).toInt = 1048576 from rfl] at e2
  apply zt_eq
  rw [zt_max, e1, e2, zt_sub (by rw [show (1048576 : Int64).toInt = 1048576 from rfl]; omega), show (1048576 : Int64).toInt = 1048576 from rfl]
  unfold zMax
  rw [if_neg (by omega)]
theorem zxr_quo (r : Int64) : zquo (zxr r) 1 r = ztb 0 := by
  unfold zquo
  show vp_updL (fun _ => 0) 0 (zxr r 1 + zR (r * 0) 1048576 - zR 0 2) = _
  rw [Int64.mul_zero, zxr_1]
  rfl
theorem zxr_v0 {r : Int64} (hr : zb r 950000) : zval (zxr r) 1 r = 0 := by
  apply zt_eq
  rw [zxr_val hr (zb_le hr (by decide)), show (0 : Int64).toInt = 0 from rfl]
  omega
