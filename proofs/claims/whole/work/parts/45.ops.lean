/-! the operations give series that are in order -/
theorem zb_neg {x : Int64} {A : Nat} (hx : zb x A) (h : A < 9223372036854775808) : zb (-x) A := by
  unfold zb at *
  have e2 : (-x).toInt = -x.toInt := by
    rw [Int64.toInt_neg]
    apply Int.bmod_eq_of_le <;> omega
  rw [e2]
  omega
theorem zb_R2 {v d : Int64} {B : Nat} (hv : zb v B) (h : 2 ≤ d.toInt) (hB : B + 2 < 9223372036854775808) : zb (zR v d) (B + 2) := by
  have h1 : zb (v / d) B := by
    unfold zb at *
    have g1 := v.le_toInt
    have g2 := v.toInt_lt
    have e : (v / d).toInt = v.toInt.tdiv d.toInt := by
      rw [Int64.toInt_div]
      have h1 : (v.toInt.tdiv d.toInt).natAbs = v.toInt.natAbs / d.toInt.natAbs := Int.natAbs_tdiv _ _
      have h2 : v.toInt.natAbs / d.toInt.natAbs ≤ v.toInt.natAbs := Nat.div_le_self _ _
      apply Int.bmod_eq_of_le <;> omega
    have e3 : (v.toInt.tdiv d.toInt).natAbs = v.toInt.natAbs / d.toInt.natAbs := Int.natAbs_tdiv _ _
    rw [e, e3]
    exact Nat.le_trans (Nat.div_le_self _ _) hv
  have h0 : zb 1 1 := by unfold zb; decide
  have hf : zb (zfl v d) (B + 1) := by
    unfold zfl
    split
    · exact (zb_sub h1 h0 (by omega)).1
    · exact zb_le h1 (by omega)
  unfold zR
  split
  · exact zb_le hf (by omega)
  · exact (zb_add hf h0 (by omega)).1
theorem zb_I {x : Int32} {A : Nat} (h : -(A : Int) ≤ x.toInt ∧ x.toInt ≤ (A : Int)) : zb x.toInt64 A := by
  unfold zb
  rw [Int32.toInt_toInt64]
  omega
theorem zb_lN {n A : Nat} (h : n ≤ A) (hA : A < 9223372036854775808) : zb (lN n) A := by
  unfold zb
  rw [lN_toInt (by omega)]
  omega
theorem zb_sum {fa fb : Int64} {a b : Nat → Int64} (h1 : zb fa 1000) (h2 : zb fb 1000) (ha : zgood a) (hb : zgood b) : ∀ j, zb (zsum fa fb a b j) 9223372036854775807 := by
  intro j
  unfold zsum
  exact zb_le (zb_add (zb_mul h1 (ha j) (by decide)).1 (zb_mul h2 (hb j) (by decide)).1 (by decide)).1 (by decide)
theorem zb_prod (a : Nat → Int64) (na : Nat) (b : Nat → Int64) (nb : Nat) : ∀ j, zb (zprod a na b nb j) 9223372036854775807 := by
  intro j
  unfold zprod
  exact zb_le (zb_R (by decide)) (by decide)
theorem zb_derF {c : Nat → Int64} (hc : zgood c) : ∀ (k : Nat) (f : Nat → Int64) (B : Nat), k ≤ 24 → B + k * 12884901888 ≤ 9223372036854775807 → (∀ j, zb (f j) B) → ∀ j, zb (zderF c k f j) (B + k * 12884901888) := by
  intro k
  induction k with
  | zero => intro f B _ _ hf j; exact zb_le (hf j) (by omega)
  | succ k ih =>
    intro f B hk hB hf j
    unfold zderF
    have h1 : zb (2 * lN (k + 1)) 48 := (zb_mul (A := 2) (B := 24) (by unfold zb; decide) (zb_lN (by omega) (by decide)) (by decide)).1
    have h2 : zb (2 * lN (k + 1) * c (k + 1)) 12884901888 := (zb_mul h1 (hc (k + 1)) (by decide)).1
    have h3 : zb (f (k + 2) + 2 * lN (k + 1) * c (k + 1)) (B + 12884901888) := (zb_add (hf (k + 2)) h2 (by omega)).1
    exact zb_le (ih _ (B + 12884901888) (by omega) (by omega) (zb_up (fun j => zb_le (hf j) (by omega)) h3) j) (by omega)
theorem zb_quoF {c : Nat → Int64} {r : Int64} (hc : zgood c) (hr : zb r 1048576) : ∀ (k : Nat) (f : Nat → Int64), k ≤ 24 → (∀ j, k ≤ j → zb (f j) 268435456) → (∀ j, 1 ≤ j → j < 49 → zabs (zquoF c r k f j) ≤ 268435456) → ∀ j, 1 ≤ j → zb (zquoF c r k f j) 268435456 := by
  have keep : ∀ (k : Nat) (f : Nat → Int64) (j : Nat), k ≤ j → zquoF c r k f j = f j := by
    intro k
    induction k with
    | zero => intro f j _; rfl
    | succ k ih =>
      intro f j hj
      cases k with
      | zero => rfl
      | succ k =>
        unfold zquoF
        rw [ih _ j (by omega)]
        unfold vp_updL
        rw [if_neg (by omega)]
  intro k
  induction k with
  | zero => intro f _ hf _ j _; exact hf j (by omega)
  | succ k ih =>
    intro f hk hf hz j hj
    cases k with
    | zero => exact hf j hj
    | succ k =>
      have hX : zb (2 * c (k + 2) + zR (2 * r * f (k + 2)) 1048576 - f (k + 3)) 562952100839426 := by
        have h1 : zb (2 * c (k + 2)) 536870912 := (zb_mul (A := 2) (by unfold zb; decide) (hc _) (by decide)).1
        have h2 : zb (2 * r * f (k + 2)) 562949953421312 := (zb_mul (zb_mul (A := 2) (by unfold zb; decide) hr (by decide)).1 (hf (k + 2) (by omega)) (by decide)).1
        have h3 := zb_R2 (d := 1048576) h2 (by decide) (by decide)
        exact zb_le (zb_sub (zb_add h1 h3 (by decide)).1 (hf (k + 3) (by omega)) (by decide)).1 (by decide)
      have hz2 := hz
      unfold zquoF at hz2 ⊢
      refine ih _ (by omega) (fun j hj => ?_) hz2 j hj
      by_cases e : j = k + 1
      · have h9 := hz2 (k + 1) (by omega) (by omega)
        rw [keep _ _ _ (Nat.le_refl _)] at h9
        rw [e]
        exact zb_abs h9 (by unfold vp_updL; rw [if_pos rfl]; exact hX) (by decide)
      · unfold vp_updL
        rw [if_neg e]
        exact hf j (by omega)
theorem ztw_nz {c : Nat → Int64} {tol : Int64} : ∀ (n : Nat) (s : Int64), s ≤ tol → ztw c tol n s = 0 ∨ ¬ c (ztw c tol n s) = 0 := by
  intro n
  induction n with
  | zero => intro s _; exact Or.inl rfl
  | succ n ih =>
    intro s hs
    unfold ztw
    split
    · rename_i h
      exact ih _ h
    · rename_i h
      refine Or.inr (fun h0 => h ?_)
      rw [h0, show zabs 0 = 0 from by decide, Int64.add_zero]
      exact hs
theorem zcut_top {c : Nat → Int64} {d : Nat} (hd : d ≤ 24) (h : d = 0 ∨ ¬ c d = 0) : ztop (zcut c d) 48 = d := by
  rw [ztop_cut 48 (by omega) (fun j hj => by unfold zcut; rw [if_neg (by omega)])]
  rcases h with h | h
  · rw [h]; rfl
  · exact ztop_ne (by unfold zcut; rw [if_pos (Nat.le_refl _)]; exact h)
theorem zcut_good {c : Nat → Int64} {d : Nat} (h : zgood c) : zgood (zcut c d) := by
  intro j
  unfold zcut
  split
  · exact h j
  · exact Nat.zero_le _
theorem zbas_top {k : Nat} (hk : k ≤ 24) : ztop (vp_updL (fun _ => 0) k 1048576) 48 = k := by
  rw [ztop_cut 48 (show k ≤ 48 by omega) (fun j hj => by unfold vp_updL; rw [if_neg (by omega)])]
  exact ztop_ne (by unfold vp_updL; rw [if_pos rfl]; decide)
