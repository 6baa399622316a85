/-! what the invariant needs of sums, products and degrees -/
theorem ztop_cut {f : Nat → Int64} {d : Nat} : ∀ N, d ≤ N → (∀ j, d < j → f j = 0) → ztop f N = ztop f d := by
  intro N
  induction N with
  | zero => intro h _; rw [show d = 0 by omega]
  | succ N ih =>
    intro h hz
    by_cases e : d = N + 1
    · rw [e]
    · have h1 : f (N + 1) = 0 := hz _ (by omega)
      conv => lhs; unfold ztop
      rw [if_pos h1]
      exact ih (by omega) hz
theorem ztop_ne {f : Nat → Int64} {d : Nat} (h : ¬ f d = 0) : ztop f d = d := by
  cases d with
  | zero => rfl
  | succ d => unfold ztop; rw [if_neg h]
/-- above the degree there is nothing -/
theorem ztop_above {f : Nat → Int64} {N : Nat} : ∀ j, ztop f N < j → j ≤ N → f j = 0 := by
  induction N with
  | zero => intro j h1 h2; omega
  | succ N ih =>
    intro j h1 h2
    unfold ztop at h1
    split at h1
    · rename_i h0
      by_cases e : j = N + 1
      · rw [e]; exact h0
      · exact ih j h1 (by omega)
    · omega
theorem zpin_0 {a b : Nat → Int64} {k i : Nat} {s : Int64} : ∀ m, (∀ q, q < m → i + q < k) → zpin a b k i m s = s := by
  intro m
  induction m with
  | zero => intro _; rfl
  | succ m ih =>
    intro h
    have h1 := h m (by omega)
    unfold zpin
    rw [ih (fun q hq => h q (by omega)), if_neg (by omega), if_neg (by omega), Int64.add_zero, Int64.add_zero]
theorem zpout_0 {a b : Nat → Int64} {nb k : Nat} : ∀ r, (r ≠ 0 → r - 1 + nb < k) → zpout a b nb k r = 0 := by
  intro r
  induction r with
  | zero => intro _; rfl
  | succ r ih =>
    intro h
    have h1 := h (by omega)
    unfold zpout
    rw [ih (fun _ => by omega), zpin_0 _ (fun q hq => by omega)]
theorem zprod_0 {a b : Nat → Int64} {na nb k : Nat} (h : na + nb < k) : zprod a na b nb k = 0 := by
  unfold zprod
  rw [zpout_0 _ (fun _ => by omega)]
  decide
theorem zsum_0 {fa fb : Int64} {a b : Nat → Int64} {na nb : Nat} (ha : ∀ j, na < j → a j = 0) (hb : ∀ j, nb < j → b j = 0) (h1 : na ≤ 24) (h2 : nb ≤ 24) : ∀ j, 24 < j → zsum fa fb a b j = 0 := by
  intro j hj
  unfold zsum
  rw [ha j (by omega), hb j (by omega), Int64.mul_zero, Int64.mul_zero, Int64.add_zero]
theorem zderF_0 (c : Nat → Int64) {n : Nat} : ∀ (k : Nat) (f : Nat → Int64), k ≤ n → (∀ j, n < j → f j = 0) → ∀ j, n < j → zderF c k f j = 0 := by
  intro k
  induction k with
  | zero => intro f _ hf; exact hf
  | succ k ih =>
    intro f hk hf j hj
    unfold zderF
    refine ih _ (by omega) (fun j hj => ?_) j hj
    unfold vp_updL
    rw [if_neg (by omega)]
    exact hf j hj
theorem zder_0 (c : Nat → Int64) (n : Nat) : ∀ j, n < j → zder c n j = 0 := by
  intro j hj
  unfold zder vp_updL
  rw [if_neg (by omega)]
  exact zderF_0 c n _ (Nat.le_refl _) (fun _ _ => rfl) j hj
theorem zant_0 (c : Nat → Int64) (n : Nat) : ∀ j, n + 1 < j → zant c n j = 0 := by
  intro j hj
  unfold zant
  rw [if_neg (by omega), if_neg (by omega)]
theorem zquoF_0 (c : Nat → Int64) (r : Int64) {n : Nat} : ∀ (k : Nat) (f : Nat → Int64), k ≤ n → (∀ j, n ≤ j → f j = 0) → ∀ j, n ≤ j → zquoF c r k f j = 0 := by
  intro k
  induction k with
  | zero => intro f _ hf; exact hf
  | succ k ih =>
    intro f hk hf
    cases k with
    | zero => exact hf
    | succ k =>
      intro j hj
      show zquoF c r (k + 1) _ j = 0
      refine ih _ (by omega) (fun j hj => ?_) j hj
      unfold vp_updL
      rw [if_neg (by omega)]
      exact hf j hj
theorem zquo_0 (c : Nat → Int64) (n : Nat) (r : Int64) : ∀ j, (if n = 0 then 0 else n - 1) < j → zquo c n r j = 0 := by
  intro j hj
  unfold zquo vp_updL
  split at hj
  · rename_i h
    rw [if_neg (by omega), h]
    rfl
  · rw [if_neg (by omega)]
    exact zquoF_0 c r n _ (Nat.le_refl _) (fun _ _ => rfl) j (by omega)
theorem zint_0 (pv : Nat → Int64) (p : Nat) : ∀ j, 2 ^ p < j → zint pv p j = 0 := by
  intro j hj
  unfold zint
  rw [if_neg (by omega)]
theorem zst_0 {cg b d : Nat → Int64} {ng nb nd : Nat} {fa c : Int64} (h1 : ng ≤ 24) (h2 : nb ≤ 24) (h3 : nd ≤ 24) (hd : ∀ j, nd < j → d j = 0) : ∀ j, 48 < j → zst (zprod cg ng b nb) d fa c j = 0 := by
  intro j hj
  unfold zst vp_updL zsum
  rw [if_neg (by omega), zprod_0 (by omega), hd j (by omega), Int64.mul_zero, Int64.mul_zero, Int64.add_zero]
