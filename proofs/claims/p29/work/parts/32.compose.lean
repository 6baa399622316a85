/-! the composition of two basis functions -/
theorem zprod_z (k : Nat) : zprod (ztb k) k (fun _ => 0) 0 = fun _ => 0 := by
  funext m
  rw [zprod_b, zpin_b0 _ (fun _ _ => rfl)]
  decide
theorem zst_z (fa c : Int64) : zst (fun _ => 0) (fun _ => 0) fa c = vp_updL (fun _ => 0) 0 c := by
  funext m
  unfold zst zsum vp_updL
  by_cases h : m = 0
  · rw [if_pos h, if_pos h, Int64.mul_zero, Int64.mul_zero, Int64.add_zero, Int64.zero_add]
  · rw [if_neg h, if_neg h]
    show fa * 0 + -1 * 0 = (0 : Int64)
    rw [Int64.mul_zero, Int64.mul_zero, Int64.add_zero]
theorem zke_ztb {k : Nat} (h : k ≤ 24) : zke (ztb k) = 0 := zke_good (ztb_good k) (by rw [zbas_top h]; exact h)
theorem zuu_0 (k : Nat) : zuu k 0 = ztb 0 := by
  funext m
  unfold zuu ztb vp_updL
  by_cases hm : m = 0
  · subst hm
    by_cases hk : k = 0
    · rw [if_pos hk, if_pos rfl, if_pos rfl]; rfl
    · rw [if_neg hk, if_pos ⟨by omega, Nat.zero_mod _, by rw [Nat.zero_div]⟩, if_pos rfl, if_pos rfl]
  · rw [if_neg hm]
    by_cases hk : k = 0
    · rw [if_pos hk, if_neg hm]
    · rw [if_neg hk, if_neg (by omega), if_neg hm]
theorem zuu_hi {k i m : Nat} (h : i * k < m) : zuu k i m = 0 := by
  unfold zuu
  split
  · rw [if_neg (by omega)]
  · rw [if_neg (by omega)]
theorem zup_hi {k i m : Nat} (h : i * k < m) : zup k i m = 0 := by
  unfold zup
  split
  · rfl
  · refine zuu_hi (Nat.lt_of_le_of_lt (Nat.mul_le_mul_right k (by omega)) h)
theorem zcj_all {k i : Nat} (hk : k < 25) (hi : i < 24) (h : (i + 1) * k ≤ 24) : zcj1 k i = true ∧ zcj2 k i = true := by
  by_cases h0 : k = 0
  · subst h0; exact ⟨zcj1_0 i hi, zcj2_0 i hi⟩
  by_cases h1 : k = 1
  · subst h1; exact ⟨zcj1_1 i hi, zcj2_1 i hi⟩
  have h2 : i < 12 := by
    rcases Nat.lt_or_ge i 12 with g | g
    · exact g
    · have := Nat.mul_le_mul (show 13 ≤ i + 1 by omega) (show 2 ≤ k by omega)
      omega
  exact ⟨zcj1_k k hk i h2 h, zcj2_k k hk i h2 h⟩
theorem zprod_fn (k i : Nat) : zprod (ztb k) k (zuu k i) (i * k) = fun q => zR (zpin (ztb k) (zuu k i) q k (i * k + 1) 0) 2097152 := by
  funext q
  exact zprod_b _ _ _
theorem zcj1_use {k i : Nat} (hk : k < 25) (hi : i < 24) (h : (i + 1) * k ≤ 24) : zst (zprod (ztb k) k (zuu k i) (i * k)) (zup k i) 2 0 = zuu k (i + 1) ∧ ztop (zuu k (i + 1)) 48 = (i + 1) * k ∧ zste (zprod (ztb k) k (zuu k i) (i * k)) (zuu k (i + 1)) = 0 := by
  have hc := (zcj_all hk hi h).1
  have hik : i * k ≤ 24 := Nat.le_trans (Nat.mul_le_mul_right k (Nat.le_succ i)) h
  unfold zcj1 at hc
  rw [← zprod_fn] at hc
  simp only [Bool.and_eq_true, List.all_eq_true, List.mem_range, beq_iff_eq] at hc
  obtain ⟨⟨⟨c1, c2⟩, c3⟩, c4⟩ := hc
  refine ⟨?_, c2, ?_⟩
  · funext m
    rcases Nat.lt_or_ge m 49 with g | g
    · exact c1 m g
    · rw [zuu_hi (by omega)]
      exact zst_0 (by omega) hik (Nat.le_refl 24) (fun q hq => zup_hi (by omega)) m (by omega)
  · unfold zste
    rw [if_pos c4]
    exact c3
theorem zcj2_use {k i : Nat} (hk : k < 25) (hi : i < 24) (h : (i + 1) * k ≤ 24) : zst (zprod (ztb k) k (zuu k i) (i * k)) (zup k i) 1 0 = ztb ((i + 1) * k) ∧ zste (zprod (ztb k) k (zuu k i) (i * k)) (ztb ((i + 1) * k)) = 0 := by
  have hc := (zcj_all hk hi h).2
  have hik : i * k ≤ 24 := Nat.le_trans (Nat.mul_le_mul_right k (Nat.le_succ i)) h
  unfold zcj2 at hc
  rw [← zprod_fn] at hc
  simp only [Bool.and_eq_true, List.all_eq_true, List.mem_range, beq_iff_eq] at hc
  obtain ⟨c1, c4⟩ := hc
  refine ⟨?_, ?_⟩
  · funext m
    rcases Nat.lt_or_ge m 49 with g | g
    · exact c1 m g
    · rw [ztb_ne (by omega)]
      exact zst_0 (by omega) hik (Nat.le_refl 24) (fun q hq => zup_hi (by omega)) m (by omega)
  · unfold zste
    rw [if_pos c4]
    exact zke_ztb h
theorem zup_s (k i : Nat) : zup k (i + 1) = zuu k i := by
  unfold zup
  rw [if_neg (Nat.succ_ne_zero i)]
  rfl
theorem zcomp_in {k : Nat} (hk : k < 25) : ∀ (r i j : Nat), r + i + 1 = j → j ≤ 24 → j * k ≤ 24 → zcomp (ztb j) (ztb k) k r (zuu k i) (i * k) (zup k i) = (0, ztb (j * k)) := by
  intro r
  induction r with
  | zero =>
    intro i j e hj h
    have e2 : i + 1 = j := by omega
    subst e2
    obtain ⟨a1, a2⟩ := zcj2_use hk (by omega) h
    unfold zcomp
    rw [ztb_ne (show ¬ 0 = i + 1 by omega), a1, a2]
  | succ r ih =>
    intro i j e hj h
    have hik : (i + 1) * k ≤ j * k := Nat.mul_le_mul_right k (by omega)
    obtain ⟨a1, a2, a3⟩ := zcj1_use hk (show i < 24 by omega) (by omega)
    unfold zcomp
    rw [ztb_ne (show ¬ r + 1 = j by omega), a1, if_pos a3, a2, ← zup_s k i]
    exact ih (i + 1) j (by omega) hj h
theorem zcomp_bb {j k : Nat} (hj : j ≤ 24) (hk : k ≤ 24) (h : j * k ≤ 24) : zcomp (ztb j) (ztb k) k j (fun _ => 0) 0 (fun _ => 0) = (0, ztb (j * k)) := by
  have z : zke (fun _ => 0) = 0 := by decide
  cases j with
  | zero =>
    unfold zcomp
    rw [zprod_z, zst_z, ztb_at, Nat.zero_mul]
    unfold zste
    rw [if_pos z, zke_ztb (Nat.zero_le _)]
  | succ j =>
    unfold zcomp
    rw [zprod_z, zst_z, ztb_at]
    have e : zste (fun _ => 0) (vp_updL (fun _ => 0) 0 1048576) = 0 := by
      unfold zste
      rw [if_pos z]
      exact zke_ztb (Nat.zero_le _)
    rw [if_pos e, zbas_top (Nat.zero_le _)]
    have h2 := zcomp_in (k := k) (by omega) j 0 (j + 1) (by omega) hj h
    rw [zuu_0, Nat.zero_mul] at h2
    exact h2
