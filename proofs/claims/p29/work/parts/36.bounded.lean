/-! bounds, cuts, sums, places -/
abbrev zai (f : Nat → Int64) : Nat → Int := fun i => ((f i).toInt.natAbs : Int)
theorem zai_ext {f : Nat → Int64} {n N : Nat} (hz : ∀ j, n < j → f j = 0) (h : n + 1 ≤ N) : zis (zai f) N = zis (zai f) (n + 1) := by
  rw [← zis_ext (f := zai f) (m := n + 1) (N - (n + 1)) (fun i h1 _ => by unfold zai; rw [hz i (by omega)]; rfl), show n + 1 + (N - (n + 1)) = N by omega]
theorem zai_le {f : Nat → Int64} {B : Nat} (hf : ∀ j, zb (f j) B) (m : Nat) : 0 ≤ zis (zai f) m ∧ zis (zai f) m ≤ m * B := by
  have h1 := zis_le (f := zai f) (g := fun _ => (B : Int)) m (fun i _ => by have := hf i; unfold zb at this; unfold zai; omega)
  have h2 := zis_le (f := fun _ => 0) (g := zai f) m (fun i _ => by unfold zai; omega)
  rw [zis_const] at h1
  rw [zis_0] at h2
  exact ⟨h2, h1⟩
theorem zval_bb {f : Nat → Int64} {n : Nat} {x : Int64} (hf : ∀ j, zb (f j) 300000) (hn : n ≤ 24) (hz : ∀ j, n < j → f j = 0) (hx : zb x 1048576) : zval f n x ≤ zbd f 25 + 60 * lN (n + 1) ∧ -zval f n x ≤ zbd f 25 + 60 * lN (n + 1) ∧ zb (zval f n x) 8000000 := by
  have hg : zgood f := fun j => zb_le (hf j) (by decide)
  have h1 := zval_bd hx hg hn
  have h2 := (zbd_int hg 25 (by decide)).1
  have h3 := zai_ext (N := 25) hz (by omega)
  have h4 := zai_le hf (n + 1)
  have h5 : ((n + 1 : Nat) : Int) * 300000 ≤ 7500000 := by omega
  have e2 : zis (fun i => ((f i).toInt.natAbs : Int)) 25 = zis (zai f) 25 := rfl
  have e1 : zis (fun i => ((f i).toInt.natAbs : Int)) (n + 1) = zis (zai f) (n + 1) := rfl
  rw [e2, h3] at h2
  rw [e1] at h1
  generalize zis (zai f) (n + 1) = S at *
  have h6 : (60 * lN (n + 1)).toInt = 60 * (n + 1 : Nat) := by
    rw [zt_mul (by rw [zt_lN (by omega), show (60 : Int64).toInt = 60 from rfl]; omega), zt_lN (by omega)]
    rfl
  have h7 : (zbd f 25 + 60 * lN (n + 1)).toInt = S + 60 * (n + 1 : Nat) := by rw [zt_add (by rw [h6, h2]; omega), h6, h2]
  refine ⟨?_, ?_, zb_o (by omega) (by omega)⟩
  · rw [Int64.le_iff_toInt_le, h7]; omega
  · rw [Int64.le_iff_toInt_le, h7, zt_neg (by omega)]; omega
/-! cuts -/
theorem ztw_sum {c : Nat → Int64} {tol : Int64} (hc : zgood c) (ht : zb tol 1000000000) : ∀ (n : Nat) (s : Int64), 0 ≤ s.toInt → s.toInt ≤ tol.toInt → s.toInt + zis (zai c) (n + 1) - zis (zai c) (ztw c tol n s + 1) ≤ tol.toInt := by
  intro n
  induction n with
  | zero => intro s h1 h2; unfold ztw; omega
  | succ n ih =>
    intro s h1 h2
    have hb := zb_i (hc (n + 1))
    have htb := zb_i ht
    have ha := zt_abs (x := c (n + 1)) (by omega)
    have hs : (s + zabs (c (n + 1))).toInt = s.toInt + ((c (n + 1)).toInt.natAbs : Int) := by rw [zt_add (by rw [ha]; omega), ha]
    have e : zis (zai c) (n + 1 + 1) = zis (zai c) (n + 1) + ((c (n + 1)).toInt.natAbs : Int) := rfl
    unfold ztw
    split
    · rename_i h
      rw [Int64.le_iff_toInt_le, hs] at h
      have r := ih (s + zabs (c (n + 1))) (by rw [hs]; omega) (by rw [hs]; omega)
      rw [hs] at r
      rw [e]
      omega
    · omega
theorem zcut_at {f : Nat → Int64} {m j : Nat} (h : j ≤ m) : zcut f m j = f j := by unfold zcut; rw [if_pos h]
theorem zcut_hi {f : Nat → Int64} {m j : Nat} (h : m < j) : zcut f m j = 0 := by unfold zcut; rw [if_neg (by omega)]
theorem zcut_near {f : Nat → Int64} {n : Nat} {x tol : Int64} (hf : ∀ j, zb (f j) 300000) (hn : n ≤ 24) (hz : ∀ j, n < j → f j = 0) (hx : zb x 1048576) (ht : 0 ≤ tol.toInt) (ht2 : tol.toInt ≤ 1000000000) :
    (zbd f 25).toInt ≤ (zbd (zcut f (ztw f tol n 0)) 25).toInt + tol.toInt ∧ -(tol.toInt + 2 * (n + 1)) ≤ (zval (zcut f (ztw f tol n 0)) (ztw f tol n 0) x).toInt - (zval f n x).toInt ∧ (zval (zcut f (ztw f tol n 0)) (ztw f tol n 0) x).toInt - (zval f n x).toInt ≤ tol.toInt + 2 * (n + 1) := by
  have hg : zgood f := fun j => zb_le (hf j) (by decide)
  have hs := ztw_sum hg (tol := tol) (zb_o (by omega) (by omega)) n 0 (Int.le_refl 0) (by rw [show (0 : Int64).toInt = 0 from rfl]; exact ht)
  rw [show (0 : Int64).toInt = 0 from rfl] at hs
  have hm := ztw_le f tol n 0
  generalize ztw f tol n 0 = m at *
  have hg2 : zgood (zcut f m) := zcut_good hg
  have k1 := (zbd_int hg 25 (by decide)).1
  have k2 := (zbd_int hg2 25 (by decide)).1
  have e1 : zis (fun i => ((f i).toInt.natAbs : Int)) 25 = zis (zai f) (n + 1) := zai_ext (N := 25) hz (by omega)
  have e2 : zis (fun i => ((zcut f m i).toInt.natAbs : Int)) 25 = zis (zai (zcut f m)) (m + 1) := zai_ext (N := 25) (fun j hj => zcut_hi hj) (by omega)
  have e3 : zis (zai (zcut f m)) (m + 1) = zis (zai f) (m + 1) := zis_eq (m + 1) (fun i hi => by unfold zai; rw [zcut_at (by omega)])
  have e4 : zis (zai (zcut f m)) (n + 1) = zis (zai (zcut f m)) (m + 1) := zai_ext (N := n + 1) (fun j hj => zcut_hi hj) (by omega)
  have e5 := zval_ext (c := zcut f m) (x := x) (m := m) (n - m) (fun i h1 _ => zcut_hi h1)
  rw [show m + (n - m) = n by omega] at e5
  have cm := zval_cmp (c := zcut f m) (c' := f) (x := x) (g := fun i => (((zcut f m i).toInt - (f i).toInt).natAbs : Int)) hx hg2 hg hn (fun i _ => by
    show -(((zcut f m i).toInt - (f i).toInt).natAbs : Int) ≤ _ ∧ _ ≤ (((zcut f m i).toInt - (f i).toInt).natAbs : Int)
    omega)
  have e6 : zis (fun i => (((zcut f m i).toInt - (f i).toInt).natAbs : Int)) (n + 1) + zis (zai (zcut f m)) (n + 1) = zis (zai f) (n + 1) := by
    rw [← zis_add]
    refine zis_eq (n + 1) (fun i _ => ?_)
    unfold zai
    rcases Nat.lt_or_ge m i with g | g
    · rw [zcut_hi g, show (0 : Int64).toInt = 0 from rfl]
      omega
    · rw [zcut_at g]
      omega
  rw [e5] at cm
  rw [k1, k2, e1, e2, e3]
  generalize zis (fun i => (((zcut f m i).toInt - (f i).toInt).natAbs : Int)) (n + 1) = G at *
  refine ⟨by omega, by omega, by omega⟩
theorem ztw_self {c : Nat → Int64} (hc : zgood c) {m : Nat} (h : m = 0 ∨ ¬ c m = 0) : ztw c 0 m 0 = m := by
  cases m with
  | zero => rfl
  | succ m =>
    have h1 : ¬ c (m + 1) = 0 := by
      rcases h with h | h
      · omega
      · exact h
    have hb := zb_i (hc (m + 1))
    have ha := zt_abs (x := c (m + 1)) (by omega)
    unfold ztw
    rw [if_neg]
    rw [Int64.zero_add, Int64.le_iff_toInt_le, ha, show (0 : Int64).toInt = 0 from rfl]
    intro h2
    exact h1 (zt_eq (by rw [show (0 : Int64).toInt = 0 from rfl]; omega))
/-! sums and differences -/
theorem zsum_pp (f g : Nat → Int64) (j : Nat) : zsum 1 1 f g j = f j + g j := by unfold zsum; rw [Int64.one_mul, Int64.one_mul]
theorem zsum_pm (f g : Nat → Int64) (j : Nat) : zsum 1 (-1) f g j = f j - g j := by
  unfold zsum
  rw [Int64.one_mul]
  grind
theorem zsum_back (f g : Nat → Int64) : zsum 1 (-1) (zsum 1 1 f g) g = f := by
  funext j
  rw [zsum_pm, zsum_pp]
  grind
theorem zsum_none (f : Nat → Int64) : zsum 1 (-1) f f = fun _ => 0 := by
  funext j
  rw [zsum_pm]
  grind
theorem zsum_good {f g : Nat → Int64} (hf : ∀ j, zb (f j) 300000) (hg : ∀ j, zb (g j) 200000) : zgood (zsum 1 1 f g) := by
  intro j
  rw [zsum_pp]
  exact zb_le (zb_add (hf j) (hg j) (by decide)).1 (by decide)
theorem ztop_is {f : Nat → Int64} {n : Nat} (hn : n ≤ 24) (hz : ∀ j, n < j → f j = 0) (h : n = 0 ∨ ¬ f n = 0) : ztop f 48 = n := by
  rw [ztop_cut (d := n) 48 (by omega) hz]
  rcases h with h | h
  · rw [h]; rfl
  · exact ztop_ne h
/-! the order of absolute values -/
theorem zplace_0 {c : Nat → Int64} {k : Nat} : ∀ m, (∀ i, i < m → ¬ (zabs (c k) < zabs (c i) ∨ (zabs (c i) = zabs (c k) ∧ i < k))) → zplace c k m = 0 := by
  intro m
  induction m with
  | zero => intro _; rfl
  | succ m ih =>
    intro h
    unfold zplace
    rw [ih (fun i hi => h i (by omega)), if_neg (h m (by omega))]
theorem zplace_1 {c : Nat → Int64} {k : Nat} : ∀ m, zplace c k m = 0 → ∀ i, i < m → ¬ zabs (c k) < zabs (c i) := by
  intro m
  induction m with
  | zero => intro _ i hi; omega
  | succ m ih =>
    intro h i hi
    unfold zplace at h
    by_cases e : i = m
    · subst e
      intro h2
      rw [if_pos (Or.inl h2)] at h
      omega
    · exact ih (by omega) i (by omega)
theorem zplace_ex (c : Nat → Int64) : ∀ n, ∃ k, k ≤ n ∧ ∀ i, i < n + 1 → (zabs (c i)).toInt ≤ (zabs (c k)).toInt ∧ (i < k → (zabs (c i)).toInt < (zabs (c k)).toInt) := by
  intro n
  induction n with
  | zero => exact ⟨0, Nat.le_refl _, fun i hi => by rw [show i = 0 by omega]; exact ⟨Int.le_refl _, fun h => by omega⟩⟩
  | succ n ih =>
    obtain ⟨k, hk, h⟩ := ih
    by_cases g : (zabs (c k)).toInt < (zabs (c (n + 1))).toInt
    · refine ⟨n + 1, Nat.le_refl _, fun i hi => ?_⟩
      by_cases e : i = n + 1
      · rw [e]; exact ⟨Int.le_refl _, fun h => by omega⟩
      · have := (h i (by omega)).1
        exact ⟨by omega, fun _ => by omega⟩
    · refine ⟨k, by omega, fun i hi => ?_⟩
      by_cases e : i = n + 1
      · rw [e]; exact ⟨by omega, fun h => by omega⟩
      · exact h i (by omega)
theorem zbv_find {c : Nat → Int64} {n : Nat} : ∀ (u k k0 : Nat), k ≤ k0 → k0 < k + u → zplace c k0 (n + 1) = 0 → ∃ k1, k1 ≤ k0 ∧ zbv c n 0 u k = lN k1 ∧ zplace c k1 (n + 1) = 0 := by
  intro u
  induction u with
  | zero => intro k k0 h1 h2; omega
  | succ u ih =>
    intro k k0 h1 h2 h3
    unfold zbv
    by_cases e : zplace c k (n + 1) = 0
    · rw [if_pos e]
      exact ⟨k, h1, rfl, e⟩
    · rw [if_neg e]
      have h4 : ¬ k = k0 := fun h => e (by rw [h]; exact h3)
      exact ih (k + 1) k0 (by omega) (by omega) h3
theorem zbv_big {f : Nat → Int64} {n : Nat} (hf : zgood f) (hn : n ≤ 24) (hz : ∀ j, n < j → f j = 0) : ∃ k, k ≤ n ∧ zbv f n 0 (n + 1) 0 = lN k ∧ (¬ zbd f 25 = 0 → ¬ f k = 0) := by
  obtain ⟨k0, hk0, h0⟩ := zplace_ex f n
  have hp : zplace f k0 (n + 1) = 0 := zplace_0 (n + 1) (fun i hi h => by
    rcases h with h | ⟨h, h2⟩
    · rw [Int64.lt_iff_toInt_lt] at h
      have := (h0 i hi).1
      omega
    · have := (h0 i hi).2 h2
      rw [h] at this
      omega)
  obtain ⟨k, hk, h1, h2⟩ := zbv_find (n + 1) 0 k0 (Nat.zero_le _) (by omega) hp
  refine ⟨k, by omega, h1, fun hb hk0 => hb ?_⟩
  have h3 := zplace_1 (n + 1) h2
  apply zt_eq
  rw [(zbd_int hf 25 (by decide)).1, show (0 : Int64).toInt = 0 from rfl, ← zis_0 25]
  refine zis_eq 25 (fun i _ => ?_)
  rcases Nat.lt_or_ge n i with g | g
  · rw [hz i g]; rfl
  · have h4 := h3 i (by omega)
    have hb2 := zb_i (hf i)
    rw [Int64.lt_iff_toInt_lt, hk0, zt_abs (x := f i) (by omega), show (zabs 0).toInt = 0 from by decide] at h4
    omega
