/-! an antiderivative and its derivative -/
def zfu (f : Nat → Int64) (j : Nat) : Int := if j = 0 then 2 * (f 0).toInt else (f j).toInt
theorem zb_i {x : Int64} {A : Nat} (h : zb x A) : -(A : Int) ≤ x.toInt ∧ x.toInt ≤ A := by
  unfold zb at h
  omega
theorem zb_o {x : Int64} {A : Nat} (h1 : -(A : Int) ≤ x.toInt) (h2 : x.toInt ≤ A) : zb x A := by
  unfold zb
  omega
theorem zfu_b {f : Nat → Int64} (hf : ∀ j, zb (f j) 400000) (j : Nat) : -800000 ≤ zfu f j ∧ zfu f j ≤ 800000 := by
  have h0 := zb_i (hf 0)
  have h1 := zb_i (hf j)
  unfold zfu
  split <;> omega
theorem z2lN {k : Nat} (hk : k ≤ 48) : (2 * lN k).toInt = 2 * k := by
  rw [zt_mul (by rw [zt_lN (by omega), show (2 : Int64).toInt = 2 from rfl]; omega), zt_lN (by omega), show (2 : Int64).toInt = 2 from rfl]
theorem ztm_int {f : Nat → Int64} (hf : ∀ j, zb (f j) 400000) {k : Nat} (hk : 1 ≤ k) (hk2 : k ≤ 26) : (-(k : Int) ≤ zfu f (k - 1) - (f (k + 1)).toInt - 2 * (k * (ztm f k).toInt) ∧ zfu f (k - 1) - (f (k + 1)).toInt - 2 * (k * (ztm f k).toInt) ≤ k) ∧ zb (ztm f k) 1200002 := by
  have hu : (if k = 1 then 2 * f 0 else f (k - 1)).toInt = zfu f (k - 1) := by
    unfold zfu
    have h0 := zb_i (hf 0)
    split
    · rename_i h
      rw [if_pos (by omega), zt_mul (by rw [show (2 : Int64).toInt = 2 from rfl]; omega)]
      rfl
    · rw [if_neg (by omega)]
  have hb := zfu_b hf (k - 1)
  have h2 := zb_i (hf (k + 1))
  have hv : ((if k = 1 then 2 * f 0 else f (k - 1)) - f (k + 1)).toInt = zfu f (k - 1) - (f (k + 1)).toInt := by
    rw [zt_sub (by rw [hu]; omega), hu]
  have hd := z2lN (k := k) (by omega)
  have hvb : zb ((if k = 1 then 2 * f 0 else f (k - 1)) - f (k + 1)) 1200000 := zb_o (by rw [hv]; omega) (by rw [hv]; omega)
  have h := zR_int (v := (if k = 1 then 2 * f 0 else f (k - 1)) - f (k + 1)) (d := 2 * lN k) (zb_le hvb (by decide)) (by rw [hd]; omega) (by rw [hd]; omega)
  rw [hv, hd] at h
  have hz := zb_R2 (v := (if k = 1 then 2 * f 0 else f (k - 1)) - f (k + 1)) (d := 2 * lN k) hvb (by rw [hd]; omega) (by decide)
  refine ⟨?_, hz⟩
  unfold ztm
  generalize (zR ((if k = 1 then 2 * f 0 else f (k - 1)) - f (k + 1)) (2 * lN k)).toInt = q at h ⊢
  rw [Int.mul_assoc 2 (k : Int) q] at h
  generalize (k : Int) * q = w at h ⊢
  omega
/-- the coefficients of the antiderivative that are not the first -/
theorem zant_rel {f : Nat → Int64} {n : Nat} (hf : ∀ j, zb (f j) 400000) (hn : n ≤ 11) (hz : ∀ j, n < j → f j = 0) {k : Nat} (hk : 1 ≤ k) (hk2 : k ≤ 26) : (-(k : Int) ≤ zfu f (k - 1) - (f (k + 1)).toInt - 2 * (k * (zant f n k).toInt) ∧ zfu f (k - 1) - (f (k + 1)).toInt - 2 * (k * (zant f n k).toInt) ≤ k) ∧ zb (zant f n k) 1200002 := by
  unfold zant
  rw [if_neg (by omega)]
  split
  · exact ztm_int hf hk hk2
  · rw [hz (k + 1) (by omega), show (0 : Int64).toInt = 0 from rfl, Int.mul_zero]
    unfold zfu
    rw [if_neg (by omega), hz (k - 1) (by omega), show (0 : Int64).toInt = 0 from rfl]
    exact ⟨by omega, Nat.zero_le _⟩
theorem zderF_keep (c : Nat → Int64) : ∀ (k : Nat) (f : Nat → Int64) (j : Nat), k ≤ j → zderF c k f j = f j := by
  intro k
  induction k with
  | zero => intro f j _; rfl
  | succ k ih =>
    intro f j h
    unfold zderF
    rw [ih _ j (by omega)]
    unfold vp_updL
    rw [if_neg (by omega)]
theorem zderF_rec (c : Nat → Int64) : ∀ (k : Nat) (f : Nat → Int64) (j : Nat), j < k → zderF c k f j = zderF c k f (j + 2) + 2 * lN (j + 1) * c (j + 1) := by
  intro k
  induction k with
  | zero => intro f j h; omega
  | succ k ih =>
    intro f j h
    unfold zderF
    rcases Nat.lt_or_ge j k with g | g
    · exact ih _ j g
    · have e : j = k := by omega
      subst e
      rw [zderF_keep _ j _ j (Nat.le_refl _), zderF_keep _ j _ (j + 2) (by omega)]
      unfold vp_updL
      rw [if_pos rfl, if_neg (by omega)]
theorem zant_top {f : Nat → Int64} {n : Nat} : ztop (zant f n) 48 ≤ n + 1 := ztop_of 48 (fun j h _ => by unfold zant; rw [if_neg (by omega), if_neg (by omega)])
theorem zant_hi {f : Nat → Int64} {n j : Nat} (h : n + 1 < j) : zant f n j = 0 := by unfold zant; rw [if_neg (by omega), if_neg (by omega)]
theorem zdF_all {f : Nat → Int64} {n : Nat} (hn : n ≤ 11) (j : Nat) : zderF (zant f n) (ztop (zant f n) 48) (fun _ => 0) j = zderF (zant f n) (ztop (zant f n) 48) (fun _ => 0) (j + 2) + 2 * lN (j + 1) * zant f n (j + 1) := by
  rcases Nat.lt_or_ge j (ztop (zant f n) 48) with g | g
  · exact zderF_rec _ _ _ j g
  · rw [zderF_keep _ _ _ j g, zderF_keep _ _ _ (j + 2) (by omega), zabove (f := zant f n) (fun q hq => zant_hi (n := n) (by omega)) (j + 1) (by omega), Int64.mul_zero, Int64.add_zero]
theorem zdF_near {f : Nat → Int64} {n : Nat} (hf : ∀ j, zb (f j) 400000) (hn : n ≤ 11) (hz : ∀ j, n < j → f j = 0) : ∀ (i : Nat), i ≤ 26 → ∀ (j : Nat), 26 ≤ j + i → -(26 * (i : Int)) ≤ (zderF (zant f n) (ztop (zant f n) 48) (fun _ => 0) j).toInt - zfu f j ∧ (zderF (zant f n) (ztop (zant f n) 48) (fun _ => 0) j).toInt - zfu f j ≤ 26 * i := by
  have ht := zant_top (f := f) (n := n)
  intro i
  induction i with
  | zero =>
    intro _ j hj
    rw [zderF_keep _ _ _ j (by omega)]
    unfold zfu
    rw [if_neg (by omega), hz j (by omega), show (0 : Int64).toInt = 0 from rfl]
    omega
  | succ i ih =>
    intro hi j hj
    rcases Nat.lt_or_ge (j + i) 26 with g | g
    · have hr := ih (by omega) (j + 2) (by omega)
      have ha := zant_rel hf hn hz (k := j + 1) (by omega) (by omega)
      have hb := zfu_b hf (j + 2)
      have hA := zb_i ha.2
      have h2 := z2lN (k := j + 1) (by omega)
      have ej : j + 1 - 1 = j := by omega
      rw [ej] at ha
      have e2 : zfu f (j + 2) = (f (j + 1 + 1)).toInt := by unfold zfu; rw [if_neg (by omega)]
      have hm0 : (((j + 1 : Nat) : Int) * (zant f n (j + 1)).toInt).natAbs ≤ 26 * 1200002 := by
        rw [Int.natAbs_mul]
        exact Nat.mul_le_mul (by omega) ha.2
      have hm : (2 * lN (j + 1) * zant f n (j + 1)).toInt = 2 * (((j + 1 : Nat) : Int) * (zant f n (j + 1)).toInt) := by
        rw [zt_mul (by rw [h2, Int.mul_assoc]; omega), h2, Int.mul_assoc]
      rw [zdF_all hn j]
      generalize zderF (zant f n) (ztop (zant f n) 48) (fun _ => 0) (j + 2) = d at hr ⊢
      obtain ⟨ha1, -⟩ := ha
      generalize ((j + 1 : Nat) : Int) * (zant f n (j + 1)).toInt = w at ha1 hm hm0
      have hs : (d + 2 * lN (j + 1) * zant f n (j + 1)).toInt = d.toInt + 2 * w := by
        rw [zt_add (by rw [hm]; omega), hm]
      rw [hs]
      rw [← e2] at ha1
      omega
    · have hr := ih (by omega) j g
      omega
theorem zder_near {f : Nat → Int64} {n : Nat} (hf : ∀ j, zb (f j) 400000) (hn : n ≤ 11) (hz : ∀ j, n < j → f j = 0) (j : Nat) : -680 ≤ (zder (zant f n) (ztop (zant f n) 48) j).toInt - (f j).toInt ∧ (zder (zant f n) (ztop (zant f n) 48) j).toInt - (f j).toInt ≤ 680 := by
  have h := zdF_near hf hn hz 26 (Nat.le_refl _) j (by omega)
  have h0 := zb_i (hf 0)
  unfold zder vp_updL
  by_cases e : j = 0
  · subst e
    rw [if_pos rfl]
    unfold zfu at h
    rw [if_pos rfl] at h
    generalize zderF (zant f n) (ztop (zant f n) 48) (fun _ => 0) 0 = d at h ⊢
    have hq := zR_int (v := d) (d := 2) (zb_le (zb_o (A := 801000) (by omega) (by omega)) (by decide)) (by decide) (by decide)
    rw [show (2 : Int64).toInt = 2 from rfl] at hq
    omega
  · rw [if_neg e]
    unfold zfu at h
    rw [if_neg e] at h
    omega
theorem zder_good {f : Nat → Int64} {n : Nat} (hf : ∀ j, zb (f j) 400000) (hn : n ≤ 11) (hz : ∀ j, n < j → f j = 0) : zgood (zder (zant f n) (ztop (zant f n) 48)) := by
  intro j
  have h := zder_near hf hn hz j
  have h0 := zb_i (hf j)
  exact zb_o (by omega) (by omega)
theorem zder_top {f : Nat → Int64} {n : Nat} : ztop (zder (zant f n) (ztop (zant f n) 48)) 48 ≤ n + 1 := by
  have ht := zant_top (f := f) (n := n)
  refine ztop_of 48 (fun j h _ => ?_)
  unfold zder vp_updL
  rw [if_neg (by omega), zderF_keep _ _ _ j (by omega)]
/-! sums of the antiderivative's coefficients -/
def ztI (f : Nat → Int64) (i : Nat) : Int := (ztm f (i + 1)).toInt
def zsI (f : Nat → Int64) (i : Nat) : Int := if (i + 1) % 2 = 0 then ztI f i else -ztI f i
theorem zsgn_int {f : Nat → Int64} (hf : ∀ j, zb (f j) 400000) : ∀ m, m ≤ 26 → (zsgn f m).toInt = zis (zsI f) m ∧ -(1200002 * (m : Int)) ≤ (zsgn f m).toInt ∧ (zsgn f m).toInt ≤ 1200002 * m := by
  intro m
  induction m with
  | zero => intro _; exact ⟨rfl, by show _ ≤ (0 : Int); omega, by show (0 : Int) ≤ _; omega⟩
  | succ m ih =>
    intro hm
    obtain ⟨h1, h2, h3⟩ := ih (by omega)
    have ht := zb_i (ztm_int hf (k := m + 1) (by omega) hm).2
    have hs : (if (m + 1) % 2 = 0 then ztm f (m + 1) else -ztm f (m + 1)).toInt = zsI f m := by
      unfold zsI ztI
      split
      · rfl
      · rw [zt_neg (by omega)]
    have hsb : -1200002 ≤ zsI f m ∧ zsI f m ≤ 1200002 := by
      unfold zsI ztI
      split <;> omega
    unfold zsgn
    have e : (zsgn f m + (if (m + 1) % 2 = 0 then ztm f (m + 1) else -ztm f (m + 1))).toInt = (zsgn f m).toInt + zsI f m := by
      rw [zt_add (by rw [hs]; omega), hs]
    rw [e]
    refine ⟨by rw [h1]; rfl, by omega, by omega⟩
theorem zant_good {f : Nat → Int64} {n : Nat} (hf : ∀ j, zb (f j) 400000) (hn : n ≤ 11) (hz : ∀ j, n < j → f j = 0) : zgood (zant f n) ∧ (zant f n 0).toInt = -zis (zsI f) (n + 1) := by
  have hs := zsgn_int hf (n + 1) (by omega)
  have e0 : (zant f n 0).toInt = -zis (zsI f) (n + 1) := by
    unfold zant
    rw [if_pos rfl, zt_neg (by omega), hs.1]
  refine ⟨fun j => ?_, e0⟩
  by_cases e : j = 0
  · subst e
    exact zb_o (by rw [e0, ← hs.1]; omega) (by rw [e0, ← hs.1]; omega)
  · rcases Nat.lt_or_ge 26 j with g | g
    · rw [zant_hi (by omega)]; exact Nat.zero_le _
    · exact zb_le (zant_rel hf hn hz (by omega) g).2 (by decide)
theorem zis_shift (f : Nat → Int) : ∀ m, zis f (m + 1) = f 0 + zis (fun i => f (i + 1)) m := by
  intro m
  induction m with
  | zero => show 0 + f 0 = f 0 + 0; omega
  | succ m ih =>
    show zis f (m + 1) + f (m + 1) = f 0 + (zis (fun i => f (i + 1)) m + f (m + 1))
    rw [ih]
    omega
