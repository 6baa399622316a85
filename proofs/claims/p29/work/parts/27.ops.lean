/-! the operations give series that are in order -/
theorem zb_neg {x : Int64} {A : Nat} (hx : zb x A) (h : A < 9223372036854775808) : zb (-x) A := by
  unfold zb at *
  have e2 : (-x).toInt = -x.toInt := by
    rw [Int64.toInt_neg]
    apply Int.bmod_eq_of_le <;> omega
  rw [e2]
  omega
theorem zb_R2 {v d : Int64} {B : Nat} (hv : zb v B) (h : 2 ≤ d.toInt) (hB : B + 2 < 9223372036854775808) : zb (zR v d) (B + 2) := by
  have h1 : zb (v / d) B := by
    unfold zb at *
    have g1 := v.le_toInt
    have g2 := v.toInt_lt
    have e : (v / d).toInt = v.toInt.tdiv d.toInt := by
      rw [Int64.toInt_div]
      have h1 : (v.toInt.tdiv d.toInt).natAbs = v.toInt.natAbs / d.toInt.natAbs := Int.natAbs_tdiv _ _
      have h2 : v.toInt.natAbs / d.toInt.natAbs ≤ v.toInt.natAbs := Nat.div_le_self _ _
      apply Int.bmod_eq_of_le <;> omega
    have e3 : (v.toInt.tdiv d.toInt).natAbs = v.toInt.natAbs / d.toInt.natAbs := Int.natAbs_tdiv _ _
    rw [e, e3]
    exact Nat.le_trans (Nat.div_le_self _ _) hv
  have h0 : zb 1 1 := by unfold zb; decide
  have hf : zb (zfl v d) (B + 1) := by
    unfold zfl
    split
    · exact (zb_sub h1 h0 (by omega)).1
    · exact zb_le h1 (by omega)
  unfold zR
  split
  · exact zb_le hf (by omega)
  · exact (zb_add hf h0 (by omega)).1
theorem zb_I {x : Int32} {A : Nat} (h : -(A : Int) ≤ x.toInt ∧ x.toInt ≤ (A : Int)) : zb x.toInt64 A := by
  unfold zb
  rw [Int32.toInt_toInt64]
  omega
theorem zb_lN {n A : Nat} (h : n ≤ A) (hA : A < 2147483648) : zb (lN n) A := by
  unfold zb
  rw [lN_toInt (by omega)]
  omega
theorem zb_sum {fa fb : Int64} {a b : Nat → Int64} (h1 : zb fa 1000) (h2 : zb fb 1000) (ha : zgood a) (hb : zgood b) : ∀ j, zb (zsum fa fb a b j) 9223372036854775807 := by
  intro j
  unfold zsum
  exact zb_le (zb_add (zb_mul h1 (ha j) (by decide)).1 (zb_mul h2 (hb j) (by decide)).1 (by decide)).1 (by decide)
theorem zb_prod (a : Nat → Int64) (na : Nat) (b : Nat → Int64) (nb : Nat) : ∀ j, zb (zprod a na b nb j) 9223372036854775807 := by
  intro j
  unfold zprod
  exact zb_le (zb_R (by decide)) (by decide)
theorem zb_derF {c : Nat → Int64} (hc : zgood c) : ∀ (k : Nat) (f : Nat → Int64) (B : Nat), k ≤ 24 → B + k * 12884901888 ≤ 9223372036854775807 → (∀ j, zb (f j) B) → ∀ j, zb (zderF c k f j) (B + k * 12884901888) := by
  intro k
  induction k with
  | zero => intro f B _ _ hf j; exact zb_le (hf j) (by omega)
  | succ k ih =>
    intro f B hk hB hf j
    unfold zderF
    have h1 : zb (2 * lN (k + 1)) 48 := (zb_mul (A := 2) (B := 24) (by unfold zb; decide) (zb_lN (by omega) (by decide)) (by decide)).1
    have h2 : zb (2 * lN (k + 1) * c (k + 1)) 12884901888 := (zb_mul h1 (hc (k + 1)) (by decide)).1
    have h3 : zb (f (k + 2) + 2 * lN (k + 1) * c (k + 1)) (B + 12884901888) := (zb_add (hf (k + 2)) h2 (by omega)).1
    exact zb_le (ih _ (B + 12884901888) (by omega) (by omega) (zb_up (fun j => zb_le (hf j) (by omega)) h3) j) (by omega)
theorem zb_quoF {c : Nat → Int64} {r : Int64} (hc : zgood c) (hr : zb r 1048576) : ∀ (k : Nat) (f : Nat → Int64), k ≤ 24 → (∀ j, k ≤ j → zb (f j) 268435456) → (∀ j, 1 ≤ j → j < 49 → zabs (zquoF c r k f j) ≤ 268435456) → ∀ j, 1 ≤ j → zb (zquoF c r k f j) 268435456 := by
  have keep : ∀ (k : Nat) (f : Nat → Int64) (j : Nat), k ≤ j → zquoF c r k f j = f j := by
    intro k
    induction k with
    | zero => intro f j _; rfl
    | succ k ih =>
      intro f j hj
      cases k with
      | zero => rfl
      | succ k =>
        unfold zquoF
        rw [ih _ j (by omega)]
        unfold vp_updL
        rw [if_neg (by omega)]
  intro k
  induction k with
  | zero => intro f _ hf _ j _; exact hf j (by omega)
  | succ k ih =>
    intro f hk hf hz j hj
    cases k with
    | zero => exact hf j hj
    | succ k =>
      have hX : zb (2 * c (k + 2) + zR (2 * r * f (k + 2)) 1048576 - f (k + 3)) 562952100839426 := by
        have h1 : zb (2 * c (k + 2)) 536870912 := (zb_mul (A := 2) (by unfold zb; decide) (hc _) (by decide)).1
        have h2 : zb (2 * r * f (k + 2)) 562949953421312 := (zb_mul (zb_mul (A := 2) (by unfold zb; decide) hr (by decide)).1 (hf (k + 2) (by omega)) (by decide)).1
        have h3 := zb_R2 (d := 1048576) h2 (by decide) (by decide)
        exact zb_le (zb_sub (zb_add h1 h3 (by decide)).1 (hf (k + 3) (by omega)) (by decide)).1 (by decide)
      have hz2 := hz
      unfold zquoF at hz2 ⊢
      refine ih _ (by omega) (fun j hj => ?_) hz2 j hj
      by_cases e : j = k + 1
      · have h9 := hz2 (k + 1) (by omega) (by omega)
        rw [keep _ _ _ (Nat.le_refl _)] at h9
        rw [e]
        exact zb_abs h9 (by unfold vp_updL; rw [if_pos rfl]; exact hX) (by decide)
      · unfold vp_updL
        rw [if_neg e]
        exact hf j (by omega)
theorem ztw_nz {c : Nat → Int64} {tol : Int64} : ∀ (n : Nat) (s : Int64), s ≤ tol → ztw c tol n s = 0 ∨ ¬ c (ztw c tol n s) = 0 := by
  intro n
  induction n with
  | zero => intro s _; exact Or.inl rfl
  | succ n ih =>
    intro s hs
    unfold ztw
    split
    · rename_i h
      exact ih _ h
    · rename_i h
      refine Or.inr (fun h0 => h ?_)
      rw [h0, show zabs 0 = 0 from by decide, Int64.add_zero]
      exact hs
theorem zcut_top {c : Nat → Int64} {d : Nat} (hd : d ≤ 24) (h : d = 0 ∨ ¬ c d = 0) : ztop (zcut c d) 48 = d := by
  rw [ztop_cut (f := zcut c d) (d := d) 48 (by omega) (fun j hj => by unfold zcut; rw [if_neg (by omega)])]
  rcases h with h | h
  · rw [h]; rfl
  · exact ztop_ne (f := zcut c d) (d := d) (by unfold zcut; rw [if_pos (Nat.le_refl _)]; exact h)
theorem zcut_good {c : Nat → Int64} {d : Nat} (h : zgood c) : zgood (zcut c d) := by
  intro j
  unfold zcut
  split
  · exact h j
  · exact Nat.zero_le _
theorem zbas_top {k : Nat} (hk : k ≤ 24) : ztop (vp_updL (fun _ => 0) k 1048576) 48 = k := by
  rw [ztop_cut (f := vp_updL (fun _ => 0) k 1048576) (d := k) 48 (show k ≤ 48 by omega) (fun j hj => by unfold vp_updL; rw [if_neg (by omega)])]
  exact ztop_ne (f := vp_updL (fun _ => 0) k 1048576) (d := k) (by unfold vp_updL; rw [if_pos rfl]; decide)

/-! each operation keeps the invariant -/
theorem zI_good {P : Nat → Nat → Int64} {n : Nat → Nat} (h : zInv P n) {a : Nat} (ha : a ≤ 7) : n a ≤ 24 ∧ (∀ j, n a < j → P a j = 0) ∧ zgood (P a) ∧ (n a = 0 ∨ ¬ P a (n a) = 0) := h a (by omega)
theorem zI_set {P : Nat → Nat → Int64} {n : Nat → Nat} (h : zInv P n) {a k : Nat} (ha : a ≤ 7) (hk : k ≤ 24) {x : Int64} (hx : zb x 268435456) : zke (vp_updL (P a) k x) = 0 ∧ zInv (va_up P a (vp_updL (P a) k x)) (va_up n a (ztop (vp_updL (P a) k x) 48)) := by
  obtain ⟨h1, h2, h3, h4⟩ := zI_good h ha
  have hz : ∀ j, 24 < j → vp_updL (P a) k x j = 0 := fun j hj => by unfold vp_updL; rw [if_neg (by omega)]; exact h2 j (by omega)
  have hg : zgood (vp_updL (P a) k x) := zb_up h3 hx
  have ht : ztop (vp_updL (P a) k x) 48 ≤ 24 := ztop_of 48 (fun j h _ => hz j h)
  exact ⟨zke_good hg ht, zInv_up h ht (zabove (fun j hj => hz j (by omega))) hg (ztop_nz _ 48)⟩
theorem zI_copy {P : Nat → Nat → Int64} {n : Nat → Nat} (h : zInv P n) {a t : Nat} (ha : a ≤ 7) : zInv (va_up P t (P a)) (va_up n t (n a)) := by
  obtain ⟨h1, h2, h3, h4⟩ := zI_good h ha
  exact zInv_up h h1 h2 h3 h4
theorem zI_cut {P : Nat → Nat → Int64} {n : Nat → Nat} (h : zInv P n) {a : Nat} (ha : a ≤ 7) {tol : Int64} (htol : 0 ≤ tol) : ztop (zcut (P a) (ztw (P a) tol (n a) 0)) 48 = ztw (P a) tol (n a) 0 ∧ zInv (va_up P a (zcut (P a) (ztw (P a) tol (n a) 0))) (va_up n a (ztw (P a) tol (n a) 0)) := by
  obtain ⟨h1, h2, h3, h4⟩ := zI_good h ha
  have hw := ztw_le (P a) tol (n a) 0
  have hnz := ztw_nz (c := P a) (n a) 0 htol
  refine ⟨zcut_top (by omega) hnz, zInv_up h (by omega) (fun j hj => by unfold zcut; rw [if_neg (by omega)]) (zcut_good h3) ?_⟩
  rcases hnz with h5 | h5
  · exact Or.inl h5
  · refine Or.inr ?_
    unfold zcut
    rw [if_pos (Nat.le_refl _)]
    exact h5
theorem zI_basis {P : Nat → Nat → Int64} {n : Nat → Nat} (h : zInv P n) {t k : Nat} (hk : k ≤ 24) : zInv (va_up P t (vp_updL (fun _ => 0) k 1048576)) (va_up n t k) := by
  refine zInv_up h hk (fun j hj => by unfold vp_updL; rw [if_neg (by omega)]) (zb_up (fun _ => Nat.zero_le _) (by unfold zb; decide)) (Or.inr ?_)
  unfold vp_updL
  rw [if_pos rfl]
  decide
theorem zI_add {P : Nat → Nat → Int64} {n : Nat → Nat} (h : zInv P n) {a b : Nat} (t : Nat) (ha : a ≤ 7) (hb : b ≤ 7) {fa fb : Int64} (hfa : zb fa 1000) (hfb : zb fb 1000) : zInv (zkP P t (zsum fa fb (P a) (P b))) (zkN n t (zsum fa fb (P a) (P b))) := by
  obtain ⟨h1, h2, h3, _⟩ := zI_good h ha
  obtain ⟨g1, g2, g3, _⟩ := zI_good h hb
  exact zInv_k h t (fun j hj => zsum_0 h2 g2 h1 g1 j (by omega)) (fun _ j _ => zb_sum hfa hfb h3 g3 j)
theorem zI_mul {P : Nat → Nat → Int64} {n : Nat → Nat} (h : zInv P n) {a b : Nat} (t : Nat) (ha : a ≤ 7) (hb : b ≤ 7) : zInv (zkP P t (zprod (P a) (n a) (P b) (n b))) (zkN n t (zprod (P a) (n a) (P b) (n b))) := by
  obtain ⟨h1, h2, h3, _⟩ := zI_good h ha
  obtain ⟨g1, g2, g3, _⟩ := zI_good h hb
  exact zInv_k h t (fun j hj => zprod_0 (by omega)) (fun _ j _ => zb_prod _ _ _ _ j)
theorem zI_der {P : Nat → Nat → Int64} {n : Nat → Nat} (h : zInv P n) {a : Nat} (t : Nat) (ha : a ≤ 7) : zInv (zkP P t (zder (P a) (n a))) (zkN n t (zder (P a) (n a))) := by
  obtain ⟨h1, h2, h3, _⟩ := zI_good h ha
  have hf := zb_derF h3 (n a) (fun _ => 0) 0 h1 (by omega) (fun _ => Nat.zero_le _)
  refine zInv_k h t (fun j hj => zder_0 _ _ j (by omega)) (fun _ j _ => ?_)
  unfold zder
  exact zb_up (fun j => zb_le (hf j) (by omega)) (zb_le (zb_R (by decide)) (by decide)) j
theorem zI_ant {P : Nat → Nat → Int64} {n : Nat → Nat} (h : zInv P n) {a : Nat} (t : Nat) (ha : a ≤ 7) : zInv (zkP P t (zant (P a) (n a))) (zkN n t (zant (P a) (n a))) := by
  obtain ⟨h1, h2, h3, _⟩ := zI_good h ha
  have ht : ∀ k, 1 ≤ k → k ≤ 26 → zb (ztm (P a) k) 805306370 := by
    intro k hk hk2
    unfold ztm
    refine zb_R2 (B := 805306368) ?_ ?_ (by decide)
    · refine (zb_sub (A := 536870912) (B := 268435456) ?_ (h3 _) (by decide)).1
      split
      · exact (zb_mul (A := 2) (by unfold zb; decide) (h3 0) (by decide)).1
      · exact zb_le (h3 _) (by decide)
    · rw [(zb_mul (A := 2) (B := 26) (by unfold zb; decide) (zb_lN hk2 (by decide)) (by decide)).2, lN_toInt (by omega), show (2 : Int64).toInt = 2 from rfl]
      omega
  have hs : ∀ d, d ≤ 26 → zb (zsgn (P a) d) (d * 805306370) := by
    intro d
    induction d with
    | zero => intro _; exact Nat.zero_le _
    | succ d ih =>
      intro hd
      unfold zsgn
      rw [Nat.succ_mul]
      refine (zb_add (ih (by omega)) ?_ (by omega)).1
      split
      · exact ht _ (by omega) hd
      · exact zb_neg (ht _ (by omega) hd) (by decide)
  refine zInv_k h t (fun j hj => zant_0 _ _ j (by omega)) (fun _ j _ => ?_)
  unfold zant
  split
  · exact zb_le (zb_neg (hs (n a + 1) (by omega)) (by omega)) (by omega)
  · split
    · exact zb_le (ht j (by omega) (by omega)) (by decide)
    · exact Nat.zero_le _
theorem zI_quo {P : Nat → Nat → Int64} {n : Nat → Nat} (h : zInv P n) {a : Nat} (t : Nat) (ha : a ≤ 7) {r : Int64} (hr : zb r 1048576) : zInv (zkP P t (zquo (P a) (n a) r)) (zkN n t (zquo (P a) (n a) r)) := by
  obtain ⟨h1, h2, h3, _⟩ := zI_good h ha
  refine zInv_k h t (fun j hj => zquo_0 _ _ _ j (by split <;> omega)) (fun hk j _ => ?_)
  have hA := zke_abs hk
  have hG := zb_quoF h3 hr (n a) (fun _ => 0) h1 (fun _ _ => Nat.zero_le _) (fun j hj hj2 => by
    have h9 := hA j hj2
    unfold zquo vp_updL at h9
    rw [if_neg (by omega)] at h9
    exact h9)
  unfold zquo vp_updL
  split
  · have h4 := zb_R2 (d := 1048576) (zb_mul hr (hG 1 (by omega)) (by decide)).1 (by decide) (by decide)
    have h5 := zb_R2 (d := 2) (hG 2 (by omega)) (by decide) (by decide)
    exact zb_le (zb_sub (zb_add (h3 1) h4 (by decide)).1 h5 (by decide)).1 (by decide)
  · exact zb_le (hG j (by omega)) (by decide)
theorem zI_int {P : Nat → Nat → Int64} {n : Nat → Nat} (h : zInv P n) (t : Nat) {q : Nat} (hq : q ≤ 4) (pv : Nat → Int64) : zInv (zkP P t (zint pv q)) (zkN n t (zint pv q)) := by
  have h2q := zp2 hq
  refine zInv_k h t (fun j hj => zint_0 _ _ j (by omega)) (fun _ j _ => ?_)
  unfold zint
  split
  · refine zb_le (zb_R ?_) (by decide)
    have h : q = 0 ∨ q = 1 ∨ q = 2 ∨ q = 3 ∨ q = 4 := by omega
    rcases h with rfl | rfl | rfl | rfl | rfl <;> decide
  · exact Nat.zero_le _
theorem zcomp_good {cf cg : Nat → Int64} {ng : Nat} (hf : zgood cf) (hng : ng ≤ 24) : ∀ (k : Nat) (b : Nat → Int64) (nb : Nat) (d : Nat → Int64), nb ≤ 24 → zgood b → zgood d → (∀ j, 24 < j → d j = 0) → (∀ j, 24 < j → b j = 0) → (zcomp cf cg ng k b nb d).1 = 0 → zgood (zcomp cf cg ng k b nb d).2 ∧ (∀ j, 48 < j → (zcomp cf cg ng k b nb d).2 j = 0) := by
  have step : ∀ (fa : Int64) (c : Int64) (b : Nat → Int64) (nb : Nat) (d : Nat → Int64), zb fa 2 → zb c 268435456 → nb ≤ 24 → zgood b → zgood d → (∀ j, 24 < j → d j = 0) → zste (zprod cg ng b nb) (zst (zprod cg ng b nb) d fa c) = 0 → zgood (zst (zprod cg ng b nb) d fa c) ∧ (∀ j, 48 < j → zst (zprod cg ng b nb) d fa c j = 0) ∧ zke (zst (zprod cg ng b nb) d fa c) = 0 := by
    intro fa c b nb d hfa hc hnb hb hd hdz he
    have hz : ∀ j, 48 < j → zst (zprod cg ng b nb) d fa c j = 0 := zst_0 hng hnb (Nat.le_refl 24) hdz
    unfold zste at he
    split at he
    · rename_i hp
      have hpg : zgood (zprod cg ng b nb) := zgood_k hp (fun j hj => zprod_0 (by omega)) (fun j _ => zb_prod _ _ _ _ j)
      refine ⟨zgood_k he hz (fun j _ => ?_), hz, he⟩
      have hs : ∀ j, zb (zsum fa (-1) (zprod cg ng b nb) d j) 805306368 := fun j => by
        unfold zsum
        exact (zb_add (zb_mul hfa (hpg j) (by decide)).1 (zb_mul (A := 1) (by unfold zb; decide) (hd j) (by decide)).1 (by decide)).1
      unfold zst
      exact zb_up (fun j => zb_le (hs j) (by decide)) (zb_le (zb_add (hs 0) hc (by decide)).1 (by decide)) j
    · rename_i hp
      exact absurd he hp
  intro k
  induction k with
  | zero =>
    intro b nb d hnb hb hd hdz hbz h1
    unfold zcomp at h1 ⊢
    dsimp only at h1 ⊢
    have h := step 1 (cf 0) b nb d (by unfold zb; decide) (hf 0) hnb hb hd hdz h1
    exact ⟨h.1, h.2.1⟩
  | succ k ih =>
    intro b nb d hnb hb hd hdz hbz h1
    unfold zcomp at h1 ⊢
    split at h1
    · rename_i he
      rw [if_pos he]
      obtain ⟨s1, s2, s3⟩ := step 2 (cf (k + 1)) b nb d (by unfold zb; decide) (hf (k + 1)) hnb hb hd hdz he
      have s4 := zke_24 s3
      exact ih _ _ _ s4 s1 hb hbz (fun j hj => zabove s2 j (by omega)) h1
    · rename_i he
      dsimp only at h1
      exact absurd h1 he
theorem zI_comp {P : Nat → Nat → Int64} {n : Nat → Nat} (h : zInv P n) {a b : Nat} (t : Nat) (ha : a ≤ 7) (hb : b ≤ 7) : zInv (if (zcomp (P a) (P b) (n b) (n a) (fun _ => 0) 0 (fun _ => 0)).1 = 0 then zkP P t (zcomp (P a) (P b) (n b) (n a) (fun _ => 0) 0 (fun _ => 0)).2 else P) (if (zcomp (P a) (P b) (n b) (n a) (fun _ => 0) 0 (fun _ => 0)).1 = 0 then zkN n t (zcomp (P a) (P b) (n b) (n a) (fun _ => 0) 0 (fun _ => 0)).2 else n) := by
  obtain ⟨h1, h2, h3, _⟩ := zI_good h ha
  obtain ⟨g1, g2, g3, _⟩ := zI_good h hb
  split
  · rename_i he
    obtain ⟨c1, c2⟩ := zcomp_good h3 g1 (n a) (fun _ => 0) 0 (fun _ => 0) (by omega) (fun _ => Nat.zero_le _) (fun _ => Nat.zero_le _) (fun _ _ => rfl) (fun _ _ => rfl) he
    exact zInv_k h t c2 (fun _ j _ => zb_le (c1 j) (by decide))
  · exact h
