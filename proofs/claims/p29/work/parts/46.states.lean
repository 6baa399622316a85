/-! the law's state: what the class holds, told by functions -/
theorem zkC {Pp : Option Value → (Nat → va_E) → Heap → List Loc → Prop} {D : va_G} {cL cR : ClassId} {A : Nat → Prop} {F : Nat → Nat} {H0 H9 H8 : Heap} {B : Nat → Prop} {r : Int64} {P' : Nat → Nat → Int64} {n' : Nat → Nat} {pv' : Nat → Int64}
    (k : ∀ (T' : Nat → Nat → Int64) (top' : Nat → Nat) (Z' : zZC) (H1 : Heap) (locs1 : List Loc), va_P D vwCl (zq_wd F 30 (zCE cL cR F T' top' Z')) H1 → (∀ i, i < 8 → T' i = P' i ∧ top' i = n' i) → (∀ j, j < 17 → Z'.1 j = pv' j) → va_S A H0 H1 locs1 → Pp (some (.long r)) (zCE cL cR F T' top' Z') H1 locs1) :
    ∀ (v : Option Value) (E' : Nat → va_E) (H1 : Heap) (locs1 : List Loc), zPC cL cR F r P' n' pv' v E' → va_P D vwCl (zq_wd F 30 E') H1 → (∀ q : Nat, q < H9.size → ¬ B q → H1[q]? = H8[q]?) → va_S A H0 H1 locs1 → Pp v E' H1 locs1 := by
  intro v E' H1 locs1 hPQ hP _ hS
  obtain ⟨T', top', Z', rfl, rfl, h1, h2⟩ := hPQ
  exact k T' top' Z' H1 locs1 hP h1 h2 hS
/-- what a method of the law leaves: true, and a state of which R speaks -/
def zLo (cL cR : ClassId) (F : Nat → Nat) (R : (Nat → Nat → Int64) → (Nat → Nat) → Prop) : Option Value → (Nat → va_E) → Prop := fun v E' => ∃ (T' : Nat → Nat → Int64) (top' : Nat → Nat) (Z' : zZC) (P' : Nat → Nat → Int64) (n' : Nat → Nat), v = some (.int 1) ∧ E' = zCE cL cR F T' top' Z' ∧ (∀ i, i < 8 → T' i = P' i ∧ top' i = n' i) ∧ zInv P' n' ∧ R P' n'
theorem zkLo {Pp : Option Value → (Nat → va_E) → Heap → List Loc → Prop} {D : va_G} {cL cR : ClassId} {A : Nat → Prop} {F : Nat → Nat} {H0 H9 H8 : Heap} {B : Nat → Prop} {R : (Nat → Nat → Int64) → (Nat → Nat) → Prop}
    (k : ∀ (T' : Nat → Nat → Int64) (top' : Nat → Nat) (Z' : zZC) (P' : Nat → Nat → Int64) (n' : Nat → Nat) (H1 : Heap) (locs1 : List Loc), va_P D vwCl (zq_wd F 30 (zCE cL cR F T' top' Z')) H1 → (∀ i, i < 8 → T' i = P' i ∧ top' i = n' i) → zInv P' n' → R P' n' → va_S A H0 H1 locs1 → Pp (some (.int 1)) (zCE cL cR F T' top' Z') H1 locs1) :
    ∀ (v : Option Value) (E' : Nat → va_E) (H1 : Heap) (locs1 : List Loc), zLo cL cR F R v E' → va_P D vwCl (zq_wd F 30 E') H1 → (∀ q : Nat, q < H9.size → ¬ B q → H1[q]? = H8[q]?) → va_S A H0 H1 locs1 → Pp v E' H1 locs1 := by
  intro v E' H1 locs1 hPQ hP _ hS
  obtain ⟨T', top', Z', P', n', rfl, rfl, h1, h2, h3⟩ := hPQ
  exact k T' top' Z' P' n' H1 locs1 hP h1 h2 h3 hS
theorem zh24 {P : Nat → Nat → Int64} {n : Nat → Nat} (h : zInv P n) : ∀ i, i < 8 → n i ≤ 24 := fun i hi => (h i hi).1
/-- a new state: the series t is told anew, the others stand -/
def zEx (T : Nat → Nat → Int64) (top : Nat → Nat) (P : Nat → Nat → Int64) (n : Nat → Nat) (t : Nat) (g : Nat → Int64) (d : Nat) : Prop := ∃ (P' : Nat → Nat → Int64) (n' : Nat → Nat), (∀ i, i < 8 → T i = P' i ∧ top i = n' i) ∧ zInv P' n' ∧ (P' t = g ∧ n' t = d) ∧ ∀ (i : Nat) (f : Nat → Int64) (e : Nat), i ≠ t → P i = f ∧ n i = e → P' i = f ∧ n' i = e
section ZO
variable {T P : Nat → Nat → Int64} {top n : Nat → Nat} {t a b d e m : Nat} {f g : Nat → Int64}
theorem zo_up (hI : zInv (va_up P t g) (va_up n t d)) (h : ∀ i, i < 8 → T i = va_up P t g i ∧ top i = va_up n t d i) : zEx T top P n t g d :=
  ⟨va_up P t g, va_up n t d, h, hI, ⟨va_up_eq _ _ _, va_up_eq _ _ _⟩, fun i f e h1 h2 => by rw [zup8 _ _ h1, zup8 _ _ h1]; exact h2⟩
theorem zo_k (hI : zInv (zkP P t g) (zkN n t g)) (he : zke g = 0) (hd : ztop g 48 = d) (h : ∀ i, i < 8 → T i = zkP P t g i ∧ top i = zkN n t g i) : zEx T top P n t g d := by
  have e1 : zkP P t g = va_up P t g := by unfold zkP; rw [if_pos he]
  have e2 : zkN n t g = va_up n t d := by unfold zkN; rw [if_pos he, hd]
  rw [e1, e2] at hI h
  exact zo_up hI h
theorem zkr_ok (he : zke g = 0) (hd : ztop g 48 = d) : zkr g = lN d := by unfold zkr; rw [if_pos he, hd]
theorem zo_basis {k : Nat} (hI : zInv P n) (hk : k ≤ 24) (h : ∀ i, i < 8 → T i = va_up P t (vp_updL (fun _ => 0) k 1048576) i ∧ top i = va_up n t (ztop (vp_updL (fun _ => 0) k 1048576) 48) i) : zEx T top P n t (ztb k) k := by
  rw [zbas_top hk] at h
  exact zo_up (zI_basis hI hk) h
theorem zo_set {k : Nat} {x : Int64} (hI : zInv P n) (ha : a ≤ 7) (hk : k ≤ 24) (hx : zb x 268435456) (hs : P a = f ∧ n a = e) (hd : ztop (vp_updL f k x) 48 = d) (h : ∀ i, i < 8 → T i = va_up P a (vp_updL (P a) k x) i ∧ top i = va_up n a (ztop (vp_updL (P a) k x) 48) i) : zEx T top P n a (vp_updL f k x) d := by
  obtain ⟨rfl, rfl⟩ := hs
  subst hd
  exact zo_up (zI_set hI ha hk hx).2 h
theorem zo_copy (hI : zInv P n) (ha : a ≤ 7) (hs : P a = f ∧ n a = d) (h : ∀ i, i < 8 → T i = va_up P t (P a) i ∧ top i = va_up n t (n a) i) : zEx T top P n t f d := by
  obtain ⟨rfl, rfl⟩ := hs
  exact zo_up (zI_copy hI ha) h
theorem zo_cut {tol : Int64} (hI : zInv P n) (ha : a ≤ 7) (ht : 0 ≤ tol) (hs : P a = f ∧ n a = d) (h : ∀ i, i < 8 → T i = va_up P a (zcut (P a) (ztw (P a) tol (n a) 0)) i ∧ top i = va_up n a (ztop (zcut (P a) (ztw (P a) tol (n a) 0)) 48) i) : zEx T top P n a (zcut f (ztw f tol d 0)) (ztw f tol d 0) := by
  obtain ⟨rfl, rfl⟩ := hs
  obtain ⟨h1, h2⟩ := zI_cut hI ha ht
  rw [h1] at h
  exact zo_up h2 h
theorem zo_add {fa fb : Int64} (hI : zInv P n) (ha : a ≤ 7) (hb : b ≤ 7) (hfa : zb fa 1000) (hfb : zb fb 1000) (hsa : P a = f) (hsb : P b = g) (he : zke (zsum fa fb f g) = 0) (hd : ztop (zsum fa fb f g) 48 = d) (h : ∀ i, i < 8 → T i = zkP P t (zsum fa fb (P a) (P b)) i ∧ top i = zkN n t (zsum fa fb (P a) (P b)) i) : zEx T top P n t (zsum fa fb f g) d := by
  subst hsa
  subst hsb
  exact zo_k (zI_add hI t ha hb hfa hfb) he hd h
theorem zo_mul (hI : zInv P n) (ha : a ≤ 7) (hb : b ≤ 7) (hsa : P a = f ∧ n a = e) (hsb : P b = g ∧ n b = m) (he : zke (zprod f e g m) = 0) (hd : ztop (zprod f e g m) 48 = d) (h : ∀ i, i < 8 → T i = zkP P t (zprod (P a) (n a) (P b) (n b)) i ∧ top i = zkN n t (zprod (P a) (n a) (P b) (n b)) i) : zEx T top P n t (zprod f e g m) d := by
  obtain ⟨rfl, rfl⟩ := hsa
  obtain ⟨rfl, rfl⟩ := hsb
  exact zo_k (zI_mul hI t ha hb) he hd h
theorem zo_der (hI : zInv P n) (ha : a ≤ 7) (hs : P a = f ∧ n a = e) (he : zke (zder f e) = 0) (hd : ztop (zder f e) 48 = d) (h : ∀ i, i < 8 → T i = zkP P t (zder (P a) (n a)) i ∧ top i = zkN n t (zder (P a) (n a)) i) : zEx T top P n t (zder f e) d := by
  obtain ⟨rfl, rfl⟩ := hs
  exact zo_k (zI_der hI t ha) he hd h
theorem zo_ant (hI : zInv P n) (ha : a ≤ 7) (hs : P a = f ∧ n a = e) (he : zke (zant f e) = 0) (hd : ztop (zant f e) 48 = d) (h : ∀ i, i < 8 → T i = zkP P t (zant (P a) (n a)) i ∧ top i = zkN n t (zant (P a) (n a)) i) : zEx T top P n t (zant f e) d := by
  obtain ⟨rfl, rfl⟩ := hs
  exact zo_k (zI_ant hI t ha) he hd h
theorem zo_quo {r : Int64} (hI : zInv P n) (ha : a ≤ 7) (hr : zb r 1048576) (hs : P a = f ∧ n a = e) (he : zke (zquo f e r) = 0) (hd : ztop (zquo f e r) 48 = d) (h : ∀ i, i < 8 → T i = zkP P t (zquo (P a) (n a) r) i ∧ top i = zkN n t (zquo (P a) (n a) r) i) : zEx T top P n t (zquo f e r) d := by
  obtain ⟨rfl, rfl⟩ := hs
  exact zo_k (zI_quo hI t ha hr) he hd h
theorem zo_int {q : Nat} {pv : Nat → Int64} (hI : zInv P n) (hq : q ≤ 4) (he : zke (zint pv q) = 0) (hd : ztop (zint pv q) 48 = d) (h : ∀ i, i < 8 → T i = zkP P t (zint pv q) i ∧ top i = zkN n t (zint pv q) i) : zEx T top P n t (zint pv q) d := zo_k (zI_int hI t hq pv) he hd h
theorem zo_comp {w : Nat → Int64} (hI : zInv P n) (ha : a ≤ 7) (hb : b ≤ 7) (hsa : P a = f ∧ n a = e) (hsb : P b = g ∧ n b = m) (hc : zcomp f g m e (fun _ => 0) 0 (fun _ => 0) = (0, w)) (he : zke w = 0) (hd : ztop w 48 = d) (h : ∀ i, i < 8 → T i = (if (zcomp (P a) (P b) (n b) (n a) (fun _ => 0) 0 (fun _ => 0)).1 = 0 then zkP P t (zcomp (P a) (P b) (n b) (n a) (fun _ => 0) 0 (fun _ => 0)).2 else P) i ∧ top i = (if (zcomp (P a) (P b) (n b) (n a) (fun _ => 0) 0 (fun _ => 0)).1 = 0 then zkN n t (zcomp (P a) (P b) (n b) (n a) (fun _ => 0) 0 (fun _ => 0)).2 else n) i) : zEx T top P n t w d := by
  obtain ⟨rfl, rfl⟩ := hsa
  obtain ⟨rfl, rfl⟩ := hsb
  have hI2 := zI_comp hI t ha hb
  rw [hc] at h hI2
  have h0 : ((0 : Int64), w).1 = 0 := rfl
  rw [if_pos h0, if_pos h0] at hI2
  rw [if_pos h0, if_pos h0] at h
  exact zo_k hI2 he hd h
/-- the quotient's answer where it is kept -/
theorem zqr_ok {r : Int64} (hs : P a = f ∧ n a = e) (he : zke (zquo f e r) = 0) (hd : ztop (zquo f e r) 48 = d) (hd2 : d ≤ 24) : (if zkr (zquo (P a) (n a) r) < 0 then zkr (zquo (P a) (n a) r) else zval (P a) (n a) r) = zval f e r := by
  obtain ⟨rfl, rfl⟩ := hs
  rw [zkr_ok he hd, if_neg]
  rw [show (0 : Int64) = lN 0 from rfl, lN_lt (by omega) (by omega)]
  omega
end ZO
/-! whole numbers of the machine -/
theorem zrem_n {a d : Nat} (ha : a < 2147483648) (h0 : 0 < d) (hd : d < 2147483648) : nI a - nI a / nI d * nI d = nI (a % d) := pk_rem ha h0 hd
theorem zshr_n {a : Nat} (ha : a < 2147483648) {q : Nat} (hq : q < 32) : nI a >>> (nI q &&& 31) = nI (a / 2 ^ q) := by
  have h : q = 0 ∨ q = 1 ∨ q = 2 ∨ q = 3 ∨ q = 4 ∨ q = 5 ∨ q = 6 ∨ q = 7 ∨ q = 8 ∨ q = 9 ∨ q = 10 ∨ q = 11 ∨ q = 12 ∨ q = 13 ∨ q = 14 ∨ q = 15 ∨ q = 16 ∨ q = 17 ∨ q = 18 ∨ q = 19 ∨ q = 20 ∨ q = 21 ∨ q = 22 ∨ q = 23 ∨ q = 24 ∨ q = 25 ∨ q = 26 ∨ q = 27 ∨ q = 28 ∨ q = 29 ∨ q = 30 ∨ q = 31 := by omega
  rcases h with rfl | rfl | rfl | rfl | rfl | rfl | rfl | rfl | rfl | rfl | rfl | rfl | rfl | rfl | rfl | rfl | rfl | rfl | rfl | rfl | rfl | rfl | rfl | rfl | rfl | rfl | rfl | rfl | rfl | rfl | rfl | rfl <;> exact pk_shrN ha _ _ (by decide)
theorem zmask31 (x : Int32) : ∃ j : Nat, j < 2147483648 ∧ x &&& (2147483647 : Int32) = nI j := pk_andE x 31 (by decide)
theorem zsub_i {a b : Nat} (ha : a < 1073741824) (hb : b < 1073741824) : (nI a - nI b).toInt = (a : Int) - b := pk_sub_toInt ha hb
theorem zi64 (x : Int32) : x.toInt64.toInt = x.toInt := Int32.toInt_toInt64 x
/-! samples -/
theorem zsok_ok {f : Nat → Int64} {d p : Nat} (h : ∀ j, zabs (zsv f d p j) ≤ 134217728) : ∀ m, zsok f d p m = true := by
  intro m
  induction m with
  | zero => rfl
  | succ m ih =>
    unfold zsok
    rw [ih, Bool.true_and, decide_eq_true_eq]
    exact h m
theorem zsv_ok {f : Nat → Int64} {d p : Nat} (hf : ∀ j, zb (f j) 300000) (hd : d ≤ 24) (hz : ∀ j, d < j → f j = 0) (j : Nat) : zabs (zsv f d p j) ≤ 134217728 := by
  have h := (zval_bb (x := (zcosv (j * 2 ^ (4 - p))).toInt64) hf hd hz (zcosb _)).2.2
  have h2 := zb_i h
  unfold zsv
  rw [Int64.le_iff_toInt_le, zt_abs (by omega), show (134217728 : Int64).toInt = 134217728 from rfl]
  omega
theorem zmis_0 {f pv : Nat → Int64} {d p : Nat} : ∀ m, (∀ j, j < m → pv j = zsv f d p j) → zmis f d p pv m = 0 := by
  intro m
  induction m with
  | zero => intro _; rfl
  | succ m ih =>
    intro h
    unfold zmis
    rw [ih (fun j hj => h j (by omega)), h m (by omega), Int64.sub_self]
    decide
theorem zint_fin {f pv : Nat → Int64} {d p : Nat} (hf : ∀ j, zb (f j) 300000) (hz : ∀ j, d < j → f j = 0) (hp : p ≤ 4) (hd : d ≤ 2 ^ p) (hpv : ∀ j, j < 2 ^ p + 1 → pv j = zsv f d p j) : zke (zint pv p) = 0 ∧ ∃ q, ztop (zint pv p) 48 = q ∧ q ≤ 24 := by
  have h5 := zp5 hp
  have hh : ∀ j, 2 ^ p < j → zint pv p j = 0 := fun j hj => by unfold zint; rw [if_neg (by omega)]
  have hg : zgood (zint pv p) := fun j => by
    rcases Nat.lt_or_ge (2 ^ p) j with g | g
    · rw [hh j g]; exact Nat.zero_le _
    · have h := zint_near hf hz hp hd hpv g
      have hb := zb_i (hf j)
      exact zb_o (by omega) (by omega)
  have ht : ztop (zint pv p) 48 ≤ 2 ^ p := ztop_of 48 (fun j hj _ => hh j hj)
  exact ⟨zke_good hg (by omega), _, rfl, by omega⟩
theorem zep_neg : ∀ p, p < 5 → ∀ j, j < 2 ^ p + 1 → (zcosv (j * 2 ^ (4 - p))).toInt64 = -(zcosv ((2 ^ p - j) * 2 ^ (4 - p))).toInt64 := by decide +kernel
theorem zep_lt : ∀ p, p < 5 → ∀ j, j < 2 ^ p → (zcosv ((j + 1) * 2 ^ (4 - p))).toInt64 < (zcosv (j * 2 ^ (4 - p))).toInt64 := by decide +kernel
theorem zep_0 : ∀ p, p < 5 → (zcosv (0 * 2 ^ (4 - p))).toInt64 = 1048576 := by decide +kernel
/-! products of basis functions, as the law asks -/
theorem zbb_hi {j k off : Nat} (h : off = j - k + (k - j)) : zprod (ztb j) j (ztb k) k (j + k) = if off = j + k then 1048576 else 524288 := by
  rw [zprod_bb, ← h]
  by_cases e : off = j + k
  · rw [if_pos ⟨rfl, e⟩, if_pos e]
  · rw [if_neg (fun h => e h.2), if_pos (Or.inl rfl), if_neg e]
theorem zbb_lo {j k off : Nat} (h : off = j - k + (k - j)) : zprod (ztb j) j (ztb k) k off = if off = j + k then 1048576 else 524288 := by
  rw [zprod_bb, ← h]
  by_cases e : off = j + k
  · rw [if_pos ⟨e.symm, rfl⟩, if_pos e]
  · rw [if_neg (fun h => e h.1.symm), if_pos (Or.inr rfl), if_neg e]
theorem zinn_all {j k : Nat} (hj : j ≤ 24) : zR (zinn (ztb j) (ztb k) 24) 1048576 = if j = k then (if j = 0 then 2097152 else 1048576) else 0 := by
  by_cases e : j = k
  · subst e
    rw [if_pos rfl, zinn_eq j (by omega)]
  · rw [if_neg e, zinn_ne e]
    decide
