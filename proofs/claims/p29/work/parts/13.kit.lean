/-! worlds as functions of the place -/
def zq_wd (F : Nat → Nat) (n : Nat) (E : Nat → va_E) : va_W := (List.range n).map (fun k => (F k, E k))
theorem zq_get {F : Nat → Nat} {n : Nat} {E : Nat → va_E} {k : Nat} (h : k < n) : (zq_wd F n E)[k]? = some (F k, E k) := by
  unfold zq_wd
  rw [List.getElem?_map, List.getElem?_range h]
  rfl
theorem zq_len {F : Nat → Nat} {n : Nat} {E : Nat → va_E} : (zq_wd F n E).length = n := by simp [zq_wd]
theorem zq_inv {F : Nat → Nat} {n : Nat} {E : Nat → va_E} {k : Nat} {q : Nat × va_E} (h : (zq_wd F n E)[k]? = some q) : k < n ∧ q = (F k, E k) := by
  have hk : k < n := by
    have := (List.getElem?_eq_some_iff.mp h).1
    rwa [zq_len] at this
  rw [zq_get hk] at h
  exact ⟨hk, (Option.some.inj h).symm⟩
theorem zq_set {F : Nat → Nat} {n : Nat} {E : Nat → va_E} {k : Nat} {e : va_E} : (zq_wd F n E).set k (F k, e) = zq_wd F n (va_up E k e) := by
  apply List.ext_getElem?
  intro i
  by_cases hi : i < n
  · by_cases hk : k = i
    · subst hk
      rw [List.getElem?_set_self (by rw [zq_len]; exact hi), zq_get hi]
      simp [va_up]
    · rw [List.getElem?_set_ne hk, zq_get hi, zq_get hi]
      simp [va_up, Ne.symm hk]
  · rw [List.getElem?_eq_none (by rw [List.length_set, zq_len]; omega), List.getElem?_eq_none (by rw [zq_len]; omega)]
/-- the addresses are apart, and of a kind -/
def zq_F (A : Nat → Prop) (F : Nat → Nat) (n : Nat) : Prop := (∀ i j, i < n → j < n → F i = F j → i = j) ∧ ∀ i, i < n → A (F i)
theorem zq_D {A : Nat → Prop} {F : Nat → Nat} {n : Nat} (h : zq_F A F n) (E : Nat → va_E) : va_D A (zq_wd F n E) := by
  refine ⟨fun i j p q hi hj hpq => ?_, fun k q hk => ?_⟩
  · obtain ⟨h1, rfl⟩ := zq_inv hi
    obtain ⟨h2, rfl⟩ := zq_inv hj
    exact h.1 i j h1 h2 hpq
  · obtain ⟨h1, rfl⟩ := zq_inv hk
    exact h.2 k h1
/-- a world's cells may be told otherwise where they are the same cells -/
theorem zq_ext {D : va_G} {cl : List vw_C} {F : Nat → Nat} {n : Nat} {E E' : Nat → va_E} {H : Heap} (h : va_P D cl (zq_wd F n E) H) (he : ∀ k, k < n → va_at D cl (F k, E k) H → va_at D cl (F k, E' k) H) : va_P D cl (zq_wd F n E') H := by
  intro k q hk
  obtain ⟨h1, rfl⟩ := zq_inv hk
  exact he k h1 (h k _ (zq_get h1))
theorem zq_arrL {D : va_G} {cl : List vw_C} {a : Nat} {c : ClassId} {N : Nat} {f g : Nat → Int64} {H : Heap} (hfg : ∀ j, j < N → f j = g j) (h : va_at D cl (a, .inl (c, N, .inr (.inl f))) H) : va_at D cl (a, .inl (c, N, .inr (.inl g))) H := by
  have e : vp_cell c (N, .inr (.inl f)) = vp_cell c (N, .inr (.inl g)) := by
    rw [vp_cell_l, vp_cell_l]
    unfold arrV
    congr 2
    funext j
    show _ = _
    exact congrArg _ (hfg j.1 j.2)
  show H[a]? = some (vp_cell c (N, .inr (.inl g)))
  rw [← e]
  exact h
theorem zq_arrI {D : va_G} {cl : List vw_C} {a : Nat} {c : ClassId} {N : Nat} {f g : Nat → Int32} {H : Heap} (hfg : ∀ j, j < N → f j = g j) (h : va_at D cl (a, .inl (c, N, .inl f)) H) : va_at D cl (a, .inl (c, N, .inl g)) H := by
  have e : vp_cell c (N, .inl f) = vp_cell c (N, .inl g) := by
    rw [vp_cell_i, vp_cell_i]
    unfold arrV
    congr 2
    funext j
    show _ = _
    exact congrArg _ (hfg j.1 j.2)
  show H[a]? = some (vp_cell c (N, .inl g))
  rw [← e]
  exact h
/-- a world that nobody touched -/
theorem zq_kept {D : va_G} {cl : List vw_C} {F : Nat → Nat} {n : Nat} {E : Nat → va_E} {H H1 : Heap} (h : va_P D cl (zq_wd F n E) H) (hq : ∀ k, k < n → H1[F k]? = H[F k]?) : va_P D cl (zq_wd F n E) H1 := by
  intro k q hk
  obtain ⟨h1, rfl⟩ := zq_inv hk
  exact (h k _ (zq_get h1)).kept (hq k h1)
theorem zq_lt {D : va_G} {cl : List vw_C} {F : Nat → Nat} {n : Nat} {E : Nat → va_E} {H : Heap} (h : va_P D cl (zq_wd F n E) H) {k : Nat} (hk : k < n) : F k < H.size := (h k _ (zq_get hk)).lt
/-! the class' world: series i at the place i, its row at i + 12, then the object and its own rows -/
abbrev zZC : Type := (Nat → Int64) × (Nat → Int64) × (Nat → Int64) × Nat × Nat × Nat
def zCE (cL cR : ClassId) (F : Nat → Nat) (T : Nat → Nat → Int64) (top : Nat → Nat) (Z : zZC) : Nat → va_E := fun k =>
  if k < 12 then .inr (1, [.ref (F (k + 12)), .int (nI (top k))])
  else if k < 24 then .inl (cL, 49, .inr (.inl (T (k - 12))))
  else if k = 24 then .inr (2, [.ref (F 25), .ref (F 26), .ref (F 27), .ref (F 8), .ref (F 9), .ref (F 10), .ref (F 11)])
  else if k = 25 then .inl (cR, 8, .inr (.inr (.inr (.inr (fun j => some (F j))))))
  else if k = 26 then .inl (cL, 17, .inr (.inl Z.1))
  else if k = 27 then .inr (0, [.ref (F 28), .ref (F 29), .int (nI Z.2.2.2.1), .int (nI Z.2.2.2.2.1), .int (nI Z.2.2.2.2.2)])
  else if k = 28 then .inl (cL, 24, .inr (.inl Z.2.1))
  else if k = 29 then .inl (cL, 32, .inr (.inl Z.2.2.1))
  else .inr (0, [])
section ZC
variable {cL cR : ClassId} {F : Nat → Nat} {T : Nat → Nat → Int64} {top : Nat → Nat} {Z : zZC}
theorem zC_s {i : Nat} (h : i < 12) : zCE cL cR F T top Z i = .inr (1, [.ref (F (i + 12)), .int (nI (top i))]) := by simp [zCE, h]
theorem zC_t {i : Nat} (h : i < 12) : zCE cL cR F T top Z (i + 12) = .inl (cL, 49, .inr (.inl (T i))) := by
  have h1 : ¬ i + 12 < 12 := by omega
  have h2 : i + 12 < 24 := by omega
  simp [zCE, h1, h2]
theorem zC_o : zCE cL cR F T top Z 24 = .inr (2, [.ref (F 25), .ref (F 26), .ref (F 27), .ref (F 8), .ref (F 9), .ref (F 10), .ref (F 11)]) := by simp [zCE]
theorem zC_st : zCE cL cR F T top Z 25 = .inl (cR, 8, .inr (.inr (.inr (.inr (fun j => some (F j)))))) := by simp [zCE]
theorem zC_pv : zCE cL cR F T top Z 26 = .inl (cL, 17, .inr (.inl Z.1)) := by simp [zCE]
theorem zC_se : zCE cL cR F T top Z 27 = .inr (0, [.ref (F 28), .ref (F 29), .int (nI Z.2.2.2.1), .int (nI Z.2.2.2.2.1), .int (nI Z.2.2.2.2.2)]) := by simp [zCE]
theorem zC_rt : zCE cL cR F T top Z 28 = .inl (cL, 24, .inr (.inl Z.2.1)) := by simp [zCE]
theorem zC_en : zCE cL cR F T top Z 29 = .inl (cL, 32, .inr (.inl Z.2.2.1)) := by simp [zCE]
theorem zC_us {i v : Nat} (h : i < 12) : va_up (zCE cL cR F T top Z) i (.inr (1, [.ref (F (i + 12)), .int (nI v)])) = zCE cL cR F T (va_up top i v) Z := by
  funext k
  by_cases hk : k = i
  · subst hk
    simp [va_up, zCE, h]
  · simp [va_up, zCE, hk]
theorem zC_ut {i : Nat} {f : Nat → Int64} (h : i < 12) : va_up (zCE cL cR F T top Z) (i + 12) (.inl (cL, 49, .inr (.inl f))) = zCE cL cR F (va_up T i f) top Z := by
  funext k
  by_cases hk : k = i + 12
  · subst hk
    have h1 : ¬ i + 12 < 12 := by omega
    have h2 : i + 12 < 24 := by omega
    simp [va_up, zCE, h1, h2]
  · by_cases h2 : k - 12 = i
    · have h3 : k < 12 ∨ ¬ k < 24 := by omega
      rcases h3 with h3 | h3
      · simp [va_up, zCE, hk, h3]
      · have h4 : ¬ k < 12 := by omega
        simp [va_up, zCE, hk, h3, h4]
    · simp [va_up, zCE, hk, h2]
theorem zC_upv {f : Nat → Int64} : va_up (zCE cL cR F T top Z) 26 (.inl (cL, 17, .inr (.inl f))) = zCE cL cR F T top (f, Z.2) := by
  funext k
  by_cases hk : k = 26
  · subst hk; simp [va_up, zCE]
  · simp [va_up, zCE, hk]
theorem zC_use {w co lo : Nat} : va_up (zCE cL cR F T top Z) 27 (.inr (0, [.ref (F 28), .ref (F 29), .int (nI w), .int (nI co), .int (nI lo)])) = zCE cL cR F T top (Z.1, Z.2.1, Z.2.2.1, w, co, lo) := by
  funext k
  by_cases hk : k = 27
  · subst hk; simp [va_up, zCE]
  · simp [va_up, zCE, hk]
theorem zC_urt {f : Nat → Int64} : va_up (zCE cL cR F T top Z) 28 (.inl (cL, 24, .inr (.inl f))) = zCE cL cR F T top (Z.1, f, Z.2.2) := by
  funext k
  by_cases hk : k = 28
  · subst hk; simp [va_up, zCE]
  · simp [va_up, zCE, hk]
theorem zC_uen {f : Nat → Int64} : va_up (zCE cL cR F T top Z) 29 (.inl (cL, 32, .inr (.inl f))) = zCE cL cR F T top (Z.1, Z.2.1, f, Z.2.2.2) := by
  funext k
  by_cases hk : k = 29
  · subst hk; simp [va_up, zCE]
  · simp [va_up, zCE, hk]
end ZC
theorem zq_cong {F : Nat → Nat} {n : Nat} {E E' : Nat → va_E} (h : ∀ k, k < n → E k = E' k) : zq_wd F n E = zq_wd F n E' := by
  apply List.ext_getElem?
  intro i
  by_cases hi : i < n
  · rw [zq_get hi, zq_get hi, h i hi]
  · rw [List.getElem?_eq_none (by rw [zq_len]; omega), List.getElem?_eq_none (by rw [zq_len]; omega)]
theorem zC_extT {D : va_G} {cl : List vw_C} {cL cR : ClassId} {F : Nat → Nat} {T T' : Nat → Nat → Int64} {top : Nat → Nat} {Z : zZC} {H : Heap} (h : va_P D cl (zq_wd F 30 (zCE cL cR F T top Z)) H) (hT : ∀ i, i < 12 → ∀ j, j < 49 → T i j = T' i j) : va_P D cl (zq_wd F 30 (zCE cL cR F T' top Z)) H := by
  refine zq_ext h (fun k hk ha => ?_)
  by_cases h1 : k < 12
  · rw [zC_s h1] at ha ⊢
    exact ha
  · by_cases h2 : k < 24
    · obtain ⟨i, rfl⟩ : ∃ i, k = i + 12 := ⟨k - 12, by omega⟩
      rw [zC_t (by omega)] at ha ⊢
      exact zq_arrL (hT i (by omega)) ha
    · have e : zCE cL cR F T top Z k = zCE cL cR F T' top Z k := by simp [zCE, h1, h2]
      rw [e] at ha
      exact ha
theorem va_up_eq {α : Type} (f : Nat → α) (k : Nat) (v : α) : va_up f k v k = v := by simp [va_up]
theorem zup_self {α : Type} (f : Nat → α) (k : Nat) : va_up f k (f k) = f := by
  funext j
  by_cases h : j = k
  · subst h; simp [va_up]
  · simp [va_up, h]
/-! the reference's world -/
abbrev zZM : Type := (Nat → Int32) × (Nat → Int32) × (Nat → Int32) × Nat × Nat
def zcos : Nat → Int32 := fun j => if j = 0 then 1048576 else if j = 1 then 1028428 else if j = 2 then 968758 else if j = 3 then 871859 else if j = 4 then 741455 else if j = 5 then 582558 else if j = 6 then 401273 else if j = 7 then 204567 else 0
def zME (cL cI : ClassId) (F : Nat → Nat) (C : Nat → Nat → Int64) (dg : Nat → Nat) (Y : zZM) : Nat → va_E := fun k =>
  if k = 0 then .inr (3, [.ref (F 1), .ref (F 2), .ref (F 3), .ref (F 4), .int (nI Y.2.2.2.1), .ref (F 5), .int (nI Y.2.2.2.2), .ref (F 6)])
  else if k = 1 then .inl (cL, 768, .inr (.inl (fun j => C (j / 64) (j % 64))))
  else if k = 2 then .inl (cI, 12, .inl (fun j => nI (dg j)))
  else if k = 3 then .inl (cI, 17, .inl Y.1)
  else if k = 4 then .inl (cI, 9, .inl zcos)
  else if k = 5 then .inl (cI, 24, .inl Y.2.1)
  else if k = 6 then .inl (cI, 200, .inl Y.2.2.1)
  else .inr (0, [])
section ZM
variable {cL cI : ClassId} {F : Nat → Nat} {C : Nat → Nat → Int64} {dg : Nat → Nat} {Y : zZM}
theorem zM_o : zME cL cI F C dg Y 0 = .inr (3, [.ref (F 1), .ref (F 2), .ref (F 3), .ref (F 4), .int (nI Y.2.2.2.1), .ref (F 5), .int (nI Y.2.2.2.2), .ref (F 6)]) := by simp [zME]
theorem zM_c : zME cL cI F C dg Y 1 = .inl (cL, 768, .inr (.inl (fun j => C (j / 64) (j % 64)))) := by simp [zME]
theorem zM_d : zME cL cI F C dg Y 2 = .inl (cI, 12, .inl (fun j => nI (dg j))) := by simp [zME]
theorem zM_v : zME cL cI F C dg Y 3 = .inl (cI, 17, .inl Y.1) := by simp [zME]
theorem zM_k : zME cL cI F C dg Y 4 = .inl (cI, 9, .inl zcos) := by simp [zME]
theorem zM_f : zME cL cI F C dg Y 5 = .inl (cI, 24, .inl Y.2.1) := by simp [zME]
theorem zM_w : zME cL cI F C dg Y 6 = .inl (cI, 200, .inl Y.2.2.1) := by simp [zME]
theorem zM_uo {r k : Nat} : va_up (zME cL cI F C dg Y) 0 (.inr (3, [.ref (F 1), .ref (F 2), .ref (F 3), .ref (F 4), .int (nI r), .ref (F 5), .int (nI k), .ref (F 6)])) = zME cL cI F C dg (Y.1, Y.2.1, Y.2.2.1, r, k) := by
  funext i
  by_cases hi : i = 0
  · subst hi; simp [va_up, zME]
  · simp [va_up, zME, hi]
theorem zM_uc {s k : Nat} {x : Int64} (hk : k < 64) : va_up (zME cL cI F C dg Y) 1 (.inl (cL, 768, .inr (.inl (vp_updL (fun j => C (j / 64) (j % 64)) (64 * s + k) x)))) = zME cL cI F (va_up C s (vp_updL (C s) k x)) dg Y := by
  have e : vp_updL (fun j => C (j / 64) (j % 64)) (64 * s + k) x = fun j => va_up C s (vp_updL (C s) k x) (j / 64) (j % 64) := by
    funext j
    by_cases h1 : j / 64 = s
    · by_cases h2 : j % 64 = k
      · have h3 : j = 64 * s + k := by omega
        rw [h1, h2, va_up_eq]
        simp [vp_updL, h3]
      · have h3 : ¬ j = 64 * s + k := by omega
        rw [h1, va_up_eq]
        simp [vp_updL, h2, h3, h1]
    · have h3 : ¬ j = 64 * s + k := by omega
      simp [vp_updL, va_up, h3, h1]
  rw [e]
  funext i
  by_cases hi : i = 1
  · subst hi; simp [va_up, zME]
  · simp [va_up, zME, hi]
theorem zM_ud {s v : Nat} : va_up (zME cL cI F C dg Y) 2 (.inl (cI, 12, .inl (upd (fun j => nI (dg j)) s (nI v)))) = zME cL cI F C (va_up dg s v) Y := by
  have e : upd (fun j => nI (dg j)) s (nI v) = fun j => nI (va_up dg s v j) := by
    funext j
    by_cases h : j = s
    · subst h; simp [upd, va_up]
    · simp [upd, va_up, h]
  rw [e]
  funext i
  by_cases hi : i = 2
  · subst hi; simp [va_up, zME]
  · simp [va_up, zME, hi]
theorem zM_uv {f : Nat → Int32} : va_up (zME cL cI F C dg Y) 3 (.inl (cI, 17, .inl f)) = zME cL cI F C dg (f, Y.2) := by
  funext i
  by_cases hi : i = 3
  · subst hi; simp [va_up, zME]
  · simp [va_up, zME, hi]
theorem zM_uf {f : Nat → Int32} : va_up (zME cL cI F C dg Y) 5 (.inl (cI, 24, .inl f)) = zME cL cI F C dg (Y.1, f, Y.2.2) := by
  funext i
  by_cases hi : i = 5
  · subst hi; simp [va_up, zME]
  · simp [va_up, zME, hi]
theorem zM_uw {f : Nat → Int32} : va_up (zME cL cI F C dg Y) 6 (.inl (cI, 200, .inl f)) = zME cL cI F C dg (Y.1, Y.2.1, f, Y.2.2.2) := by
  funext i
  by_cases hi : i = 6
  · subst hi; simp [va_up, zME]
  · simp [va_up, zME, hi]
end ZM
theorem zM_extC {D : va_G} {cl : List vw_C} {cL cI : ClassId} {F : Nat → Nat} {C C' : Nat → Nat → Int64} {dg : Nat → Nat} {Y : zZM} {H : Heap} (h : va_P D cl (zq_wd F 7 (zME cL cI F C dg Y)) H) (hC : ∀ i, i < 12 → ∀ j, j < 64 → C i j = C' i j) : va_P D cl (zq_wd F 7 (zME cL cI F C' dg Y)) H := by
  refine zq_ext h (fun k hk ha => ?_)
  by_cases h1 : k = 1
  · subst h1
    rw [zM_c] at ha ⊢
    exact zq_arrL (fun j hj => hC _ (by omega) _ (by omega)) ha
  · have e : zME cL cI F C dg Y k = zME cL cI F C' dg Y k := by simp [zME, h1]
    rw [e] at ha
    exact ha
