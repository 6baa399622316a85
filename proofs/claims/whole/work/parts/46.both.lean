/-! one operation: both programs answer the same and end in the same series -/
def zCC (l : Launch) (y : MethodName) (ws : List Cond) (D : va_G) (cL cI cR : ClassId) (F : Nat → Nat) (T : Nat → Nat → Int64) (top : Nat → Nat) (Z : zZC) (As : List Value) (r : Int64) (P' : Nat → Nat → Int64) (n' : Nat → Nat) (pv' : Nat → Int64) : Prop :=
  ∃ fr lo, zCt l y ws fr lo D cL cI cR (zown F 30) F 30 (zCE cL cR F T top Z) (.ref (F 24) :: As) (zPC cL cR F r P' n' pv') ∧ fr + 1 ≤ 8 ∧ lo ≤ 280
def zCM (l : Launch) (y : MethodName) (ws : List Cond) (D : va_G) (cL cI cR : ClassId) (G : Nat → Nat) (C : Nat → Nat → Int64) (dg : Nat → Nat) (Y : zZM) (As : List Value) (r : Int64) (P' : Nat → Nat → Int64) (n' : Nat → Nat) (vals' : Nat → Int32) : Prop :=
  ∃ fr lo, zCt l y ws fr lo D cL cI cR (zown G 7) G 7 (zME cL cI G C dg Y) (.ref (G 0) :: As) (zPM cL cI G r P' n' vals') ∧ fr + 1 ≤ 8 ∧ lo ≤ 280
def zDo (l : Launch) (D : va_G) (cL cI cR : ClassId) (F G : Nat → Nat) (T : Nat → Nat → Int64) (top : Nat → Nat) (Z : zZC) (C : Nat → Nat → Int64) (dg : Nat → Nat) (Y : zZM) (y2 : MethodName) (w2 : List Cond) (y3 : MethodName) (w3 : List Cond) (As : List Value) : Prop :=
  ∃ (r : Int64) (P' : Nat → Nat → Int64) (n' : Nat → Nat) (pv' : Nat → Int64) (vals' : Nat → Int32), zCC l y2 w2 D cL cI cR F T top Z As r P' n' pv' ∧ zCM l y3 w3 D cL cI cR G C dg Y As r P' n' vals' ∧ zInv P' n' ∧ ∀ j, j < 17 → (vals' j).toInt64 = pv' j
theorem zI_24 {P : Nat → Nat → Int64} {n : Nat → Nat} (h : zInv P n) : ∀ i, i < 8 → n i ≤ 24 := fun i hi => (h i hi).1
theorem zI_zz {P : Nat → Nat → Int64} {n : Nat → Nat} (h : zInv P n) : ∀ i, i < 8 → ∀ j, n i < j → P i j = 0 := fun i hi => (h i hi).2.1
theorem zk0 {P : Nat → Nat → Int64} {n : Nat → Nat} {t : Nat} {f : Nat → Int64} (h : zke f = 0) : zkr f = lN (ztop f 48) ∧ zkP P t f = va_up P t f ∧ zkN n t f = va_up n t (ztop f 48) := by
  unfold zkr zkP zkN
  rw [if_pos h, if_pos h, if_pos h]
  exact ⟨rfl, rfl, rfl⟩
theorem zsok_at {c : Nat → Int64} {d p : Nat} : ∀ {k : Nat}, zsok c d p k = true → ∀ j, j < k → zabs (zsv c d p j) ≤ 134217728 := by
  intro k
  induction k with
  | zero => intro _ j hj; omega
  | succ k ih =>
    intro h j hj
    unfold zsok at h
    rw [Bool.and_eq_true] at h
    by_cases e : j = k
    · rw [e]; exact of_decide_eq_true h.2
    · exact ih h.1 j (by omega)
theorem zI_bd {P : Nat → Nat → Int64} {n : Nat → Nat} (h : zInv P n) {a : Nat} (ha : a ≤ 7) : ∀ j, -268435456 ≤ (P a j).toInt ∧ (P a j).toInt ≤ 268435456 := by
  intro j
  have h1 := (zI_good h ha).2.2.1 j
  unfold zb at h1
  omega

theorem zDo_setCoefficient (l : Launch) (D : va_G) (cL cI cR : ClassId) (F G : Nat → Nat) (hF : zq_F (zown F 30) F 30) (hG : zq_F (zown G 7) G 7) (T : Nat → Nat → Int64) (top : Nat → Nat) (Z : zZC) (C : Nat → Nat → Int64) (dg : Nat → Nat) (Y : zZM) (P : Nat → Nat → Int64) (n : Nat → Nat) (hTP : ∀ i, i < 8 → T i = P i ∧ top i = n i) (hCP : ∀ i, i < 8 → C i = P i ∧ dg i = n i) (hI : zInv P n) (hV : ∀ j, j < 17 → (Y.1 j).toInt64 = Z.1 j) (x1 x2 x3 : Int32) : zDo l D cL cI cR F G T top Z C dg Y yX2_setCoefficient wsX2_setCoefficient yX3_setCoefficient wsX3_setCoefficient [.int x1, .int x2, .int x3] := by
  by_cases hb : zin 0 7 x1 ∧ zin 0 24 x2 ∧ zin (-268435456) 268435456 x3
  · obtain ⟨g0, g1, h2⟩ := hb
    obtain ⟨x1, h0, rfl⟩ := zin_nat (a := 7) g0
    obtain ⟨x2, h1, rfl⟩ := zin_nat (a := 24) g1
    have k2 := kX2_setCoefficient l D cL cI cR (zown F 30) F hF T top Z P n hTP (zI_24 hI) x1 h0 x2 h1 x3 h2
    have k3 := kX3_setCoefficient l D cL cI cR (zown G 7) G hG C dg Y P n hCP (zI_24 hI) (zI_zz hI) x1 h0 x2 h1 x3 h2
    obtain ⟨hk0, hI2⟩ := zI_set hI h0 h1 (zb_I (A := 268435456) h2)
    obtain ⟨e1, e2, e3⟩ := zk0 (P := P) (n := n) (t := x1) hk0
    rw [e1, e2, e3] at k3
    exact ⟨_, _, _, _, _, ⟨_, _, k2, by decide, by decide⟩, ⟨_, _, k3, by decide, by decide⟩, hI2, hV⟩
  · exact ⟨_, _, _, _, _, ⟨_, _, kX2_setCoefficient_bad l D cL cI cR (zown F 30) F hF T top Z P n hTP x1 x2 x3 hb, by decide, by decide⟩, ⟨_, _, kX3_setCoefficient_bad l D cL cI cR (zown G 7) G hG C dg Y P n hCP x1 x2 x3 hb, by decide, by decide⟩, hI, hV⟩
theorem zDo_coefficient (l : Launch) (D : va_G) (cL cI cR : ClassId) (F G : Nat → Nat) (hF : zq_F (zown F 30) F 30) (hG : zq_F (zown G 7) G 7) (T : Nat → Nat → Int64) (top : Nat → Nat) (Z : zZC) (C : Nat → Nat → Int64) (dg : Nat → Nat) (Y : zZM) (P : Nat → Nat → Int64) (n : Nat → Nat) (hTP : ∀ i, i < 8 → T i = P i ∧ top i = n i) (hCP : ∀ i, i < 8 → C i = P i ∧ dg i = n i) (hI : zInv P n) (hV : ∀ j, j < 17 → (Y.1 j).toInt64 = Z.1 j) (x1 x2 : Int32) : zDo l D cL cI cR F G T top Z C dg Y yX2_coefficient wsX2_coefficient yX3_coefficient wsX3_coefficient [.int x1, .int x2] := by
  by_cases hb : zin 0 7 x1 ∧ zin 0 24 x2
  · obtain ⟨g0, g1⟩ := hb
    obtain ⟨x1, h0, rfl⟩ := zin_nat (a := 7) g0
    obtain ⟨x2, h1, rfl⟩ := zin_nat (a := 24) g1
    have k2 := kX2_coefficient l D cL cI cR (zown F 30) F hF T top Z P n hTP (zI_24 hI) x1 h0 x2 h1
    have k3 := kX3_coefficient l D cL cI cR (zown G 7) G hG C dg Y P n hCP (zI_24 hI) (zI_zz hI) x1 h0 x2 h1
    exact ⟨_, _, _, _, _, ⟨_, _, k2, by decide, by decide⟩, ⟨_, _, k3, by decide, by decide⟩, hI, hV⟩
  · exact ⟨_, _, _, _, _, ⟨_, _, kX2_coefficient_bad l D cL cI cR (zown F 30) F hF T top Z P n hTP x1 x2 hb, by decide, by decide⟩, ⟨_, _, kX3_coefficient_bad l D cL cI cR (zown G 7) G hG C dg Y P n hCP x1 x2 hb, by decide, by decide⟩, hI, hV⟩
theorem zDo_degree (l : Launch) (D : va_G) (cL cI cR : ClassId) (F G : Nat → Nat) (hF : zq_F (zown F 30) F 30) (hG : zq_F (zown G 7) G 7) (T : Nat → Nat → Int64) (top : Nat → Nat) (Z : zZC) (C : Nat → Nat → Int64) (dg : Nat → Nat) (Y : zZM) (P : Nat → Nat → Int64) (n : Nat → Nat) (hTP : ∀ i, i < 8 → T i = P i ∧ top i = n i) (hCP : ∀ i, i < 8 → C i = P i ∧ dg i = n i) (hI : zInv P n) (hV : ∀ j, j < 17 → (Y.1 j).toInt64 = Z.1 j) (x1 : Int32) : zDo l D cL cI cR F G T top Z C dg Y yX2_degree wsX2_degree yX3_degree wsX3_degree [.int x1] := by
  by_cases hb : zin 0 7 x1
  · have g0 := hb
    obtain ⟨x1, h0, rfl⟩ := zin_nat (a := 7) g0
    have k2 := kX2_degree l D cL cI cR (zown F 30) F hF T top Z P n hTP (zI_24 hI) x1 h0
    have k3 := kX3_degree l D cL cI cR (zown G 7) G hG C dg Y P n hCP (zI_24 hI) (zI_zz hI) x1 h0
    exact ⟨_, _, _, _, _, ⟨_, _, k2, by decide, by decide⟩, ⟨_, _, k3, by decide, by decide⟩, hI, hV⟩
  · exact ⟨_, _, _, _, _, ⟨_, _, kX2_degree_bad l D cL cI cR (zown F 30) F hF T top Z P n hTP x1 hb, by decide, by decide⟩, ⟨_, _, kX3_degree_bad l D cL cI cR (zown G 7) G hG C dg Y P n hCP x1 hb, by decide, by decide⟩, hI, hV⟩
theorem zDo_copy (l : Launch) (D : va_G) (cL cI cR : ClassId) (F G : Nat → Nat) (hF : zq_F (zown F 30) F 30) (hG : zq_F (zown G 7) G 7) (T : Nat → Nat → Int64) (top : Nat → Nat) (Z : zZC) (C : Nat → Nat → Int64) (dg : Nat → Nat) (Y : zZM) (P : Nat → Nat → Int64) (n : Nat → Nat) (hTP : ∀ i, i < 8 → T i = P i ∧ top i = n i) (hCP : ∀ i, i < 8 → C i = P i ∧ dg i = n i) (hI : zInv P n) (hV : ∀ j, j < 17 → (Y.1 j).toInt64 = Z.1 j) (x1 x2 : Int32) : zDo l D cL cI cR F G T top Z C dg Y yX2_copy wsX2_copy yX3_copy wsX3_copy [.int x1, .int x2] := by
  by_cases hb : zin 0 7 x1 ∧ zin 0 7 x2
  · obtain ⟨g0, g1⟩ := hb
    obtain ⟨x1, h0, rfl⟩ := zin_nat (a := 7) g0
    obtain ⟨x2, h1, rfl⟩ := zin_nat (a := 7) g1
    have k2 := kX2_copy l D cL cI cR (zown F 30) F hF T top Z P n hTP (zI_24 hI) x1 h0 x2 h1
    have k3 := kX3_copy l D cL cI cR (zown G 7) G hG C dg Y P n hCP (zI_24 hI) (zI_zz hI) x1 h0 x2 h1
    exact ⟨_, _, _, _, _, ⟨_, _, k2, by decide, by decide⟩, ⟨_, _, k3, by decide, by decide⟩, zI_copy hI h0, hV⟩
  · exact ⟨_, _, _, _, _, ⟨_, _, kX2_copy_bad l D cL cI cR (zown F 30) F hF T top Z P n hTP x1 x2 hb, by decide, by decide⟩, ⟨_, _, kX3_copy_bad l D cL cI cR (zown G 7) G hG C dg Y P n hCP x1 x2 hb, by decide, by decide⟩, hI, hV⟩
theorem zDo_value (l : Launch) (D : va_G) (cL cI cR : ClassId) (F G : Nat → Nat) (hF : zq_F (zown F 30) F 30) (hG : zq_F (zown G 7) G 7) (T : Nat → Nat → Int64) (top : Nat → Nat) (Z : zZC) (C : Nat → Nat → Int64) (dg : Nat → Nat) (Y : zZM) (P : Nat → Nat → Int64) (n : Nat → Nat) (hTP : ∀ i, i < 8 → T i = P i ∧ top i = n i) (hCP : ∀ i, i < 8 → C i = P i ∧ dg i = n i) (hI : zInv P n) (hV : ∀ j, j < 17 → (Y.1 j).toInt64 = Z.1 j) (x1 x2 : Int32) : zDo l D cL cI cR F G T top Z C dg Y yX2_value wsX2_value yX3_value wsX3_value [.int x1, .int x2] := by
  by_cases hb : zin 0 7 x1 ∧ zin (-1048576) 1048576 x2
  · obtain ⟨g0, h1⟩ := hb
    obtain ⟨x1, h0, rfl⟩ := zin_nat (a := 7) g0
    have k2 := kX2_value l D cL cI cR (zown F 30) F hF T top Z P n hTP (zI_24 hI) x1 h0 x2 h1
    have k3 := kX3_value l D cL cI cR (zown G 7) G hG C dg Y P n hCP (zI_24 hI) (zI_zz hI) x1 h0 x2 h1
    exact ⟨_, _, _, _, _, ⟨_, _, k2, by decide, by decide⟩, ⟨_, _, k3, by decide, by decide⟩, hI, hV⟩
  · exact ⟨_, _, _, _, _, ⟨_, _, kX2_value_bad l D cL cI cR (zown F 30) F hF T top Z P n hTP x1 x2 hb, by decide, by decide⟩, ⟨_, _, kX3_value_bad l D cL cI cR (zown G 7) G hG C dg Y P n hCP x1 x2 hb, by decide, by decide⟩, hI, hV⟩
theorem zDo_add (l : Launch) (D : va_G) (cL cI cR : ClassId) (F G : Nat → Nat) (hF : zq_F (zown F 30) F 30) (hG : zq_F (zown G 7) G 7) (T : Nat → Nat → Int64) (top : Nat → Nat) (Z : zZC) (C : Nat → Nat → Int64) (dg : Nat → Nat) (Y : zZM) (P : Nat → Nat → Int64) (n : Nat → Nat) (hTP : ∀ i, i < 8 → T i = P i ∧ top i = n i) (hCP : ∀ i, i < 8 → C i = P i ∧ dg i = n i) (hI : zInv P n) (hV : ∀ j, j < 17 → (Y.1 j).toInt64 = Z.1 j) (x1 x2 x3 x4 x5 : Int32) : zDo l D cL cI cR F G T top Z C dg Y yX2_add wsX2_add yX3_add wsX3_add [.int x1, .int x2, .int x3, .int x4, .int x5] := by
  by_cases hb : zin 0 7 x1 ∧ zin 0 7 x3 ∧ zin 0 7 x5 ∧ zin (-1000) 1000 x2 ∧ zin (-1000) 1000 x4
  · obtain ⟨g0, g2, g4, h1, h3⟩ := hb
    obtain ⟨x1, h0, rfl⟩ := zin_nat (a := 7) g0
    obtain ⟨x3, h2, rfl⟩ := zin_nat (a := 7) g2
    obtain ⟨x5, h4, rfl⟩ := zin_nat (a := 7) g4
    have k2 := kX2_add l D cL cI cR (zown F 30) F hF T top Z P n hTP (zI_24 hI) x1 h0 x3 h2 x5 h4 x2 x4 h1 h3
    have k3 := kX3_add l D cL cI cR (zown G 7) G hG C dg Y P n hCP (zI_24 hI) (zI_zz hI) x1 h0 x3 h2 x5 h4 x2 x4 h1 h3
    exact ⟨_, _, _, _, _, ⟨_, _, k2, by decide, by decide⟩, ⟨_, _, k3, by decide, by decide⟩, zI_add hI x5 h0 h2 (zb_I (A := 1000) h1) (zb_I (A := 1000) h3), hV⟩
  · exact ⟨_, _, _, _, _, ⟨_, _, kX2_add_bad l D cL cI cR (zown F 30) F hF T top Z P n hTP x1 x2 x3 x4 x5 hb, by decide, by decide⟩, ⟨_, _, kX3_add_bad l D cL cI cR (zown G 7) G hG C dg Y P n hCP x1 x2 x3 x4 x5 hb, by decide, by decide⟩, hI, hV⟩
theorem zDo_multiply (l : Launch) (D : va_G) (cL cI cR : ClassId) (F G : Nat → Nat) (hF : zq_F (zown F 30) F 30) (hG : zq_F (zown G 7) G 7) (T : Nat → Nat → Int64) (top : Nat → Nat) (Z : zZC) (C : Nat → Nat → Int64) (dg : Nat → Nat) (Y : zZM) (P : Nat → Nat → Int64) (n : Nat → Nat) (hTP : ∀ i, i < 8 → T i = P i ∧ top i = n i) (hCP : ∀ i, i < 8 → C i = P i ∧ dg i = n i) (hI : zInv P n) (hV : ∀ j, j < 17 → (Y.1 j).toInt64 = Z.1 j) (x1 x2 x3 : Int32) : zDo l D cL cI cR F G T top Z C dg Y yX2_multiply wsX2_multiply yX3_multiply wsX3_multiply [.int x1, .int x2, .int x3] := by
  by_cases hb : zin 0 7 x1 ∧ zin 0 7 x2 ∧ zin 0 7 x3
  · obtain ⟨g0, g1, g2⟩ := hb
    obtain ⟨x1, h0, rfl⟩ := zin_nat (a := 7) g0
    obtain ⟨x2, h1, rfl⟩ := zin_nat (a := 7) g1
    obtain ⟨x3, h2, rfl⟩ := zin_nat (a := 7) g2
    have k2 := kX2_multiply l D cL cI cR (zown F 30) F hF T top Z P n hTP (zI_24 hI) x1 h0 x2 h1 x3 h2
    have k3 := kX3_multiply l D cL cI cR (zown G 7) G hG C dg Y P n hCP (zI_24 hI) (zI_zz hI) x1 h0 x2 h1 x3 h2
    exact ⟨_, _, _, _, _, ⟨_, _, k2, by decide, by decide⟩, ⟨_, _, k3, by decide, by decide⟩, zI_mul hI x3 h0 h1, hV⟩
  · exact ⟨_, _, _, _, _, ⟨_, _, kX2_multiply_bad l D cL cI cR (zown F 30) F hF T top Z P n hTP x1 x2 x3 hb, by decide, by decide⟩, ⟨_, _, kX3_multiply_bad l D cL cI cR (zown G 7) G hG C dg Y P n hCP x1 x2 x3 hb, by decide, by decide⟩, hI, hV⟩
theorem zDo_differentiate (l : Launch) (D : va_G) (cL cI cR : ClassId) (F G : Nat → Nat) (hF : zq_F (zown F 30) F 30) (hG : zq_F (zown G 7) G 7) (T : Nat → Nat → Int64) (top : Nat → Nat) (Z : zZC) (C : Nat → Nat → Int64) (dg : Nat → Nat) (Y : zZM) (P : Nat → Nat → Int64) (n : Nat → Nat) (hTP : ∀ i, i < 8 → T i = P i ∧ top i = n i) (hCP : ∀ i, i < 8 → C i = P i ∧ dg i = n i) (hI : zInv P n) (hV : ∀ j, j < 17 → (Y.1 j).toInt64 = Z.1 j) (x1 x2 : Int32) : zDo l D cL cI cR F G T top Z C dg Y yX2_differentiate wsX2_differentiate yX3_differentiate wsX3_differentiate [.int x1, .int x2] := by
  by_cases hb : zin 0 7 x1 ∧ zin 0 7 x2
  · obtain ⟨g0, g1⟩ := hb
    obtain ⟨x1, h0, rfl⟩ := zin_nat (a := 7) g0
    obtain ⟨x2, h1, rfl⟩ := zin_nat (a := 7) g1
    have k2 := kX2_differentiate l D cL cI cR (zown F 30) F hF T top Z P n hTP (zI_24 hI) x1 h0 x2 h1
    have k3 := kX3_differentiate l D cL cI cR (zown G 7) G hG C dg Y P n hCP (zI_24 hI) (zI_zz hI) x1 h0 x2 h1
    exact ⟨_, _, _, _, _, ⟨_, _, k2, by decide, by decide⟩, ⟨_, _, k3, by decide, by decide⟩, zI_der hI x2 h0, hV⟩
  · exact ⟨_, _, _, _, _, ⟨_, _, kX2_differentiate_bad l D cL cI cR (zown F 30) F hF T top Z P n hTP x1 x2 hb, by decide, by decide⟩, ⟨_, _, kX3_differentiate_bad l D cL cI cR (zown G 7) G hG C dg Y P n hCP x1 x2 hb, by decide, by decide⟩, hI, hV⟩
theorem zDo_antidifferentiate (l : Launch) (D : va_G) (cL cI cR : ClassId) (F G : Nat → Nat) (hF : zq_F (zown F 30) F 30) (hG : zq_F (zown G 7) G 7) (T : Nat → Nat → Int64) (top : Nat → Nat) (Z : zZC) (C : Nat → Nat → Int64) (dg : Nat → Nat) (Y : zZM) (P : Nat → Nat → Int64) (n : Nat → Nat) (hTP : ∀ i, i < 8 → T i = P i ∧ top i = n i) (hCP : ∀ i, i < 8 → C i = P i ∧ dg i = n i) (hI : zInv P n) (hV : ∀ j, j < 17 → (Y.1 j).toInt64 = Z.1 j) (x1 x2 : Int32) : zDo l D cL cI cR F G T top Z C dg Y yX2_antidifferentiate wsX2_antidifferentiate yX3_antidifferentiate wsX3_antidifferentiate [.int x1, .int x2] := by
  by_cases hb : zin 0 7 x1 ∧ zin 0 7 x2
  · obtain ⟨g0, g1⟩ := hb
    obtain ⟨x1, h0, rfl⟩ := zin_nat (a := 7) g0
    obtain ⟨x2, h1, rfl⟩ := zin_nat (a := 7) g1
    have k2 := kX2_antidifferentiate l D cL cI cR (zown F 30) F hF T top Z P n hTP (zI_24 hI) x1 h0 x2 h1
    have k3 := kX3_antidifferentiate l D cL cI cR (zown G 7) G hG C dg Y P n hCP (zI_24 hI) (zI_zz hI) x1 h0 x2 h1
    exact ⟨_, _, _, _, _, ⟨_, _, k2, by decide, by decide⟩, ⟨_, _, k3, by decide, by decide⟩, zI_ant hI x2 h0, hV⟩
  · exact ⟨_, _, _, _, _, ⟨_, _, kX2_antidifferentiate_bad l D cL cI cR (zown F 30) F hF T top Z P n hTP x1 x2 hb, by decide, by decide⟩, ⟨_, _, kX3_antidifferentiate_bad l D cL cI cR (zown G 7) G hG C dg Y P n hCP x1 x2 hb, by decide, by decide⟩, hI, hV⟩
theorem zDo_compose (l : Launch) (D : va_G) (cL cI cR : ClassId) (F G : Nat → Nat) (hF : zq_F (zown F 30) F 30) (hG : zq_F (zown G 7) G 7) (T : Nat → Nat → Int64) (top : Nat → Nat) (Z : zZC) (C : Nat → Nat → Int64) (dg : Nat → Nat) (Y : zZM) (P : Nat → Nat → Int64) (n : Nat → Nat) (hTP : ∀ i, i < 8 → T i = P i ∧ top i = n i) (hCP : ∀ i, i < 8 → C i = P i ∧ dg i = n i) (hI : zInv P n) (hV : ∀ j, j < 17 → (Y.1 j).toInt64 = Z.1 j) (x1 x2 x3 : Int32) : zDo l D cL cI cR F G T top Z C dg Y yX2_compose wsX2_compose yX3_compose wsX3_compose [.int x1, .int x2, .int x3] := by
  by_cases hb : zin 0 7 x1 ∧ zin 0 7 x2 ∧ zin 0 7 x3
  · obtain ⟨g0, g1, g2⟩ := hb
    obtain ⟨x1, h0, rfl⟩ := zin_nat (a := 7) g0
    obtain ⟨x2, h1, rfl⟩ := zin_nat (a := 7) g1
    obtain ⟨x3, h2, rfl⟩ := zin_nat (a := 7) g2
    have k2 := kX2_compose l D cL cI cR (zown F 30) F hF T top Z P n hTP (zI_24 hI) x1 h0 x2 h1 x3 h2
    have k3 := kX3_compose l D cL cI cR (zown G 7) G hG C dg Y P n hCP (zI_24 hI) (zI_zz hI) x1 h0 x2 h1 x3 h2
    exact ⟨_, _, _, _, _, ⟨_, _, k2, by decide, by decide⟩, ⟨_, _, k3, by decide, by decide⟩, zI_comp hI x3 h0 h1, hV⟩
  · exact ⟨_, _, _, _, _, ⟨_, _, kX2_compose_bad l D cL cI cR (zown F 30) F hF T top Z P n hTP x1 x2 x3 hb, by decide, by decide⟩, ⟨_, _, kX3_compose_bad l D cL cI cR (zown G 7) G hG C dg Y P n hCP x1 x2 x3 hb, by decide, by decide⟩, hI, hV⟩
theorem zDo_divide (l : Launch) (D : va_G) (cL cI cR : ClassId) (F G : Nat → Nat) (hF : zq_F (zown F 30) F 30) (hG : zq_F (zown G 7) G 7) (T : Nat → Nat → Int64) (top : Nat → Nat) (Z : zZC) (C : Nat → Nat → Int64) (dg : Nat → Nat) (Y : zZM) (P : Nat → Nat → Int64) (n : Nat → Nat) (hTP : ∀ i, i < 8 → T i = P i ∧ top i = n i) (hCP : ∀ i, i < 8 → C i = P i ∧ dg i = n i) (hI : zInv P n) (hV : ∀ j, j < 17 → (Y.1 j).toInt64 = Z.1 j) (x1 x2 x3 : Int32) : zDo l D cL cI cR F G T top Z C dg Y yX2_divide wsX2_divide yX3_divide wsX3_divide [.int x1, .int x2, .int x3] := by
  by_cases hb : zin 0 7 x1 ∧ zin 0 7 x3 ∧ zin (-1048576) 1048576 x2
  · obtain ⟨g0, g2, h1⟩ := hb
    obtain ⟨x1, h0, rfl⟩ := zin_nat (a := 7) g0
    obtain ⟨x3, h2, rfl⟩ := zin_nat (a := 7) g2
    have k2 := kX2_divide l D cL cI cR (zown F 30) F hF T top Z P n hTP (zI_24 hI) x1 h0 x3 h2 x2 h1
    have k3 := kX3_divide l D cL cI cR (zown G 7) G hG C dg Y P n hCP (zI_24 hI) (zI_zz hI) x1 h0 x3 h2 x2 h1
    exact ⟨_, _, _, _, _, ⟨_, _, k2, by decide, by decide⟩, ⟨_, _, k3, by decide, by decide⟩, zI_quo hI x3 h0 (zb_I (A := 1048576) h1), hV⟩
  · exact ⟨_, _, _, _, _, ⟨_, _, kX2_divide_bad l D cL cI cR (zown F 30) F hF T top Z P n hTP x1 x2 x3 hb, by decide, by decide⟩, ⟨_, _, kX3_divide_bad l D cL cI cR (zown G 7) G hG C dg Y P n hCP x1 x2 x3 hb, by decide, by decide⟩, hI, hV⟩
theorem zDo_cut (l : Launch) (D : va_G) (cL cI cR : ClassId) (F G : Nat → Nat) (hF : zq_F (zown F 30) F 30) (hG : zq_F (zown G 7) G 7) (T : Nat → Nat → Int64) (top : Nat → Nat) (Z : zZC) (C : Nat → Nat → Int64) (dg : Nat → Nat) (Y : zZM) (P : Nat → Nat → Int64) (n : Nat → Nat) (hTP : ∀ i, i < 8 → T i = P i ∧ top i = n i) (hCP : ∀ i, i < 8 → C i = P i ∧ dg i = n i) (hI : zInv P n) (hV : ∀ j, j < 17 → (Y.1 j).toInt64 = Z.1 j) (x1 x2 : Int32) : zDo l D cL cI cR F G T top Z C dg Y yX2_cut wsX2_cut yX3_cut wsX3_cut [.int x1, .int x2] := by
  by_cases hb : zin 0 7 x1 ∧ zin 0 1000000000 x2
  · obtain ⟨g0, h1⟩ := hb
    obtain ⟨x1, h0, rfl⟩ := zin_nat (a := 7) g0
    have k2 := kX2_cut l D cL cI cR (zown F 30) F hF T top Z P n hTP (zI_24 hI) x1 h0 x2 h1
    have k3 := kX3_cut l D cL cI cR (zown G 7) G hG C dg Y P n hCP (zI_24 hI) (zI_zz hI) x1 h0 x2 h1
    obtain ⟨e1, hI2⟩ := zI_cut hI h0 (tol := x2.toInt64) (by rw [Int64.le_iff_toInt_le, Int32.toInt_toInt64]; exact h1.1)
    rw [e1] at k2
    exact ⟨_, _, _, _, _, ⟨_, _, k2, by decide, by decide⟩, ⟨_, _, k3, by decide, by decide⟩, hI2, hV⟩
  · exact ⟨_, _, _, _, _, ⟨_, _, kX2_cut_bad l D cL cI cR (zown F 30) F hF T top Z P n hTP x1 x2 hb, by decide, by decide⟩, ⟨_, _, kX3_cut_bad l D cL cI cR (zown G 7) G hG C dg Y P n hCP x1 x2 hb, by decide, by decide⟩, hI, hV⟩
theorem zDo_basis (l : Launch) (D : va_G) (cL cI cR : ClassId) (F G : Nat → Nat) (hF : zq_F (zown F 30) F 30) (hG : zq_F (zown G 7) G 7) (T : Nat → Nat → Int64) (top : Nat → Nat) (Z : zZC) (C : Nat → Nat → Int64) (dg : Nat → Nat) (Y : zZM) (P : Nat → Nat → Int64) (n : Nat → Nat) (hTP : ∀ i, i < 8 → T i = P i ∧ top i = n i) (hCP : ∀ i, i < 8 → C i = P i ∧ dg i = n i) (hI : zInv P n) (hV : ∀ j, j < 17 → (Y.1 j).toInt64 = Z.1 j) (x1 x2 : Int32) : zDo l D cL cI cR F G T top Z C dg Y yX2_basis wsX2_basis yX3_basis wsX3_basis [.int x1, .int x2] := by
  by_cases hb : zin 0 7 x2 ∧ zin 0 24 x1
  · obtain ⟨g1, g0⟩ := hb
    obtain ⟨x1, h0, rfl⟩ := zin_nat (a := 24) g0
    obtain ⟨x2, h1, rfl⟩ := zin_nat (a := 7) g1
    have k2 := kX2_basis l D cL cI cR (zown F 30) F hF T top Z P n hTP (zI_24 hI) x2 h1 x1 h0
    have k3 := kX3_basis l D cL cI cR (zown G 7) G hG C dg Y P n hCP (zI_24 hI) (zI_zz hI) x2 h1 x1 h0
    rw [zbas_top h0] at k2
    exact ⟨_, _, _, _, _, ⟨_, _, k2, by decide, by decide⟩, ⟨_, _, k3, by decide, by decide⟩, zI_basis hI h0, hV⟩
  · exact ⟨_, _, _, _, _, ⟨_, _, kX2_basis_bad l D cL cI cR (zown F 30) F hF T top Z P n hTP x1 x2 hb, by decide, by decide⟩, ⟨_, _, kX3_basis_bad l D cL cI cR (zown G 7) G hG C dg Y P n hCP x1 x2 hb, by decide, by decide⟩, hI, hV⟩
theorem zDo_integral (l : Launch) (D : va_G) (cL cI cR : ClassId) (F G : Nat → Nat) (hF : zq_F (zown F 30) F 30) (hG : zq_F (zown G 7) G 7) (T : Nat → Nat → Int64) (top : Nat → Nat) (Z : zZC) (C : Nat → Nat → Int64) (dg : Nat → Nat) (Y : zZM) (P : Nat → Nat → Int64) (n : Nat → Nat) (hTP : ∀ i, i < 8 → T i = P i ∧ top i = n i) (hCP : ∀ i, i < 8 → C i = P i ∧ dg i = n i) (hI : zInv P n) (hV : ∀ j, j < 17 → (Y.1 j).toInt64 = Z.1 j) (x1 : Int32) : zDo l D cL cI cR F G T top Z C dg Y yX2_integral wsX2_integral yX3_integral wsX3_integral [.int x1] := by
  by_cases hb : zin 0 7 x1
  · have g0 := hb
    obtain ⟨x1, h0, rfl⟩ := zin_nat (a := 7) g0
    have k2 := kX2_integral l D cL cI cR (zown F 30) F hF T top Z P n hTP (zI_24 hI) x1 h0
    have k3 := kX3_integral l D cL cI cR (zown G 7) G hG C dg Y P n hCP (zI_24 hI) (zI_zz hI) x1 h0
    exact ⟨_, _, _, _, _, ⟨_, _, k2, by decide, by decide⟩, ⟨_, _, k3, by decide, by decide⟩, hI, hV⟩
  · exact ⟨_, _, _, _, _, ⟨_, _, kX2_integral_bad l D cL cI cR (zown F 30) F hF T top Z P n hTP x1 hb, by decide, by decide⟩, ⟨_, _, kX3_integral_bad l D cL cI cR (zown G 7) G hG C dg Y P n hCP x1 hb, by decide, by decide⟩, hI, hV⟩
theorem zDo_inner (l : Launch) (D : va_G) (cL cI cR : ClassId) (F G : Nat → Nat) (hF : zq_F (zown F 30) F 30) (hG : zq_F (zown G 7) G 7) (T : Nat → Nat → Int64) (top : Nat → Nat) (Z : zZC) (C : Nat → Nat → Int64) (dg : Nat → Nat) (Y : zZM) (P : Nat → Nat → Int64) (n : Nat → Nat) (hTP : ∀ i, i < 8 → T i = P i ∧ top i = n i) (hCP : ∀ i, i < 8 → C i = P i ∧ dg i = n i) (hI : zInv P n) (hV : ∀ j, j < 17 → (Y.1 j).toInt64 = Z.1 j) (x1 x2 : Int32) : zDo l D cL cI cR F G T top Z C dg Y yX2_inner wsX2_inner yX3_inner wsX3_inner [.int x1, .int x2] := by
  by_cases hb : zin 0 7 x1 ∧ zin 0 7 x2
  · obtain ⟨g0, g1⟩ := hb
    obtain ⟨x1, h0, rfl⟩ := zin_nat (a := 7) g0
    obtain ⟨x2, h1, rfl⟩ := zin_nat (a := 7) g1
    have k2 := kX2_inner l D cL cI cR (zown F 30) F hF T top Z P n hTP (zI_24 hI) x1 h0 x2 h1
    have k3 := kX3_inner l D cL cI cR (zown G 7) G hG C dg Y P n hCP (zI_24 hI) (zI_zz hI) x1 h0 x2 h1
    exact ⟨_, _, _, _, _, ⟨_, _, k2, by decide, by decide⟩, ⟨_, _, k3, by decide, by decide⟩, hI, hV⟩
  · exact ⟨_, _, _, _, _, ⟨_, _, kX2_inner_bad l D cL cI cR (zown F 30) F hF T top Z P n hTP x1 x2 hb, by decide, by decide⟩, ⟨_, _, kX3_inner_bad l D cL cI cR (zown G 7) G hG C dg Y P n hCP x1 x2 hb, by decide, by decide⟩, hI, hV⟩
theorem zDo_bound (l : Launch) (D : va_G) (cL cI cR : ClassId) (F G : Nat → Nat) (hF : zq_F (zown F 30) F 30) (hG : zq_F (zown G 7) G 7) (T : Nat → Nat → Int64) (top : Nat → Nat) (Z : zZC) (C : Nat → Nat → Int64) (dg : Nat → Nat) (Y : zZM) (P : Nat → Nat → Int64) (n : Nat → Nat) (hTP : ∀ i, i < 8 → T i = P i ∧ top i = n i) (hCP : ∀ i, i < 8 → C i = P i ∧ dg i = n i) (hI : zInv P n) (hV : ∀ j, j < 17 → (Y.1 j).toInt64 = Z.1 j) (x1 : Int32) : zDo l D cL cI cR F G T top Z C dg Y yX2_bound wsX2_bound yX3_bound wsX3_bound [.int x1] := by
  by_cases hb : zin 0 7 x1
  · have g0 := hb
    obtain ⟨x1, h0, rfl⟩ := zin_nat (a := 7) g0
    have k2 := kX2_bound l D cL cI cR (zown F 30) F hF T top Z P n hTP (zI_24 hI) x1 h0
    have k3 := kX3_bound l D cL cI cR (zown G 7) G hG C dg Y P n hCP (zI_24 hI) (zI_zz hI) x1 h0
    exact ⟨_, _, _, _, _, ⟨_, _, k2, by decide, by decide⟩, ⟨_, _, k3, by decide, by decide⟩, hI, hV⟩
  · exact ⟨_, _, _, _, _, ⟨_, _, kX2_bound_bad l D cL cI cR (zown F 30) F hF T top Z P n hTP x1 hb, by decide, by decide⟩, ⟨_, _, kX3_bound_bad l D cL cI cR (zown G 7) G hG C dg Y P n hCP x1 hb, by decide, by decide⟩, hI, hV⟩
theorem zDo_degreeWith (l : Launch) (D : va_G) (cL cI cR : ClassId) (F G : Nat → Nat) (hF : zq_F (zown F 30) F 30) (hG : zq_F (zown G 7) G 7) (T : Nat → Nat → Int64) (top : Nat → Nat) (Z : zZC) (C : Nat → Nat → Int64) (dg : Nat → Nat) (Y : zZM) (P : Nat → Nat → Int64) (n : Nat → Nat) (hTP : ∀ i, i < 8 → T i = P i ∧ top i = n i) (hCP : ∀ i, i < 8 → C i = P i ∧ dg i = n i) (hI : zInv P n) (hV : ∀ j, j < 17 → (Y.1 j).toInt64 = Z.1 j) (x1 x2 : Int32) : zDo l D cL cI cR F G T top Z C dg Y yX2_degreeWith wsX2_degreeWith yX3_degreeWith wsX3_degreeWith [.int x1, .int x2] := by
  by_cases hb : zin 0 7 x1 ∧ zin 0 1000000000 x2
  · obtain ⟨g0, h1⟩ := hb
    obtain ⟨x1, h0, rfl⟩ := zin_nat (a := 7) g0
    have k2 := kX2_degreeWith l D cL cI cR (zown F 30) F hF T top Z P n hTP (zI_24 hI) x1 h0 x2 h1
    have k3 := kX3_degreeWith l D cL cI cR (zown G 7) G hG C dg Y P n hCP (zI_24 hI) (zI_zz hI) x1 h0 x2 h1
    exact ⟨_, _, _, _, _, ⟨_, _, k2, by decide, by decide⟩, ⟨_, _, k3, by decide, by decide⟩, hI, hV⟩
  · exact ⟨_, _, _, _, _, ⟨_, _, kX2_degreeWith_bad l D cL cI cR (zown F 30) F hF T top Z P n hTP x1 x2 hb, by decide, by decide⟩, ⟨_, _, kX3_degreeWith_bad l D cL cI cR (zown G 7) G hG C dg Y P n hCP x1 x2 hb, by decide, by decide⟩, hI, hV⟩
theorem zDo_byValue (l : Launch) (D : va_G) (cL cI cR : ClassId) (F G : Nat → Nat) (hF : zq_F (zown F 30) F 30) (hG : zq_F (zown G 7) G 7) (T : Nat → Nat → Int64) (top : Nat → Nat) (Z : zZC) (C : Nat → Nat → Int64) (dg : Nat → Nat) (Y : zZM) (P : Nat → Nat → Int64) (n : Nat → Nat) (hTP : ∀ i, i < 8 → T i = P i ∧ top i = n i) (hCP : ∀ i, i < 8 → C i = P i ∧ dg i = n i) (hI : zInv P n) (hV : ∀ j, j < 17 → (Y.1 j).toInt64 = Z.1 j) (x1 x2 : Int32) : zDo l D cL cI cR F G T top Z C dg Y yX2_byValue wsX2_byValue yX3_byValue wsX3_byValue [.int x1, .int x2] := by
  by_cases hb : zin 0 7 x1 ∧ zin 0 24 x2
  · obtain ⟨g0, g1⟩ := hb
    obtain ⟨x1, h0, rfl⟩ := zin_nat (a := 7) g0
    obtain ⟨x2, h1, rfl⟩ := zin_nat (a := 24) g1
    have k2 := kX2_byValue l D cL cI cR (zown F 30) F hF T top Z P n hTP (zI_24 hI) x1 h0 x2 h1
    have k3 := kX3_byValue l D cL cI cR (zown G 7) G hG C dg Y P n hCP (zI_24 hI) (zI_zz hI) x1 h0 x2 h1 (zI_bd hI h0)
    exact ⟨_, _, _, _, _, ⟨_, _, k2, by decide, by decide⟩, ⟨_, _, k3, by decide, by decide⟩, hI, hV⟩
  · exact ⟨_, _, _, _, _, ⟨_, _, kX2_byValue_bad l D cL cI cR (zown F 30) F hF T top Z P n hTP x1 x2 hb, by decide, by decide⟩, ⟨_, _, kX3_byValue_bad l D cL cI cR (zown G 7) G hG C dg Y P n hCP x1 x2 hb, by decide, by decide⟩, hI, hV⟩
theorem zDo_setValue (l : Launch) (D : va_G) (cL cI cR : ClassId) (F G : Nat → Nat) (hF : zq_F (zown F 30) F 30) (hG : zq_F (zown G 7) G 7) (T : Nat → Nat → Int64) (top : Nat → Nat) (Z : zZC) (C : Nat → Nat → Int64) (dg : Nat → Nat) (Y : zZM) (P : Nat → Nat → Int64) (n : Nat → Nat) (hTP : ∀ i, i < 8 → T i = P i ∧ top i = n i) (hCP : ∀ i, i < 8 → C i = P i ∧ dg i = n i) (hI : zInv P n) (hV : ∀ j, j < 17 → (Y.1 j).toInt64 = Z.1 j) (x1 x2 : Int32) : zDo l D cL cI cR F G T top Z C dg Y yX2_setValue wsX2_setValue yX3_setValue wsX3_setValue [.int x1, .int x2] := by
  by_cases hb : zin 0 16 x1 ∧ zin (-134217728) 134217728 x2
  · obtain ⟨g0, h1⟩ := hb
    obtain ⟨x1, h0, rfl⟩ := zin_nat (a := 16) g0
    obtain ⟨pv, rt, en, w, co, lo⟩ := Z
    obtain ⟨vals, found, waits, roots, looks⟩ := Y
    have k2 := kX2_setValue l D cL cI cR (zown F 30) F hF T top pv rt en w co lo P n hTP (zI_24 hI) x1 h0 x2 h1
    have k3 := kX3_setValue l D cL cI cR (zown G 7) G hG C dg vals found waits roots looks P n hCP (zI_24 hI) (zI_zz hI) x1 h0 x2 h1
    have e1 : (vals x1).toInt64 = pv x1 := hV x1 (by omega)
    rw [e1] at k3
    have hV2 : ∀ j, j < 17 → (upd vals x1 x2 j).toInt64 = vp_updL pv x1 x2.toInt64 j := by
      intro j hj
      by_cases e : j = x1
      · simp [upd, vp_updL, e]
      · have h9 : (vals j).toInt64 = pv j := hV j hj
        simp [upd, vp_updL, e, h9]
    exact ⟨_, _, _, _, _, ⟨_, _, k2, by decide, by decide⟩, ⟨_, _, k3, by decide, by decide⟩, hI, hV2⟩
  · exact ⟨_, _, _, _, _, ⟨_, _, kX2_setValue_bad l D cL cI cR (zown F 30) F hF T top Z P n hTP x1 x2 hb, by decide, by decide⟩, ⟨_, _, kX3_setValue_bad l D cL cI cR (zown G 7) G hG C dg Y P n hCP x1 x2 hb, by decide, by decide⟩, hI, hV⟩
theorem zDo_interpolate (l : Launch) (D : va_G) (cL cI cR : ClassId) (F G : Nat → Nat) (hF : zq_F (zown F 30) F 30) (hG : zq_F (zown G 7) G 7) (T : Nat → Nat → Int64) (top : Nat → Nat) (Z : zZC) (C : Nat → Nat → Int64) (dg : Nat → Nat) (Y : zZM) (P : Nat → Nat → Int64) (n : Nat → Nat) (hTP : ∀ i, i < 8 → T i = P i ∧ top i = n i) (hCP : ∀ i, i < 8 → C i = P i ∧ dg i = n i) (hI : zInv P n) (hV : ∀ j, j < 17 → (Y.1 j).toInt64 = Z.1 j) (x1 x2 : Int32) : zDo l D cL cI cR F G T top Z C dg Y yX2_interpolate wsX2_interpolate yX3_interpolate wsX3_interpolate [.int x1, .int x2] := by
  by_cases hb : zin 0 7 x2 ∧ zin 0 4 x1
  · obtain ⟨g1, g0⟩ := hb
    obtain ⟨x1, h0, rfl⟩ := zin_nat (a := 4) g0
    obtain ⟨x2, h1, rfl⟩ := zin_nat (a := 7) g1
    obtain ⟨pv, rt, en, w, co, lo⟩ := Z
    obtain ⟨vals, found, waits, roots, looks⟩ := Y
    have k2 := kX2_interpolate l D cL cI cR (zown F 30) F hF T top pv rt en w co lo P n hTP (zI_24 hI) x2 h1 x1 h0
    have k3 := kX3_interpolate l D cL cI cR (zown G 7) G hG C dg vals found waits roots looks P n hCP (zI_24 hI) (zI_zz hI) x2 h1 x1 h0 pv hV
    exact ⟨_, _, _, _, _, ⟨_, _, k2, by decide, by decide⟩, ⟨_, _, k3, by decide, by decide⟩, zI_int hI x2 h0 _, hV⟩
  · exact ⟨_, _, _, _, _, ⟨_, _, kX2_interpolate_bad l D cL cI cR (zown F 30) F hF T top Z P n hTP x1 x2 hb, by decide, by decide⟩, ⟨_, _, kX3_interpolate_bad l D cL cI cR (zown G 7) G hG C dg Y P n hCP x1 x2 hb, by decide, by decide⟩, hI, hV⟩
theorem zDo_misfit (l : Launch) (D : va_G) (cL cI cR : ClassId) (F G : Nat → Nat) (hF : zq_F (zown F 30) F 30) (hG : zq_F (zown G 7) G 7) (T : Nat → Nat → Int64) (top : Nat → Nat) (Z : zZC) (C : Nat → Nat → Int64) (dg : Nat → Nat) (Y : zZM) (P : Nat → Nat → Int64) (n : Nat → Nat) (hTP : ∀ i, i < 8 → T i = P i ∧ top i = n i) (hCP : ∀ i, i < 8 → C i = P i ∧ dg i = n i) (hI : zInv P n) (hV : ∀ j, j < 17 → (Y.1 j).toInt64 = Z.1 j) (x1 x2 : Int32) : zDo l D cL cI cR F G T top Z C dg Y yX2_misfit wsX2_misfit yX3_misfit wsX3_misfit [.int x1, .int x2] := by
  by_cases hb : zin 0 7 x1 ∧ zin 0 4 x2
  · obtain ⟨g0, g1⟩ := hb
    obtain ⟨x1, h0, rfl⟩ := zin_nat (a := 7) g0
    obtain ⟨x2, h1, rfl⟩ := zin_nat (a := 4) g1
    obtain ⟨pv, rt, en, w, co, lo⟩ := Z
    obtain ⟨vals, found, waits, roots, looks⟩ := Y
    have k2 := kX2_misfit l D cL cI cR (zown F 30) F hF T top pv rt en w co lo P n hTP (zI_24 hI) x1 h0 x2 h1
    have k3 := kX3_misfit l D cL cI cR (zown G 7) G hG C dg vals found waits roots looks P n hCP (zI_24 hI) (zI_zz hI) x1 h0 x2 h1 pv hV
    exact ⟨_, _, _, _, _, ⟨_, _, k2, by decide, by decide⟩, ⟨_, _, k3, by decide, by decide⟩, hI, hV⟩
  · exact ⟨_, _, _, _, _, ⟨_, _, kX2_misfit_bad l D cL cI cR (zown F 30) F hF T top Z P n hTP x1 x2 hb, by decide, by decide⟩, ⟨_, _, kX3_misfit_bad l D cL cI cR (zown G 7) G hG C dg Y P n hCP x1 x2 hb, by decide, by decide⟩, hI, hV⟩
theorem zDo_intervals (l : Launch) (D : va_G) (cL cI cR : ClassId) (F G : Nat → Nat) (hF : zq_F (zown F 30) F 30) (hG : zq_F (zown G 7) G 7) (T : Nat → Nat → Int64) (top : Nat → Nat) (Z : zZC) (C : Nat → Nat → Int64) (dg : Nat → Nat) (Y : zZM) (P : Nat → Nat → Int64) (n : Nat → Nat) (hTP : ∀ i, i < 8 → T i = P i ∧ top i = n i) (hCP : ∀ i, i < 8 → C i = P i ∧ dg i = n i) (hI : zInv P n) (hV : ∀ j, j < 17 → (Y.1 j).toInt64 = Z.1 j) (x1 : Int32) : zDo l D cL cI cR F G T top Z C dg Y yX2_intervals wsX2_intervals yX3_intervals wsX3_intervals [.int x1] := by
  by_cases hb : zin 0 7 x1
  · have g0 := hb
    obtain ⟨x1, h0, rfl⟩ := zin_nat (a := 7) g0
    obtain ⟨pv, rt, en, w, co, lo⟩ := Z
    obtain ⟨vals, found, waits, roots, looks⟩ := Y
    have k2 := kX2_intervals l D cL cI cR (zown F 30) F hF T top pv rt en w co lo P n hTP (zI_24 hI) x1 h0
    have k3 := kX3_intervals l D cL cI cR (zown G 7) G hG C dg vals found waits roots looks P n hCP (zI_24 hI) (zI_zz hI) x1 h0
    exact ⟨_, _, _, _, _, ⟨_, _, k2, by decide, by decide⟩, ⟨_, _, k3, by decide, by decide⟩, hI, hV⟩
  · exact ⟨_, _, _, _, _, ⟨_, _, kX2_intervals_bad l D cL cI cR (zown F 30) F hF T top Z P n hTP x1 hb, by decide, by decide⟩, ⟨_, _, kX3_intervals_bad l D cL cI cR (zown G 7) G hG C dg Y P n hCP x1 hb, by decide, by decide⟩, hI, hV⟩
theorem zDo_greatest (l : Launch) (D : va_G) (cL cI cR : ClassId) (F G : Nat → Nat) (hF : zq_F (zown F 30) F 30) (hG : zq_F (zown G 7) G 7) (T : Nat → Nat → Int64) (top : Nat → Nat) (Z : zZC) (C : Nat → Nat → Int64) (dg : Nat → Nat) (Y : zZM) (P : Nat → Nat → Int64) (n : Nat → Nat) (hTP : ∀ i, i < 8 → T i = P i ∧ top i = n i) (hCP : ∀ i, i < 8 → C i = P i ∧ dg i = n i) (hI : zInv P n) (hV : ∀ j, j < 17 → (Y.1 j).toInt64 = Z.1 j) (x1 : Int32) : zDo l D cL cI cR F G T top Z C dg Y yX2_greatest wsX2_greatest yX3_greatest wsX3_greatest [.int x1] := by
  by_cases hb : zin 0 7 x1
  · have g0 := hb
    obtain ⟨x1, h0, rfl⟩ := zin_nat (a := 7) g0
    obtain ⟨pv, rt, en, w, co, lo⟩ := Z
    obtain ⟨vals, found, waits, roots, looks⟩ := Y
    have k2 := kX2_greatest l D cL cI cR (zown F 30) F hF T top pv rt en w co lo P n hTP (zI_24 hI) x1 h0
    have k3 := kX3_greatest l D cL cI cR (zown G 7) G hG C dg vals found waits roots looks P n hCP (zI_24 hI) (zI_zz hI) x1 h0 (zke_or (ztop_of 48 (fun j hj _ => zder_0 _ _ j (by have := zI_24 hI x1 (by omega); omega))))
    exact ⟨_, _, _, _, _, ⟨_, _, k2, by decide, by decide⟩, ⟨_, _, k3, by decide, by decide⟩, hI, hV⟩
  · exact ⟨_, _, _, _, _, ⟨_, _, kX2_greatest_bad l D cL cI cR (zown F 30) F hF T top Z P n hTP x1 hb, by decide, by decide⟩, ⟨_, _, kX3_greatest_bad l D cL cI cR (zown G 7) G hG C dg Y P n hCP x1 hb, by decide, by decide⟩, hI, hV⟩
theorem zDo_extremePoint (l : Launch) (D : va_G) (cL cI cR : ClassId) (F G : Nat → Nat) (hF : zq_F (zown F 30) F 30) (hG : zq_F (zown G 7) G 7) (T : Nat → Nat → Int64) (top : Nat → Nat) (Z : zZC) (C : Nat → Nat → Int64) (dg : Nat → Nat) (Y : zZM) (P : Nat → Nat → Int64) (n : Nat → Nat) (hTP : ∀ i, i < 8 → T i = P i ∧ top i = n i) (hCP : ∀ i, i < 8 → C i = P i ∧ dg i = n i) (hI : zInv P n) (hV : ∀ j, j < 17 → (Y.1 j).toInt64 = Z.1 j) (x1 x2 : Int32) : zDo l D cL cI cR F G T top Z C dg Y yX2_extremePoint wsX2_extremePoint yX3_extremePoint wsX3_extremePoint [.int x1, .int x2] := by
  by_cases g0 : zin 0 4 x1
  · obtain ⟨x1, h0, rfl⟩ := zin_nat (a := 4) g0
    by_cases g1 : zin 0 (2 ^ x1 : Nat) x2
    · obtain ⟨x2, h1, rfl⟩ := zin_nat (a := 2 ^ x1) g1
      have k2 := kX2_extremePoint l D cL cI cR (zown F 30) F hF T top Z P n hTP (zI_24 hI) x1 h0 x2 h1
      have k3 := kX3_extremePoint l D cL cI cR (zown G 7) G hG C dg Y P n hCP (zI_24 hI) (zI_zz hI) x1 h0 x2 h1
      exact ⟨_, _, _, _, _, ⟨_, _, k2, by decide, by decide⟩, ⟨_, _, k3, by decide, by decide⟩, hI, hV⟩
    · have k2 := kX2_extremePoint_bad2 l D cL cI cR (zown F 30) F hF T top Z P n hTP x1 h0 x2 g1
      have k3 := kX3_extremePoint_bad2 l D cL cI cR (zown G 7) G hG C dg Y P n hCP x1 h0 x2 g1
      exact ⟨_, _, _, _, _, ⟨_, _, k2, by decide, by decide⟩, ⟨_, _, k3, by decide, by decide⟩, hI, hV⟩
  · have k2 := kX2_extremePoint_bad1 l D cL cI cR (zown F 30) F hF T top Z P n hTP x1 x2 g0
    have k3 := kX3_extremePoint_bad1 l D cL cI cR (zown G 7) G hG C dg Y P n hCP x1 x2 g0
    exact ⟨_, _, _, _, _, ⟨_, _, k2, by decide, by decide⟩, ⟨_, _, k3, by decide, by decide⟩, hI, hV⟩
theorem zDo_root (l : Launch) (D : va_G) (cL cI cR : ClassId) (F G : Nat → Nat) (hF : zq_F (zown F 30) F 30) (hG : zq_F (zown G 7) G 7) (T : Nat → Nat → Int64) (top : Nat → Nat) (Z : zZC) (C : Nat → Nat → Int64) (dg : Nat → Nat) (Y : zZM) (P : Nat → Nat → Int64) (n : Nat → Nat) (hTP : ∀ i, i < 8 → T i = P i ∧ top i = n i) (hCP : ∀ i, i < 8 → C i = P i ∧ dg i = n i) (hI : zInv P n) (hV : ∀ j, j < 17 → (Y.1 j).toInt64 = Z.1 j) (x1 x2 : Int32) : zDo l D cL cI cR F G T top Z C dg Y yX2_root wsX2_root yX3_root wsX3_root [.int x1, .int x2] := by
  by_cases hb : zin 0 7 x1 ∧ -1 ≤ x2.toInt
  · obtain ⟨g0, h1⟩ := hb
    obtain ⟨x1, h0, rfl⟩ := zin_nat (a := 7) g0
    obtain ⟨pv, rt, en, w, co, lo⟩ := Z
    obtain ⟨vals, found, waits, roots, looks⟩ := Y
    have k2 := kX2_root l D cL cI cR (zown F 30) F hF T top pv rt en w co lo P n hTP (zI_24 hI) x1 h0 x2 h1
    have k3 := kX3_root l D cL cI cR (zown G 7) G hG C dg vals found waits roots looks P n hCP (zI_24 hI) (zI_zz hI) x1 h0 x2 h1
    exact ⟨_, _, _, _, _, ⟨_, _, k2, by decide, by decide⟩, ⟨_, _, k3, by decide, by decide⟩, hI, hV⟩
  · have k2 := kX2_root_bad l D cL cI cR (zown F 30) F hF T top Z P n hTP x1 x2 hb
    have k3 := kX3_root_bad l D cL cI cR (zown G 7) G hG C dg Y P n hCP x1 x2 hb
    exact ⟨_, _, _, _, _, ⟨_, _, k2, by decide, by decide⟩, ⟨_, _, k3, by decide, by decide⟩, hI, hV⟩
theorem zDo_sample (l : Launch) (D : va_G) (cL cI cR : ClassId) (F G : Nat → Nat) (hF : zq_F (zown F 30) F 30) (hG : zq_F (zown G 7) G 7) (T : Nat → Nat → Int64) (top : Nat → Nat) (Z : zZC) (C : Nat → Nat → Int64) (dg : Nat → Nat) (Y : zZM) (P : Nat → Nat → Int64) (n : Nat → Nat) (hTP : ∀ i, i < 8 → T i = P i ∧ top i = n i) (hCP : ∀ i, i < 8 → C i = P i ∧ dg i = n i) (hI : zInv P n) (hV : ∀ j, j < 17 → (Y.1 j).toInt64 = Z.1 j) (hsm : ∀ a q j, a ≤ 7 → q ≤ 4 → j ≤ 2 ^ q → zabs (zsv (P a) (n a) q j) ≤ 134217728 → (zsv (P a) (n a) q j).toInt32.toInt64 = zsv (P a) (n a) q j) (x1 x2 : Int32) : zDo l D cL cI cR F G T top Z C dg Y yX2_sample wsX2_sample yX3_sample wsX3_sample [.int x1, .int x2] := by
  by_cases hb : zin 0 7 x1 ∧ zin 0 4 x2
  · obtain ⟨g0, g1⟩ := hb
    obtain ⟨x1, h0, rfl⟩ := zin_nat (a := 7) g0
    obtain ⟨x2, h1, rfl⟩ := zin_nat (a := 4) g1
    obtain ⟨pv, rt, en, w, co, lo⟩ := Z
    obtain ⟨vals, found, waits, roots, looks⟩ := Y
    have k2 := kX2_sample l D cL cI cR (zown F 30) F hF T top pv rt en w co lo P n hTP (zI_24 hI) x1 h0 x2 h1
    have k3 := kX3_sample l D cL cI cR (zown G 7) G hG C dg vals found waits roots looks P n hCP (zI_24 hI) (zI_zz hI) x1 h0 x2 h1
    refine ⟨_, _, _, _, _, ⟨_, _, k2, by decide, by decide⟩, ⟨_, _, k3, by decide, by decide⟩, hI, fun j hj => ?_⟩
    have h9 : (vals j).toInt64 = pv j := hV j hj
    split
    · rename_i hok
      unfold zspv
      dsimp only
      split
      · rename_i hj2
        exact hsm x1 x2 j h0 h1 hj2 (zsok_at hok j (by omega))
      · exact h9
    · exact h9
  · have k2 := kX2_sample_bad l D cL cI cR (zown F 30) F hF T top Z P n hTP x1 x2 hb
    have k3 := kX3_sample_bad l D cL cI cR (zown G 7) G hG C dg Y P n hCP x1 x2 hb
    exact ⟨_, _, _, _, _, ⟨_, _, k2, by decide, by decide⟩, ⟨_, _, k3, by decide, by decide⟩, hI, hV⟩
