/-! the law, from its entry -/
theorem law_int {s : State} {args : Array Value} (h : (Cond.arrayClass .int).before args s = true) : ∃ cI : ClassId, ArrOfT s cI .int ∧ va_RA s cI .int := by
  obtain ⟨cA, kA, comp, h1, h2, h3⟩ := Cond.arrayClass_spec h
  exact ⟨cA, fun n z => ⟨fun k h => (by cases h), kA, h2, comp, h3⟩, h1⟩
theorem law_one {q0 q : Nat} {e : va_E} {sz : Nat} (h : va_A [(q0, e)] sz q) : q = q0 ∨ sz ≤ q := by
  rcases h with ⟨k, x, h⟩ | h
  · cases k with
    | zero => exact Or.inl (congrArg Prod.fst (Option.some.inj h)).symm
    | succ k => simp at h
  · exact Or.inr h
theorem law_cos {s : State} {b : Nat} (hts : ∀ w ∈ lw_tbl, w.before #[Value.ref b] s = true) (hgv : (Jvm.Cond.and given_1 narrow_1).before #[Value.ref b] s = true) : ∃ t : Nat, va_Z RX2 "COSINES" "[I" (.ref t) (fun q : Nat => s.heap.size ≤ q) s s.heap ∧ va_T .int t 9 (fun j => .int (zcos j)) (fun q : Nat => s.heap.size ≤ q) s s.heap := by
  have hs := flat_of_before _ hgv
  have hA : ∀ a : Nat, a < s.heap.size → ¬ (fun q : Nat => s.heap.size ≤ q) a := fun a h => Nat.not_le.mpr h
  have h0 : (Cond.arrayOf (.static RX2 "COSINES" "[I") .int).before #[Value.ref b] s = true := hs _ (by decide +kernel)
  have h9 : (Cond.eq (.length (.static RX2 "COSINES" "[I")) (.int (Int32.ofNat 9))).before #[Value.ref b] s = true := hs _ (by decide +kernel)
  have e0 : (Cond.eq (.elem (.static RX2 "COSINES" "[I") (.int (Int32.ofNat 0))) (.int (zcos 0))).before #[Value.ref b] s = true := hs _ (by decide +kernel)
  have e1 : (Cond.eq (.elem (.static RX2 "COSINES" "[I") (.int (Int32.ofNat 1))) (.int (zcos 1))).before #[Value.ref b] s = true := hs _ (by decide +kernel)
  have e2 : (Cond.eq (.elem (.static RX2 "COSINES" "[I") (.int (Int32.ofNat 2))) (.int (zcos 2))).before #[Value.ref b] s = true := hs _ (by decide +kernel)
  have e3 : (Cond.eq (.elem (.static RX2 "COSINES" "[I") (.int (Int32.ofNat 3))) (.int (zcos 3))).before #[Value.ref b] s = true := hs _ (by decide +kernel)
  have e4 : (Cond.eq (.elem (.static RX2 "COSINES" "[I") (.int (Int32.ofNat 4))) (.int (zcos 4))).before #[Value.ref b] s = true := hs _ (by decide +kernel)
  have e5 : (Cond.eq (.elem (.static RX2 "COSINES" "[I") (.int (Int32.ofNat 5))) (.int (zcos 5))).before #[Value.ref b] s = true := hs _ (by decide +kernel)
  have e6 : (Cond.eq (.elem (.static RX2 "COSINES" "[I") (.int (Int32.ofNat 6))) (.int (zcos 6))).before #[Value.ref b] s = true := hs _ (by decide +kernel)
  have e7 : (Cond.eq (.elem (.static RX2 "COSINES" "[I") (.int (Int32.ofNat 7))) (.int (zcos 7))).before #[Value.ref b] s = true := hs _ (by decide +kernel)
  have e8 : (Cond.eq (.elem (.static RX2 "COSINES" "[I") (.int (Int32.ofNat 8))) (.int (zcos 8))).before #[Value.ref b] s = true := hs _ (by decide +kernel)
  have hel : ∀ j : Nat, j < 9 → (Term.elem (.static RX2 "COSINES" "[I") (.int (Int32.ofNat j))).eval #[Value.ref b] s none [] s = some ((fun j => Value.int (zcos j)) j) := by
    intro j hj
    match j, hj with
    | 0, _ => exact va_eqt e0
    | 1, _ => exact va_eqt e1
    | 2, _ => exact va_eqt e2
    | 3, _ => exact va_eqt e3
    | 4, _ => exact va_eqt e4
    | 5, _ => exact va_eqt e5
    | 6, _ => exact va_eqt e6
    | 7, _ => exact va_eqt e7
    | 8, _ => exact va_eqt e8
    | j + 9, h => omega
  obtain ⟨t, ht, hT⟩ := va_Tof (ty := .int) (N := 9) (f := fun j => .int (zcos j)) (A := fun q : Nat => s.heap.size ≤ q) (by decide) h0 (va_eqt h9) hel hA
  exact ⟨t, va_Zref (hts (.laysStatic RX2 "COSINES" "[I") (List.mem_append_right _ (List.mem_of_getElem? (i := 388) (by decide +kernel)))) (hts (.initialized RX2) (List.mem_append_right _ (List.mem_of_getElem? (i := 1) (by decide +kernel)))) ht hA, hT⟩
set_option maxHeartbeats 4000000 in
set_option maxRecDepth 100000 in
/-- THE LAW, from its entry -/
theorem whole_start {p : Program} {e : Env} {s : State} {m : MethodId} {below : List Frame} {meth : Method} {c : Code} (l : Launch) (hflags : l.flags = flags0) {b L : Nat} {xs : Nat → Int32} (hL : L ≤ 260) (C0 : lw_At p s m meth c b L xs) : W p l e room_1 s m #[Value.ref b] below meth c s.heap [] 0 0 (lw_Z below #[Value.ref b] s) (entryFrame m ([Value.ref b] : List Value).toArray 6) := by
  obtain ⟨hx, hb, hr, hml, hown, hts0, hX, hbl, hlocks, hgv⟩ := id C0
  have hb : c.code = cL_law := hb
  have hown : s.vm.findClass RL = some m.cls := hown
  have hts : ∀ w ∈ wsL_law, w.before #[Value.ref b] s = true := fun w h => hts0 w (wsL_law_in w h)
  have h1 : ∀ w ∈ wsL_law_r1, w.before #[Value.ref b] s = true := fun w h => hts0 w (wsL_law_r1_in w h).1
  have hA : ∀ q : Nat, s.heap.size ≤ q → (fun q : Nat => s.heap.size ≤ q) q := fun _ h => h
  obtain ⟨tc, hZc, hTc⟩ := law_cos hts0 hgv
  obtain ⟨c0, i0, kn0⟩ := u_known (C := RX0) (T := TX0) (N := 5) (n := 5) hts inlX0 (h1 (.instantiable RX0 5) (by decide +kernel))
  obtain ⟨c1, i1, kn1⟩ := u_known (C := RX1) (T := TX1) (N := 2) (n := 2) hts inlX1 (h1 (.instantiable RX1 2) (by decide +kernel))
  obtain ⟨c2, i2, kn2⟩ := u_known (C := RX2) (T := TX2) (N := 7) (n := 7) hts inlX2 (h1 (.instantiable RX2 7) (by decide +kernel))
  obtain ⟨D, hKc⟩ : ∃ D : va_G, ∀ (k : Nat) (q : vw_C), vwCl[k]? = some q → u_Kn s q.1 q.2.1 q.2.2 (D.1 k) (D.2 k) := by
    refine ⟨(fun k => if k = 0 then c0 else if k = 1 then c1 else c2, fun k => if k = 0 then i0 else if k = 1 then i1 else i2), ?_⟩
    intro k q hq
    match k, hq with
    | 0, hq => cases hq; exact kn0
    | 1, hq => cases hq; exact kn1
    | 2, hq => cases hq; exact kn2
    | k + 3, hq => simp [vwCl] at hq
  have hAO : va_AO RX1 s := va_AO.of (hts0 (.arrayOver (.object RX1)) (List.mem_append_right _ (List.mem_of_getElem? (i := 15) (by decide +kernel))))
  have hN21 : va_Nw (.methodLinkNest RX2 21 yX0_init RX2) s := va_Nw.of rfl (hts0 (.methodLinkNest RX2 21 yX0_init RX2) (List.mem_append_right _ (List.mem_of_getElem? (i := 18) (by decide +kernel))))
  have hN26 : va_Nw (.methodLinkNest RX2 26 yX1_init RX2) s := va_Nw.of rfl (hts0 (.methodLinkNest RX2 26 yX1_init RX2) (List.mem_append_right _ (List.mem_of_getElem? (i := 40) (by decide +kernel))))
  have hN45 : va_Nw (.methodLinkNest RX1 45 yX2_rounded RX2) s := va_Nw.of rfl (hts0 (.methodLinkNest RX1 45 yX2_rounded RX2) (List.mem_append_right _ (List.mem_of_getElem? (i := 134) (by decide +kernel))))
  have hN83 : va_Nw (.methodLinkNest RX0 83 yX2_rounded RX2) s := va_Nw.of rfl (hts0 (.methodLinkNest RX0 83 yX2_rounded RX2) (List.mem_append_right _ (List.mem_of_getElem? (i := 339) (by decide +kernel))))
  have hS : va_S (fun q : Nat => s.heap.size ≤ q) s.heap s.heap [] := va_S.rf
  have hK : va_K D vwCl [] s := ⟨hKc, fun k q h => by simp at h⟩
  have hP : va_P D vwCl [] s.heap := fun k q h => by simp at h
  have hD : va_D (fun q : Nat => s.heap.size ≤ q) [] := ⟨fun i j p q h => by simp at h, fun k q h => by simp at h⟩
  have hl := lv_entry ([.ref b]) (n := 6) (Nat.le_of_ble_eq_true rfl)
  rw [lg_entry_eq]
  generalize (lg_sl ([.ref b]) ++ List.replicate (6 - (lg_sl ([.ref b])).length) Slot.unset).toArray = ls at hl ⊢
  have hl : lv_has ls 6 [(0, .ref b)] := hl
  refine va_new (ci := 2) (fs := [.null, .null, .null, .null, .null, .null, .null]) (C := RX2) (T := TX2) (N := 7) hx hb hts inlX2 tyX2 tyX2_ok hown (h1 (.classLink RL 10 RX2) (by decide +kernel)) (h1 (.instantiable RX2 7) (by decide +kernel)) (h1 (.initialized RX2) (by decide +kernel)) hK hP hD hS hA rfl (fun j hj => by rcases (show j = 0 ∨ j = 1 ∨ j = 2 ∨ j = 3 ∨ j = 4 ∨ j = 5 ∨ j = 6 by omega) with rfl | rfl | rfl | rfl | rfl | rfl | rfl <;> rfl) (Nat.le_of_ble_eq_true rfl) (Nat.le_of_ble_eq_true rfl) dL_law_0 (fun q0 H hP hD hS => ?_)
  refine W.eq (g2 := F0 m 3 ls [.ref q0]) rfl ?_
  have hP : va_P D vwCl [(q0, .inr (2, [.null, .null, .null, .null, .null, .null, .null]))] H := hP
  have hD : va_D (fun q : Nat => s.heap.size ≤ q) [(q0, .inr (2, [.null, .null, .null, .null, .null, .null, .null]))] := hD
  refine lv_dup hx hb dL_law_3 rfl ?_
  have hFc := va_free (wc := [(q0, .inr (2, [.null, .null, .null, .null, .null, .null, .null]))]) hD hS hA [0] rfl
  refine va_callv (va_runI (As := []) (rest := [.ref q0]) ⟨hx, hb, hml, hown, hts⟩ (kX2_init l D q0 H.size) (cwI 0 hts gL_law_X2_init rfl rfl rfl (h1 (.initialized RX2) (by decide +kernel)) (h1 (.methodLink RL 146 yX2_init) (by decide +kernel)) (h1 (.instanceMethod yX2_init) (by decide +kernel)) rfl (by decide +kernel) ⟨Nat.le_of_ble_eq_true rfl, Nat.le_of_ble_eq_true rfl⟩) ⟨fun a U g mk q => by obtain ⟨z0, z1, qP, qK, qD, qO, qN1, qN2⟩ := q; exact ⟨z0, z1, qP, va_K.moved (u := U) (U := U.calling g mk a) (Vm.Alike.refl U.vm) qK, qD, va_AO.moved (u := U) (U := U.calling g mk a) (Vm.Alike.refl U.vm) qO, va_Nw.same (u := U) (U := U.calling g mk a) rfl rfl qN1, va_Nw.same (u := U) (U := U.calling g mk a) rfl rfl qN2⟩, fun U hU hW => ⟨rfl, by rw [hU], by rw [hU]; exact hP, va_K.moved hW.alike hK, hD.weaken (fun _ _ _ _ => trivial), va_AO.moved hW.alike hAO, va_Nw.warmM hW hN21, va_Nw.warmM hW hN26⟩⟩ rfl rfl hl.1 rfl (lv_room (Nat.le_of_ble_eq_true rfl)) dL_law_4 ⟨Nat.le_of_ble_eq_true rfl, Nat.le_of_ble_eq_true rfl⟩) hS (fun q _ h => hFc q h) hFc (fun u t H1 locs ht hvm hw hB hz1 hk1 hS => ?_)
  obtain ⟨F, cL, cR⟩ := u
  obtain ⟨e24, hP1, hK1, hF1⟩ := hB
  rw [ht] at hP1
  have hK1 := va_K.moved hvm.symm hK1
  have e24 : F 24 = q0 := e24
  have hP : va_P D vwCl (zq_wd F 30 (zCE cL cR F (fun _ _ => 0) (fun _ => 0) ((fun _ => 0), (fun _ => 0), (fun _ => 0), 0, 0, 0))) H1 := hP1
  have hK : va_K D vwCl [(cR, .object RX1), (cL, .long)] s := hK1
  have hF : zq_F (fun q : Nat => s.heap.size ≤ q) F 30 := ⟨hF1.1, fun i hi => hFc _ (hF1.2 i hi)⟩
  refine W.eq (g2 := F0 m 7 ls [.ref (F 24)]) (congrArg (fun z => F0 m 7 ls [Value.ref z]) e24.symm) ?_
  clear hF1 hFc hP1 hk1 hz1 hK1
  obtain ⟨cI, hI1, hI2⟩ := law_int (hts0 (.arrayClass .int) (List.mem_append_right _ (List.mem_of_getElem? (i := 410) (by decide +kernel))))
  have hKK : va_K D vwCl [(cR, .object RX1), (cL, .long), (cI, .int)] s := hK.app (t2 := [(cI, .int)]) ⟨hK.1, fun k q h => by
    cases k with
    | zero => cases h; exact ⟨hI1, hI2⟩
    | succ k => simp at h⟩
  have hAm : zAm D cL cI cR (fun q : Nat => s.heap.size ≤ q) s := ⟨hKK.sub [1, 2, 0] rfl, hN45, hN83, tc, hZc, hTc⟩
  refine W.widen (k := 600000) (n := 7302250) (Nat.le_of_ble_eq_true rfl) (Nat.le_of_ble_eq_true rfl) ?_
  refine lv_astore_n (lv' := [(1, .ref (F 24)), (0, .ref b)]) hx hb dL_law_7 rfl hl (by decide) rfl (fun ls hl => ?_)
  refine lv_iconst (v := nI 1) hx hb dL_law_8 (by decide +kernel) ?_
  refine lv_istore_n (lv' := [(2, .int (nI 1)), (1, .ref (F 24)), (0, .ref b)]) hx hb dL_law_9 rfl hl (by decide) rfl (fun ls hl => ?_)
  refine lv_iconst (v := nI 0) hx hb dL_law_10 (by decide +kernel) ?_
  refine lv_istore_n (lv' := [(3, .int (nI 0)), (2, .int (nI 1)), (1, .ref (F 24)), (0, .ref b)]) hx hb dL_law_11 rfl hl (by decide) rfl (fun ls hl => ?_)
  exact law_loop hL C0 hAm hF 6 0 (by omega) (by omega) _ _ _ (fun _ _ => 0) (fun _ => 0) (fun i hi => ⟨rfl, rfl⟩) zInv_0 H1 locs hP hS ls hl
