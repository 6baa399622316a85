/-! calls from the law: two worlds, of which a call touches one -/
theorem zAm_narrow {D : va_G} {cL cI cR : ClassId} {A B : Nat → Prop} {U : State} (h : zAm D cL cI cR A U) (hAB : ∀ q, B q → A q) : zAm D cL cI cR B U := by
  obtain ⟨hK, h1, h2, t, ⟨cf, kf, fi, f, a, cell, z1, z2, z3, z4, z5, z6, z7, z8⟩, ⟨cl, t1, t2, t3, t4, t5, t6, t7⟩⟩ := h
  exact ⟨hK, h1, h2, t, ⟨cf, kf, fi, f, a, cell, z1, z2, z3, z4, z5, z6, z7, fun hq => z8 (hAB a hq)⟩, ⟨cl, t1, t2, t3, t4, t5, t6, fun hq => t7 (hAB t hq)⟩⟩
abbrev zown (F : Nat → Nat) (n : Nat) : Nat → Prop := fun q => ∃ k, k < n ∧ q = F k
theorem zq_Fself {A : Nat → Prop} {F : Nat → Nat} {n : Nat} (h : zq_F A F n) : zq_F (zown F n) F n := ⟨h.1, fun i hi => ⟨i, hi, rfl⟩⟩
theorem zown_in {A : Nat → Prop} {F : Nat → Nat} {n : Nat} (h : zq_F A F n) : ∀ q, zown F n q → A q := by
  rintro q ⟨k, hk, rfl⟩
  exact h.2 k hk
section ZLC
variable {p : Program} {l : Launch} {e : Env} {R : Room} {s : State} {m : MethodId} {args : Array Value} {below : List Frame} {meth : Method} {c : Code} {H : Heap} {locs : List Loc} {cells slots : Nat} {Q : State → Prop} {cc : ByteArray} {pc : Nat} {ls : Array Slot} {rest : List Value}
variable {D : va_G} {cL cI cR : ClassId} {A0 A1 : Nat → Prop} {F G : Nat → Nat} {n : Nat} {E : Nat → va_E}
theorem zrunL {PQ : Option Value → (Nat → va_E) → Prop} {st0 : List Value} {a : Array Value} {H0 : Heap}
    (hr : va_Run p l e R s m args below meth c H locs cells slots 0 0 (F0 m pc ls st0) rest ((fun (_ : Array Value) (st : State) (oc : Outcome) (t : State) => (∃ (v : Option Value) (E' : Nat → va_E), oc = .returned v ∧ PQ v E' ∧ va_P D vwCl (zq_wd F n E') t.heap) ∧ va_F A1 st t) a) A1) (hS : va_S A0 H0 H locs) (h01 : ∀ q, A1 q → A0 q)
    (kk : ∀ (v : Option Value) (E' : Nat → va_E) (H1 : Heap) (locs1 : List Loc), PQ v E' → va_P D vwCl (zq_wd F n E') H1 → (∀ q : Nat, q < H.size → ¬ A1 q → H1[q]? = H[q]?) → va_S A0 H0 H1 locs1 → W p l e R s m args below meth c H1 locs1 cells slots Q (F0 m (pc + 3) ls (v.toList ++ rest))) : W p l e R s m args below meth c H locs cells slots Q (F0 m pc ls st0) := by
  intro T hT X
  obtain ⟨v, st₀, t, T', L, h0, X', hL, e1, e2, ⟨⟨v', E', hv, hp, hb⟩, hz, hk⟩, st⟩ := hr T hT X
  cases hv
  rw [h0] at hz hk
  obtain ⟨t2, a1, b1⟩ := kk v E' T'.heap (locs ++ L) hp (by rw [e1]; exact hb) (fun q h1 h2 => by rw [e1]; exact hk q h1 h2)
    ⟨Nat.le_trans hS.1 (by rw [e1]; exact hz), fun q h1 h2 => by rw [e1, hk q (Nat.lt_of_lt_of_le h1 hS.1) (fun h => h2 (h01 q h))]; exact hS.2.1 q h1 h2, fun q hq => by
      rcases List.mem_append.mp hq with h | h
      · exact hS.2.2 q h
      · exact h01 _ (hL q h)⟩ T' rfl X'
  exact ⟨t2, st t2 a1, b1⟩
theorem zcallL {Ts ws ws' : List Cond} {own : String} {index fr lo k : Nat} {y : MethodName} {bytes : ByteArray} {maxL nL : Nat} {ret : Option FieldType} {q ci : Nat} {fs : List Value} {r : vw_C} {b : Nat} {As st0 : List Value} {PQ : Option Value → (Nat → va_E) → Prop}
    (hx : p.tables.exec = Jvm.exec) (hb : c.code = cc) (hml : c.maxLocals = nL) (hown : s.vm.findClass own = some m.cls) (hts : ∀ w ∈ Ts, w.before args s = true)
    (hM : zCt l y ws fr lo D cL cI cR A1 F n E (.ref b :: As) PQ) (hT : GoodIn Ts (wsV own index y.cls y ws)) (hw : ws = Cond.code y bytes maxL ret :: ws')
    (hd : y.cls = y.cls ∧ y.cls ≠ "java/lang/invoke/MethodHandle" ∧ y.cls ≠ "java/lang/invoke/VarHandle" ∧ (parseMethodDescriptor y.desc).map (fun d => d.parameters.length) = some k)
    (hR : fr + 1 ≤ R.frames ∧ 8 + (maxL + 11) + lo ≤ R.locals) (hbq : b = F q) (hq : q < n) (hE : E q = .inr (ci, fs)) (hc : vwCl[ci]? = some r) (hrc : r.1 = y.cls)
    (hAm : zAm D cL cI cR A0 s) (hP : va_P D vwCl (zq_wd F n E) H) (hS : va_S A0 s.heap H locs) (h01 : ∀ q, A1 q → A0 q) (hn : As.length = k) (hls : ls.size = nL) (hst : st0 = As.reverse ++ .ref b :: rest) (hrest : (rest.map fun v => v.category).sum ≤ 8) (hdg : decode cc pc = .ok (.invokevirtual index, 3)) (hcs : cells ≤ R.cells ∧ slots ≤ R.slots)
    (kk : ∀ (v : Option Value) (E' : Nat → va_E) (H1 : Heap) (locs1 : List Loc), PQ v E' → va_P D vwCl (zq_wd F n E') H1 → (∀ q : Nat, q < H.size → ¬ A1 q → H1[q]? = H[q]?) → va_S A0 s.heap H1 locs1 → W p l e R s m args below meth c H1 locs1 cells slots Q (F0 m (pc + 3) ls (v.toList ++ rest))) : W p l e R s m args below meth c H locs cells slots Q (F0 m pc ls st0) := by
  subst hbq
  refine zrunL (a := (Value.ref (F q) :: As).toArray) (va_runV (As := As) (rest := rest) ⟨hx, hb, hml, hown, hts⟩ hM (cwV k hts hT hw rfl rfl hd hR) ⟨zblind, by rw [← hrc]; exact zrecv hAm hP hq hE hc, fun U hU hW => ⟨rfl, zAm_narrow (zAm_call hAm hS hU hW) h01, by rw [hU]; exact hP⟩⟩ rfl hn hls hst (lv_room hrest) hdg ⟨hcs.1, hcs.2⟩) hS h01 kk
/-- a call of the class -/
theorem zcallC {Ts ws ws' : List Cond} {own : String} {index fr lo k : Nat} {y : MethodName} {bytes : ByteArray} {maxL nL : Nat} {ret : Option FieldType} {As st0 : List Value} {T : Nat → Nat → Int64} {top : Nat → Nat} {Z : zZC} {r : Int64} {P' : Nat → Nat → Int64} {n' : Nat → Nat} {pv' : Nat → Int64} {EM : Nat → va_E}
    (hx : p.tables.exec = Jvm.exec) (hb : c.code = cc) (hml : c.maxLocals = nL) (hown : s.vm.findClass own = some m.cls) (hts : ∀ w ∈ Ts, w.before args s = true)
    (hM : zCt l y ws fr lo D cL cI cR (zown F 30) F 30 (zCE cL cR F T top Z) (.ref (F 24) :: As) (zPC cL cR F r P' n' pv')) (hT : GoodIn Ts (wsV own index y.cls y ws)) (hw : ws = Cond.code y bytes maxL ret :: ws')
    (hd : y.cls = y.cls ∧ y.cls ≠ "java/lang/invoke/MethodHandle" ∧ y.cls ≠ "java/lang/invoke/VarHandle" ∧ (parseMethodDescriptor y.desc).map (fun d => d.parameters.length) = some k)
    (hR : fr + 1 ≤ R.frames ∧ 8 + (maxL + 11) + lo ≤ R.locals) (hrc : RX2 = y.cls)
    (hAm : zAm D cL cI cR A0 s) (hP : va_P D vwCl (zq_wd F 30 (zCE cL cR F T top Z)) H) (hPM : va_P D vwCl (zq_wd G 7 EM) H) (hF : zq_F A0 F 30) (hFG : ∀ i j, i < 30 → j < 7 → F i ≠ G j) (hS : va_S A0 s.heap H locs) (hn : As.length = k) (hls : ls.size = nL) (hst : st0 = As.reverse ++ .ref (F 24) :: rest) (hrest : (rest.map fun v => v.category).sum ≤ 8) (hdg : decode cc pc = .ok (.invokevirtual index, 3)) (hcs : cells ≤ R.cells ∧ slots ≤ R.slots)
    (kk : ∀ (T' : Nat → Nat → Int64) (top' : Nat → Nat) (Z' : zZC) (H1 : Heap) (locs1 : List Loc), va_P D vwCl (zq_wd F 30 (zCE cL cR F T' top' Z')) H1 → va_P D vwCl (zq_wd G 7 EM) H1 → (∀ i, i < 8 → T' i = P' i ∧ top' i = n' i) → (∀ j, j < 17 → Z'.1 j = pv' j) → va_S A0 s.heap H1 locs1 → W p l e R s m args below meth c H1 locs1 cells slots Q (F0 m (pc + 3) ls (.long r :: rest))) : W p l e R s m args below meth c H locs cells slots Q (F0 m pc ls st0) := by
  refine zcallL hx hb hml hown hts hM hT hw hd hR rfl (by omega) zC_o rfl hrc hAm hP hS (zown_in hF) hn hls hst hrest hdg hcs (fun v E' H1 locs1 hPQ hP1 hk1 hS1 => ?_)
  obtain ⟨T', top', Z', rfl, rfl, h1, h2⟩ := hPQ
  exact kk T' top' Z' H1 locs1 hP1 (zq_kept hPM (fun j hj => hk1 (G j) (zq_lt hPM hj) (fun h => by obtain ⟨i, hi, he⟩ := h; exact hFG i j hi hj he.symm))) h1 h2 hS1
/-- a call of the reference -/
theorem zcallD {Ts ws ws' : List Cond} {own : String} {index fr lo k : Nat} {y : MethodName} {bytes : ByteArray} {maxL nL : Nat} {ret : Option FieldType} {As st0 : List Value} {C : Nat → Nat → Int64} {dg : Nat → Nat} {Y : zZM} {r : Int64} {P' : Nat → Nat → Int64} {n' : Nat → Nat} {vals' : Nat → Int32} {EC : Nat → va_E}
    (hx : p.tables.exec = Jvm.exec) (hb : c.code = cc) (hml : c.maxLocals = nL) (hown : s.vm.findClass own = some m.cls) (hts : ∀ w ∈ Ts, w.before args s = true)
    (hM : zCt l y ws fr lo D cL cI cR (zown G 7) G 7 (zME cL cI G C dg Y) (.ref (G 0) :: As) (zPM cL cI G r P' n' vals')) (hT : GoodIn Ts (wsV own index y.cls y ws)) (hw : ws = Cond.code y bytes maxL ret :: ws')
    (hd : y.cls = y.cls ∧ y.cls ≠ "java/lang/invoke/MethodHandle" ∧ y.cls ≠ "java/lang/invoke/VarHandle" ∧ (parseMethodDescriptor y.desc).map (fun d => d.parameters.length) = some k)
    (hR : fr + 1 ≤ R.frames ∧ 8 + (maxL + 11) + lo ≤ R.locals) (hrc : RX3 = y.cls)
    (hAm : zAm D cL cI cR A0 s) (hPC : va_P D vwCl (zq_wd F 30 EC) H) (hP : va_P D vwCl (zq_wd G 7 (zME cL cI G C dg Y)) H) (hG : zq_F A0 G 7) (hFG : ∀ i j, i < 30 → j < 7 → F i ≠ G j) (hS : va_S A0 s.heap H locs) (hn : As.length = k) (hls : ls.size = nL) (hst : st0 = As.reverse ++ .ref (G 0) :: rest) (hrest : (rest.map fun v => v.category).sum ≤ 8) (hdg : decode cc pc = .ok (.invokevirtual index, 3)) (hcs : cells ≤ R.cells ∧ slots ≤ R.slots)
    (kk : ∀ (C' : Nat → Nat → Int64) (dg' : Nat → Nat) (Y' : zZM) (H1 : Heap) (locs1 : List Loc), va_P D vwCl (zq_wd F 30 EC) H1 → va_P D vwCl (zq_wd G 7 (zME cL cI G C' dg' Y')) H1 → (∀ i, i < 8 → C' i = P' i ∧ dg' i = n' i) → (∀ j, j < 17 → Y'.1 j = vals' j) → va_S A0 s.heap H1 locs1 → W p l e R s m args below meth c H1 locs1 cells slots Q (F0 m (pc + 3) ls (.long r :: rest))) : W p l e R s m args below meth c H locs cells slots Q (F0 m pc ls st0) := by
  refine zcallL hx hb hml hown hts hM hT hw hd hR rfl (by omega) zM_o rfl hrc hAm hP hS (zown_in hG) hn hls hst hrest hdg hcs (fun v E' H1 locs1 hPQ hP1 hk1 hS1 => ?_)
  obtain ⟨C', dg', Y', rfl, rfl, h1, h2⟩ := hPQ
  exact kk C' dg' Y' H1 locs1 (zq_kept hPC (fun i hi => hk1 (F i) (zq_lt hPC hi) (fun h => by obtain ⟨j, hj, he⟩ := h; exact hFG i j hi hj he))) hP1 h1 h2 hS1
end ZLC
