/-! what a launch gives to every method: classes, nest mates, the table of cosines -/
def zAm (D : va_G) (cL cI cR : ClassId) (A : Nat → Prop) (U : State) : Prop :=
  va_K D vwCl [(cL, .long), (cI, .int), (cR, .object RX1)] U ∧ va_Nw (.methodLinkNest RX1 45 yX2_rounded RX2) U ∧ va_Nw (.methodLinkNest RX0 83 yX2_rounded RX2) U ∧
  ∃ t : Nat, va_Z RX2 "COSINES" "[I" (.ref t) A U U.heap ∧ va_T .int t 9 (fun j => .int (zcos j)) A U U.heap
theorem zAm_call {D : va_G} {cL cI cR : ClassId} {A : Nat → Prop} {s U : State} {H : Heap} {locs : List Loc} (h : zAm D cL cI cR A s) (hS : va_S A s.heap H locs) (hU : U.heap = H) (hW : s.WarmedH U.vm) : zAm D cL cI cR A U := by
  obtain ⟨hK, h1, h2, t, hZ, hT⟩ := h
  refine ⟨va_K.moved hW.alike hK, va_Nw.warmM hW h1, va_Nw.warmM hW h2, t, ?_, ?_⟩
  · rw [hU]; exact (hZ.kept hS.2.1).moved hW.alike
  · rw [hU]; exact (hT.kept hS.2.1).moved hW.alike
theorem zAm_blind {D : va_G} {cL cI cR : ClassId} {A : Nat → Prop} {U : State} {g : JFrame} {mk : MethodId} {a : Array Value} (h : zAm D cL cI cR A U) : zAm D cL cI cR A (U.calling g mk a) := by
  obtain ⟨hK, h1, h2, t, hZ, hT⟩ := h
  exact ⟨va_K.moved (u := U) (U := U.calling g mk a) (Vm.Alike.refl U.vm) hK, va_Nw.same (u := U) (U := U.calling g mk a) rfl rfl h1, va_Nw.same (u := U) (U := U.calling g mk a) rfl rfl h2, t, va_Z.moved (u := U) (U := U.calling g mk a) (Vm.Alike.refl U.vm) hZ, va_T.moved (u := U) (U := U.calling g mk a) (Vm.Alike.refl U.vm) hT⟩
/-- a contract: from the world E, with the values av, to an answer and a world of which PQ speaks; no cell is made -/
def zCt (l : Launch) (y : MethodName) (ws : List Cond) (fr lo : Nat) (D : va_G) (cL cI cR : ClassId) (A : Nat → Prop) (F : Nat → Nat) (n : Nat) (E : Nat → va_E) (av : List Value) (PQ : Option Value → (Nat → va_E) → Prop) : Prop :=
  Met l y ws ({ frames := fr, cells := 0, slots := 0, locals := lo }) (va_Pc av (fun U => zAm D cL cI cR A U ∧ va_P D vwCl (zq_wd F n E) U.heap)) (fun _ st oc t => (∃ (v : Option Value) (E' : Nat → va_E), oc = .returned v ∧ PQ v E' ∧ va_P D vwCl (zq_wd F n E') t.heap) ∧ va_F A st t) 0 0 A
/-- the same where answer and world are known -/
abbrev zCf (l : Launch) (y : MethodName) (ws : List Cond) (fr lo : Nat) (D : va_G) (cL cI cR : ClassId) (A : Nat → Prop) (F : Nat → Nat) (n : Nat) (E : Nat → va_E) (av : List Value) (v : Option Value) (E' : Nat → va_E) : Prop :=
  zCt l y ws fr lo D cL cI cR A F n E av (fun v2 E2 => v2 = v ∧ E2 = E')
abbrev zQ (below : List Frame) (D : va_G) (A : Nat → Prop) (F : Nat → Nat) (n : Nat) (av : List Value) (s : State) (PQ : Option Value → (Nat → va_E) → Prop) : State → Prop :=
  MQ below (fun _ st oc t => (∃ (v : Option Value) (E' : Nat → va_E), oc = .returned v ∧ PQ v E' ∧ va_P D vwCl (zq_wd F n E') t.heap) ∧ va_F A st t) av.toArray s 0 0 A
theorem zStart {l : Launch} {y : MethodName} {ws ws' : List Cond} {fr lo : Nat} {D : va_G} {cL cI cR : ClassId} {A : Nat → Prop} {F : Nat → Nat} {n : Nat} {E : Nat → va_E} {av : List Value} {PQ : Option Value → (Nat → va_E) → Prop} {cc : ByteArray} {maxL : Nat} {ret : Option FieldType}
    (hy : plainName y.cls = true) (hw : ws = Cond.code y cc maxL ret :: ws') (hlen : (lg_sl av).length ≤ maxL)
    (body : ∀ (p : Program) (e : Env) (s : State) (m : MethodId) (below : List Frame) (meth : Method) (c : Code), p.tables.exec = Jvm.exec → c.code = cc → meth.sig.returnType = ret → c.maxLocals = maxL → meth.locks = false → s.vm.findClass y.cls = some m.cls →
      (∀ w ∈ ws, w.before av.toArray s = true) → zAm D cL cI cR A s → ∀ (H : Heap), va_P D vwCl (zq_wd F n E) H → va_S A s.heap H [] → ∀ (ls : Array Slot), lv_has ls maxL (lv_args 0 av) →
      W p l e ({ frames := fr, cells := 0, slots := 0, locals := lo }) s m av.toArray below meth c H [] 0 0 (zQ below D A F n av s PQ) (F0 m 0 ls [])) : zCt l y ws fr lo D cL cI cR A F n E av PQ := by
  refine Met.ofW (cc := cc) (maxL := maxL) (ret := ret) hy hw ?_
  intro p e s m args below meth c s₁ B hml hv
  obtain ⟨rfl, hAm, hP⟩ := hv
  have hts := atoms_spec (ws := ws) B.pre
  have hown : s.vm.findClass y.cls = some m.cls := findClass_of_methodNamed B.named
  have hl := lv_entry av (n := maxL) hlen
  rw [lg_entry_eq]
  exact body p e s m below meth c B.exec B.bytes B.returns hml B.notSynchronized hown hts hAm s.heap hP va_S.rf _ hl
theorem zStartF {l : Launch} {y : MethodName} {ws ws' : List Cond} {fr lo : Nat} {D : va_G} {cL cI cR : ClassId} {A : Nat → Prop} {F : Nat → Nat} {n : Nat} {E : Nat → va_E} {av : List Value} {PQ : Option Value → (Nat → va_E) → Prop} {cc : ByteArray} {maxL : Nat} {ret : Option FieldType}
    (hy : plainFor y = true) (hw : ws = Cond.code y cc maxL ret :: ws') (hlen : (lg_sl av).length ≤ maxL)
    (body : ∀ (p : Program) (e : Env) (s : State) (m : MethodId) (below : List Frame) (meth : Method) (c : Code), p.tables.exec = Jvm.exec → c.code = cc → meth.sig.returnType = ret → c.maxLocals = maxL → meth.locks = false → s.vm.findClass y.cls = some m.cls →
      (∀ w ∈ ws, w.before av.toArray s = true) → zAm D cL cI cR A s → ∀ (H : Heap), va_P D vwCl (zq_wd F n E) H → va_S A s.heap H [] → ∀ (ls : Array Slot), lv_has ls maxL (lv_args 0 av) →
      W p l e ({ frames := fr, cells := 0, slots := 0, locals := lo }) s m av.toArray below meth c H [] 0 0 (zQ below D A F n av s PQ) (F0 m 0 ls [])) : zCt l y ws fr lo D cL cI cR A F n E av PQ := by
  refine va_MetF (cc := cc) (maxL := maxL) (ret := ret) hy hw ?_
  intro p e s m args below meth c s₁ B hml hv
  obtain ⟨rfl, hAm, hP⟩ := hv
  have hts := atoms_spec (ws := ws) B.pre
  have hown : s.vm.findClass y.cls = some m.cls := findClass_of_methodNamed B.named
  have hl := lv_entry av (n := maxL) hlen
  rw [lg_entry_eq]
  exact body p e s m below meth c B.exec B.bytes B.returns hml B.notSynchronized hown hts hAm s.heap hP va_S.rf _ hl
section ZW
variable {p : Program} {l : Launch} {e : Env} {R : Room} {s : State} {m : MethodId} {args : Array Value} {below : List Frame} {meth : Method} {c : Code} {H : Heap} {locs : List Loc} {cells slots : Nat} {Q : State → Prop}
variable {cc : ByteArray} {pc : Nat} {ls : Array Slot} {rest : List Value} {D : va_G} {cL cI cR : ClassId} {A : Nat → Prop} {F : Nat → Nat} {n : Nat} {E : Nat → va_E} {H0 : Heap}
/-! ends -/
theorem zretL {av : List Value} {PQ : Option Value → (Nat → va_E) → Prop} {r : Int64} (hx : p.tables.exec = Jvm.exec) (hb : c.code = cc) (hr : meth.sig.returnType = some .long) (hlk : meth.locks = false) (hS : va_S A s.heap H locs) (hP : va_P D vwCl (zq_wd F n E) H) (hdg : decode cc pc = .ok (.lreturn, 1)) (hq : PQ (some (.long r)) E) :
    W p l e R s m av.toArray below meth c H locs 0 0 (zQ below D A F n av s PQ) (F0 m pc ls [.long r]) :=
  W.lret hx hb hr (fun t ht _ => ⟨⟨_, E, rfl, hq, by rw [ht]; exact hP⟩, hS.F ht⟩) hS.2.2 hdg (hlocks := hlk)
theorem zretI {av : List Value} {PQ : Option Value → (Nat → va_E) → Prop} {r : Int32} (hx : p.tables.exec = Jvm.exec) (hb : c.code = cc) (hr : meth.sig.returnType = some .int) (hlk : meth.locks = false) (hS : va_S A s.heap H locs) (hP : va_P D vwCl (zq_wd F n E) H) (hdg : decode cc pc = .ok (.ireturn, 1)) (hq : PQ (some (.int r)) E) :
    W p l e R s m av.toArray below meth c H locs 0 0 (zQ below D A F n av s PQ) (F0 m pc ls [.int r]) :=
  W.iret hx hb hr (fun t ht _ => ⟨⟨_, E, rfl, hq, by rw [ht]; exact hP⟩, hS.F ht⟩) hS.2.2 hdg (hlocks := hlk)
theorem zretZ {av : List Value} {PQ : Option Value → (Nat → va_E) → Prop} {r : Int32} (hx : p.tables.exec = Jvm.exec) (hb : c.code = cc) (hr : meth.sig.returnType = some .boolean) (hlk : meth.locks = false) (hS : va_S A s.heap H locs) (hP : va_P D vwCl (zq_wd F n E) H) (hn : narrow .boolean (.int r) = .int r) (hdg : decode cc pc = .ok (.ireturn, 1)) (hq : PQ (some (.int r)) E) :
    W p l e R s m av.toArray below meth c H locs 0 0 (zQ below D A F n av s PQ) (F0 m pc ls [.int r]) :=
  W.zret hx hb hr hn (fun t ht _ => ⟨⟨_, E, rfl, hq, by rw [ht]; exact hP⟩, hS.F ht⟩) hS.2.2 hdg (hlocks := hlk)
theorem zretV {av : List Value} {PQ : Option Value → (Nat → va_E) → Prop} (hx : p.tables.exec = Jvm.exec) (hb : c.code = cc) (hr : meth.sig.returnType = none) (hlk : meth.locks = false) (hS : va_S A s.heap H locs) (hP : va_P D vwCl (zq_wd F n E) H) (hdg : decode cc pc = .ok (.return_, 1)) (hq : PQ none E) :
    W p l e R s m av.toArray below meth c H locs 0 0 (zQ below D A F n av s PQ) (F0 m pc ls []) :=
  W.vret hx hb hr (fun t ht _ => ⟨⟨_, E, rfl, hq, by rw [ht]; exact hP⟩, hS.F ht⟩) hS.2.2 hdg (hlocks := hlk)
theorem zretA {av : List Value} {PQ : Option Value → (Nat → va_E) → Prop} {v : Value} {C : String} (hx : p.tables.exec = Jvm.exec) (hb : c.code = cc) (hr : meth.sig.returnType = some (.object C)) (hv : v = .null ∨ ∃ a, v = .ref a) (hlk : meth.locks = false) (hS : va_S A s.heap H locs) (hP : va_P D vwCl (zq_wd F n E) H) (hdg : decode cc pc = .ok (.areturn, 1)) (hq : PQ (some v) E) :
    W p l e R s m av.toArray below meth c H locs 0 0 (zQ below D A F n av s PQ) (F0 m pc ls [v]) :=
  W.aret hx hb hr (Or.inl ⟨C, rfl⟩) hv (fun t ht _ => ⟨⟨_, E, rfl, hq, by rw [ht]; exact hP⟩, hS.F ht⟩) hS.2.2 hdg (hlocks := hlk)
/-! calls -/
theorem zrun {PQ : Option Value → (Nat → va_E) → Prop} {st0 : List Value} {a : Array Value}
    (hr : va_Run p l e R s m args below meth c H locs cells slots 0 0 (F0 m pc ls st0) rest ((fun (_ : Array Value) (st : State) (oc : Outcome) (t : State) => (∃ (v : Option Value) (E' : Nat → va_E), oc = .returned v ∧ PQ v E' ∧ va_P D vwCl (zq_wd F n E') t.heap) ∧ va_F A st t) a) A) (hS : va_S A H0 H locs)
    (kk : ∀ (v : Option Value) (E' : Nat → va_E) (H1 : Heap) (locs1 : List Loc), PQ v E' → va_P D vwCl (zq_wd F n E') H1 → (∀ q : Nat, q < H.size → ¬ A q → H1[q]? = H[q]?) → va_S A H0 H1 locs1 → W p l e R s m args below meth c H1 locs1 cells slots Q (F0 m (pc + 3) ls (v.toList ++ rest))) : W p l e R s m args below meth c H locs cells slots Q (F0 m pc ls st0) := by
  intro T hT X
  obtain ⟨v, st₀, t, T', L, h0, X', hL, e1, e2, ⟨⟨v', E', hv, hp, hb⟩, hz, hk⟩, st⟩ := hr T hT X
  cases hv
  rw [h0] at hz hk
  obtain ⟨t2, a1, b1⟩ := kk v E' T'.heap (locs ++ L) hp (by rw [e1]; exact hb) (fun q h1 h2 => by rw [e1]; exact hk q h1 h2)
    ⟨Nat.le_trans hS.1 (by rw [e1]; exact hz), fun q h1 h2 => by rw [e1, hk q (Nat.lt_of_lt_of_le h1 hS.1) h2]; exact hS.2.1 q h1 h2, fun q hq => by
      rcases List.mem_append.mp hq with h | h
      · exact hS.2.2 q h
      · exact hL q h⟩ T' rfl X'
  exact ⟨t2, st t2 a1, b1⟩
theorem zblind {av : List Value} : FrameBlind (va_Pc av (fun U => zAm D cL cI cR A U ∧ va_P D vwCl (zq_wd F n E) U.heap)) :=
  fun _ _ _ _ q => ⟨q.1, zAm_blind q.2.1, q.2.2⟩
theorem zrecv {q ci : Nat} {fs : List Value} {r : vw_C} (hAm : zAm D cL cI cR A s) (hP : va_P D vwCl (zq_wd F n E) H) (hq : q < n) (hE : E q = .inr (ci, fs)) (hc : vwCl[ci]? = some r) : ∃ cell : Cell, H[F q]? = some cell ∧ cell.vm.isStatics = false ∧ s.vm.findClass r.1 = some cell.cls :=
  va_recv hAm.1 hP hc (by rw [zq_get hq, hE])
/-- a virtual call of a method whose answer and world are known -/
theorem zcallV {Ts ws ws' : List Cond} {own : String} {index fr lo k : Nat} {y : MethodName} {bytes : ByteArray} {maxL nL : Nat} {ret : Option FieldType} {q ci : Nat} {fs : List Value} {r : vw_C} {b : Nat} {As st0 : List Value} {PQ : Option Value → (Nat → va_E) → Prop}
    (hx : p.tables.exec = Jvm.exec) (hb : c.code = cc) (hml : c.maxLocals = nL) (hown : s.vm.findClass own = some m.cls) (hts : ∀ w ∈ Ts, w.before args s = true)
    (hM : zCt l y ws fr lo D cL cI cR A F n E (.ref b :: As) PQ) (hT : GoodIn Ts (wsV own index y.cls y ws)) (hw : ws = Cond.code y bytes maxL ret :: ws')
    (hd : y.cls = y.cls ∧ y.cls ≠ "java/lang/invoke/MethodHandle" ∧ y.cls ≠ "java/lang/invoke/VarHandle" ∧ (parseMethodDescriptor y.desc).map (fun d => d.parameters.length) = some k)
    (hR : fr + 1 ≤ R.frames ∧ 8 + (maxL + 11) + lo ≤ R.locals) (hbq : b = F q) (hq : q < n) (hE : E q = .inr (ci, fs)) (hc : vwCl[ci]? = some r) (hrc : r.1 = y.cls)
    (hAm : zAm D cL cI cR A s) (hP : va_P D vwCl (zq_wd F n E) H) (hS : va_S A s.heap H locs) (hn : As.length = k) (hls : ls.size = nL) (hst : st0 = As.reverse ++ .ref b :: rest) (hrest : (rest.map fun v => v.category).sum ≤ 8) (hdg : decode cc pc = .ok (.invokevirtual index, 3)) (hcs : cells ≤ R.cells ∧ slots ≤ R.slots)
    (kk : ∀ (v : Option Value) (E' : Nat → va_E) (H1 : Heap) (locs1 : List Loc), PQ v E' → va_P D vwCl (zq_wd F n E') H1 → (∀ q : Nat, q < H.size → ¬ A q → H1[q]? = H[q]?) → va_S A s.heap H1 locs1 → W p l e R s m args below meth c H1 locs1 cells slots Q (F0 m (pc + 3) ls (v.toList ++ rest))) : W p l e R s m args below meth c H locs cells slots Q (F0 m pc ls st0) := by
  subst hbq
  refine zrun (a := (Value.ref (F q) :: As).toArray) (va_runV (As := As) (rest := rest) ⟨hx, hb, hml, hown, hts⟩ hM (cwV k hts hT hw rfl rfl hd hR) ⟨zblind, by rw [← hrc]; exact zrecv hAm hP hq hE hc, fun U hU hW => ⟨rfl, zAm_call hAm hS hU hW, by rw [hU]; exact hP⟩⟩ rfl hn hls hst (lv_room hrest) hdg ⟨hcs.1, hcs.2⟩) hS kk
theorem zcallS {Ts ws ws' : List Cond} {own : String} {index fr lo k : Nat} {y : MethodName} {bytes : ByteArray} {maxL nL : Nat} {ret : Option FieldType} {As st0 : List Value} {PQ : Option Value → (Nat → va_E) → Prop}
    (hx : p.tables.exec = Jvm.exec) (hb : c.code = cc) (hml : c.maxLocals = nL) (hown : s.vm.findClass own = some m.cls) (hts : ∀ w ∈ Ts, w.before args s = true)
    (hM : zCt l y ws fr lo D cL cI cR A F n E As PQ) (hT : GoodIn Ts (va_wsS own index y ws)) (hw : ws = Cond.code y bytes maxL ret :: ws')
    (hd : y.cls ≠ "java/lang/invoke/MethodHandle" ∧ y.cls ≠ "java/lang/invoke/VarHandle" ∧ (parseMethodDescriptor y.desc).map (fun d => d.parameters.length) = some k)
    (hR : fr + 1 ≤ R.frames ∧ 8 + (maxL + 11) + lo ≤ R.locals)
    (hAm : zAm D cL cI cR A s) (hP : va_P D vwCl (zq_wd F n E) H) (hS : va_S A s.heap H locs) (hn : As.length = k) (hls : ls.size = nL) (hst : st0 = As.reverse ++ rest) (hrest : (rest.map fun v => v.category).sum ≤ 8) (hdg : decode cc pc = .ok (.invokestatic index, 3)) (hcs : cells ≤ R.cells ∧ slots ≤ R.slots)
    (kk : ∀ (v : Option Value) (E' : Nat → va_E) (H1 : Heap) (locs1 : List Loc), PQ v E' → va_P D vwCl (zq_wd F n E') H1 → (∀ q : Nat, q < H.size → ¬ A q → H1[q]? = H[q]?) → va_S A s.heap H1 locs1 → W p l e R s m args below meth c H1 locs1 cells slots Q (F0 m (pc + 3) ls (v.toList ++ rest))) : W p l e R s m args below meth c H locs cells slots Q (F0 m pc ls st0) := by
  refine zrun (a := As.toArray) (va_runS (As := As) (rest := rest) ⟨hx, hb, hml, hown, hts⟩ hM (va_cwS k hts hT hw rfl rfl hd hR) ⟨zblind, fun U hU hW => ⟨rfl, zAm_call hAm hS hU hW, by rw [hU]; exact hP⟩⟩ rfl hn hls hst (lv_room hrest) hdg ⟨hcs.1, hcs.2⟩) hS kk
theorem zcallN {Ts ws ws' : List Cond} {own host : String} {index fr lo k : Nat} {y : MethodName} {bytes : ByteArray} {maxL nL : Nat} {ret : Option FieldType} {As st0 : List Value} {PQ : Option Value → (Nat → va_E) → Prop}
    (hx : p.tables.exec = Jvm.exec) (hb : c.code = cc) (hml : c.maxLocals = nL) (hown : s.vm.findClass own = some m.cls) (hts : ∀ w ∈ Ts, w.before args s = true)
    (hM : zCt l y ws fr lo D cL cI cR A F n E As PQ) (hT : GoodIn Ts ws) (hw : ws = Cond.code y bytes maxL ret :: ws') (hnest : va_Nw (.methodLinkNest own index y host) s) (hini : (Cond.initialized y.cls).before args s = true) (hsta : (Cond.static y).before args s = true)
    (hd : y.cls ≠ "java/lang/invoke/MethodHandle" ∧ y.cls ≠ "java/lang/invoke/VarHandle" ∧ (parseMethodDescriptor y.desc).map (fun d => d.parameters.length) = some k)
    (hR : fr + 1 ≤ R.frames ∧ 8 + (maxL + 11) + lo ≤ R.locals)
    (hAm : zAm D cL cI cR A s) (hP : va_P D vwCl (zq_wd F n E) H) (hS : va_S A s.heap H locs) (hn : As.length = k) (hls : ls.size = nL) (hst : st0 = As.reverse ++ rest) (hrest : (rest.map fun v => v.category).sum ≤ 8) (hdg : decode cc pc = .ok (.invokestatic index, 3)) (hcs : cells ≤ R.cells ∧ slots ≤ R.slots)
    (kk : ∀ (v : Option Value) (E' : Nat → va_E) (H1 : Heap) (locs1 : List Loc), PQ v E' → va_P D vwCl (zq_wd F n E') H1 → (∀ q : Nat, q < H.size → ¬ A q → H1[q]? = H[q]?) → va_S A s.heap H1 locs1 → W p l e R s m args below meth c H1 locs1 cells slots Q (F0 m (pc + 3) ls (v.toList ++ rest))) : W p l e R s m args below meth c H locs cells slots Q (F0 m pc ls st0) := by
  refine zrun (a := As.toArray) (va_runSN (As := As) (rest := rest) (host := host) ⟨hx, hb, hml, hown, hts⟩ hM ⟨va_cnB k hts hT hw rfl rfl hnest hini hd hR, hsta, trivial⟩ ⟨zblind, fun U hU hW => ⟨rfl, zAm_call hAm hS hU hW, by rw [hU]; exact hP⟩⟩ rfl hn hls hst (lv_room hrest) hdg ⟨hcs.1, hcs.2⟩) hS kk
/-- the known answer and world put in -/
theorem zkn {P : Option Value → (Nat → va_E) → Heap → List Loc → Prop} {v0 : Option Value} {E0 : Nat → va_E} {H9 H8 : Heap} {B : Nat → Prop} (k : ∀ (H1 : Heap) (locs1 : List Loc), va_P D vwCl (zq_wd F n E0) H1 → va_S A H0 H1 locs1 → P v0 E0 H1 locs1) :
    ∀ (v : Option Value) (E' : Nat → va_E) (H1 : Heap) (locs1 : List Loc), (v = v0 ∧ E' = E0) → va_P D vwCl (zq_wd F n E') H1 → (∀ q : Nat, q < H9.size → ¬ B q → H1[q]? = H8[q]?) → va_S A H0 H1 locs1 → P v E' H1 locs1 := by
  intro v E' H1 locs1 hq hP _ hS
  obtain ⟨rfl, rfl⟩ := hq
  exact k H1 locs1 hP hS
/-! fields and rows -/
theorem zget {Ts : List Cond} {own C : String} {T : u_T} {N ci index q k : Nat} {fs : List Value} {v : Value} (hx : p.tables.exec = Jvm.exec) (hb : c.code = cc) (hts : ∀ w ∈ Ts, w.before args s = true) (hin : ∀ w ∈ u_ws C T N, w ∈ Ts) (hown : s.vm.findClass own = some m.cls) (hAm : zAm D cL cI cR A s) (hP : va_P D vwCl (zq_wd F n E) H)
    (hq : q < n) (hE : E q = .inr (ci, fs)) (hc : vwCl[ci]? = some (C, T, N)) (hk : k < N) (hlink : (Cond.fieldLink own index (T k).1 (T k).2.1 (T k).2.2.1).before args s = true) (hv : fs[k]? = some v) (hdg : decode cc pc = .ok (.getfield index, 3))
    (kk : W p l e R s m args below meth c H locs cells slots Q (F0 m (pc + 3) ls (v :: rest))) : W p l e R s m args below meth c H locs cells slots Q (F0 m pc ls (.ref (F q) :: rest)) :=
  va_get hx hb hts hin hown hAm.1 hP q (by rw [zq_get hq, hE]) hc k hk hlink (fun _ h => h) hv hdg kk
theorem zput {Ts : List Cond} {own C : String} {T : u_T} {N ci index q k : Nat} {fs : List Value} {v : Value} {ty : FieldType} {E' : Nat → va_E} (hx : p.tables.exec = Jvm.exec) (hb : c.code = cc) (hts : ∀ w ∈ Ts, w.before args s = true) (hin : ∀ w ∈ u_ws C T N, w ∈ Ts) (ty0 : Nat → FieldType) (hty : ∀ k, k < N → parseFieldDescriptor (T k).2.2.1 = some (ty0 k)) (hnm : ∀ a, a < N → ∀ b, b < N → a ≠ b → (T a).2.1 ≠ (T b).2.1) (hown : s.vm.findClass own = some m.cls) (hAm : zAm D cL cI cR A s) (hP : va_P D vwCl (zq_wd F n E) H) (hF : zq_F A F n) (hS : va_S A H0 H locs)
    (hq : q < n) (hE : E q = .inr (ci, fs)) (hc : vwCl[ci]? = some (C, T, N)) (hk : k < N) (hlink : (Cond.fieldLink own index (T k).1 (T k).2.1 (T k).2.2.1).before args s = true) (hfin : (T k).2.2.2 = false) (hd : parseFieldDescriptor (T k).2.2.1 = some ty) (hn : narrow ty v = v) (hfit : fits ty v = true) (hl : k < fs.length) (hdg : decode cc pc = .ok (.putfield index, 3))
    (hE' : va_up E q (.inr (ci, fs.set k v)) = E')
    (kk : ∀ (H1 : Heap) (locs1 : List Loc), va_P D vwCl (zq_wd F n E') H1 → va_S A H0 H1 locs1 → W p l e R s m args below meth c H1 locs1 cells slots Q (F0 m (pc + 3) ls rest)) : W p l e R s m args below meth c H locs cells slots Q (F0 m pc ls (v :: .ref (F q) :: rest)) := by
  refine va_put hx hb hts hin ty0 hty hnm hown hAm.1 hP (zq_D hF E) hS q (by rw [zq_get hq, hE]) hc k hk hlink (fun _ h => h) hfin hd hn hfit hl hdg (fun H1 locs1 hP1 _ hS1 => ?_)
  rw [zq_set, hE'] at hP1
  exact kk H1 locs1 hP1 hS1
theorem zlald {N q k : Nat} {f : Nat → Int64} {v : Int64} (hx : p.tables.exec = Jvm.exec) (hb : c.code = cc) (hAm : zAm D cL cI cR A s) (hP : va_P D vwCl (zq_wd F n E) H) (hq : q < n) (hE : E q = .inl (cL, N, .inr (.inl f))) (hk : k < N) (hN : N < 2 ^ 31) (hv : f k = v) (hdg : decode cc pc = .ok (.laload, 1))
    (kk : W p l e R s m args below meth c H locs cells slots Q (F0 m (pc + 1) ls (.long v :: rest))) : W p l e R s m args below meth c H locs cells slots Q (F0 m pc ls (.int (nI k) :: .ref (F q) :: rest)) := by
  refine va_lald hx hb hAm.1 hP q 0 (by rw [zq_get hq, hE]) rfl (vp_in_nI hk hN) hdg ?_
  rw [nI_clamp (by omega), hv]
  exact kk
theorem ziald {N q k : Nat} {f : Nat → Int32} {v : Int32} (hx : p.tables.exec = Jvm.exec) (hb : c.code = cc) (hAm : zAm D cL cI cR A s) (hP : va_P D vwCl (zq_wd F n E) H) (hq : q < n) (hE : E q = .inl (cI, N, .inl f)) (hk : k < N) (hN : N < 2 ^ 31) (hv : f k = v) (hdg : decode cc pc = .ok (.iaload, 1))
    (kk : W p l e R s m args below meth c H locs cells slots Q (F0 m (pc + 1) ls (.int v :: rest))) : W p l e R s m args below meth c H locs cells slots Q (F0 m pc ls (.int (nI k) :: .ref (F q) :: rest)) := by
  refine va_iald hx hb hAm.1 hP q 1 (by rw [zq_get hq, hE]) rfl (vp_in_nI hk hN) hdg ?_
  rw [nI_clamp (by omega), hv]
  exact kk
theorem zaald {N q k : Nat} {f : Nat → Option Nat} {v : Nat} (hx : p.tables.exec = Jvm.exec) (hb : c.code = cc) (hAm : zAm D cL cI cR A s) (hP : va_P D vwCl (zq_wd F n E) H) (hq : q < n) (hE : E q = .inl (cR, N, .inr (.inr (.inr (.inr f))))) (hk : k < N) (hN : N < 2 ^ 31) (hv : f k = some v) (hdg : decode cc pc = .ok (.aaload, 1))
    (kk : W p l e R s m args below meth c H locs cells slots Q (F0 m (pc + 1) ls (.ref v :: rest))) : W p l e R s m args below meth c H locs cells slots Q (F0 m pc ls (.int (nI k) :: .ref (F q) :: rest)) := by
  refine va_aldq hx hb hAm.1 hP q 2 (by rw [zq_get hq, hE]) rfl (vp_in_nI hk hN) hdg ?_
  rw [nI_clamp (by omega), hv]
  exact kk
theorem zlast {N q k : Nat} {f : Nat → Int64} {x : Int64} {E' : Nat → va_E} (hx : p.tables.exec = Jvm.exec) (hb : c.code = cc) (hAm : zAm D cL cI cR A s) (hP : va_P D vwCl (zq_wd F n E) H) (hF : zq_F A F n) (hS : va_S A H0 H locs) (hq : q < n) (hE : E q = .inl (cL, N, .inr (.inl f))) (hk : k < N) (hN : N < 2 ^ 31) (hdg : decode cc pc = .ok (.lastore, 1)) (hE' : va_up E q (.inl (cL, N, .inr (.inl (vp_updL f k x)))) = E')
    (kk : ∀ (H1 : Heap) (locs1 : List Loc), va_P D vwCl (zq_wd F n E') H1 → va_S A H0 H1 locs1 → W p l e R s m args below meth c H1 locs1 cells slots Q (F0 m (pc + 1) ls rest)) : W p l e R s m args below meth c H locs cells slots Q (F0 m pc ls (.long x :: .int (nI k) :: .ref (F q) :: rest)) := by
  refine va_last hx hb hAm.1 hP (zq_D hF E) hS q 0 (by rw [zq_get hq, hE]) rfl (vp_in_nI hk hN) hdg (fun H1 locs1 hP1 _ hS1 => ?_)
  rw [nI_clamp (by omega), zq_set, hE'] at hP1
  exact kk H1 locs1 hP1 hS1
theorem ziast {N q k : Nat} {f : Nat → Int32} {x : Int32} {E' : Nat → va_E} (hx : p.tables.exec = Jvm.exec) (hb : c.code = cc) (hAm : zAm D cL cI cR A s) (hP : va_P D vwCl (zq_wd F n E) H) (hF : zq_F A F n) (hS : va_S A H0 H locs) (hq : q < n) (hE : E q = .inl (cI, N, .inl f)) (hk : k < N) (hN : N < 2 ^ 31) (hdg : decode cc pc = .ok (.iastore, 1)) (hE' : va_up E q (.inl (cI, N, .inl (upd f k x))) = E')
    (kk : ∀ (H1 : Heap) (locs1 : List Loc), va_P D vwCl (zq_wd F n E') H1 → va_S A H0 H1 locs1 → W p l e R s m args below meth c H1 locs1 cells slots Q (F0 m (pc + 1) ls rest)) : W p l e R s m args below meth c H locs cells slots Q (F0 m pc ls (.int x :: .int (nI k) :: .ref (F q) :: rest)) := by
  refine va_iast hx hb hAm.1 hP (zq_D hF E) hS q 1 (by rw [zq_get hq, hE]) rfl (vp_in_nI hk hN) hdg (fun H1 locs1 hP1 _ hS1 => ?_)
  rw [nI_clamp (by omega), zq_set, hE'] at hP1
  exact kk H1 locs1 hP1 hS1
theorem zalen {N q t0 : Nat} {cA : ClassId} {x : vp_A} {ty : FieldType} (hx : p.tables.exec = Jvm.exec) (hb : c.code = cc) (hAm : zAm D cL cI cR A s) (hP : va_P D vwCl (zq_wd F n E) H) (hq : q < n) (hE : E q = .inl (cA, x)) (ht : [(cL, FieldType.long), (cI, .int), (cR, .object RX1)][t0]? = some (cA, ty)) (hv : x.1 = N) (hdg : decode cc pc = .ok (.arraylength, 1))
    (kk : W p l e R s m args below meth c H locs cells slots Q (F0 m (pc + 1) ls (.int (nI N) :: rest))) : W p l e R s m args below meth c H locs cells slots Q (F0 m pc ls (.ref (F q) :: rest)) :=
  va_alen hx hb hAm.1 hP q t0 (by rw [zq_get hq, hE]) ht (by rw [hv]; rfl) hdg kk
/-! numbers -/
theorem ziadd {a b d : Nat} (hx : p.tables.exec = Jvm.exec) (hb : c.code = cc) (h : a + b = d) (hdg : decode cc pc = .ok (.iadd, 1)) (k : W p l e R s m args below meth c H locs cells slots Q (F0 m (pc + 1) ls (.int (nI d) :: rest))) : W p l e R s m args below meth c H locs cells slots Q (F0 m pc ls (.int (nI b) :: .int (nI a) :: rest)) := by
  refine lv_iadd hx hb hdg ?_
  rw [nI_add, h]; exact k
theorem zisub {a b d : Nat} (hx : p.tables.exec = Jvm.exec) (hb : c.code = cc) (h : a = b + d) (hdg : decode cc pc = .ok (.isub, 1)) (k : W p l e R s m args below meth c H locs cells slots Q (F0 m (pc + 1) ls (.int (nI d) :: rest))) : W p l e R s m args below meth c H locs cells slots Q (F0 m pc ls (.int (nI b) :: .int (nI a) :: rest)) := by
  refine lv_isub hx hb hdg ?_
  rw [pk_sub (by omega), show a - b = d by omega]; exact k
theorem zimul {a b d : Nat} (hx : p.tables.exec = Jvm.exec) (hb : c.code = cc) (h : a * b = d) (hdg : decode cc pc = .ok (.imul, 1)) (k : W p l e R s m args below meth c H locs cells slots Q (F0 m (pc + 1) ls (.int (nI d) :: rest))) : W p l e R s m args below meth c H locs cells slots Q (F0 m pc ls (.int (nI b) :: .int (nI a) :: rest)) := by
  refine lv_imul hx hb hdg ?_
  rw [pk_mul, h]; exact k
theorem zi2l {a : Nat} (hx : p.tables.exec = Jvm.exec) (hb : c.code = cc) (ha : a < 2147483648) (hdg : decode cc pc = .ok (.i2l, 1)) (k : W p l e R s m args below meth c H locs cells slots Q (F0 m (pc + 1) ls (.long (lN a) :: rest))) : W p l e R s m args below meth c H locs cells slots Q (F0 m pc ls (.int (nI a) :: rest)) :=
  lv_i2l hx hb hdg (nI_l ha) k
/-! branches on counted numbers -/
variable {a b tgt : Nat} {off : Int}
theorem zi_lt (hx : p.tables.exec = Jvm.exec) (hb : c.code = cc) (hdg : decode cc pc = .ok (.if_icmp .lt off, 3)) (ht : (pc : Int) + off = (tgt : Int)) (ha : a < 2147483648) (hb2 : b < 2147483648) (kt : a < b → W p l e R s m args below meth c H locs cells slots Q (F0 m tgt ls rest)) (kf : b ≤ a → W p l e R s m args below meth c H locs cells slots Q (F0 m (pc + 3) ls rest)) : W p l e R s m args below meth c H locs cells slots Q (F0 m pc ls (.int (nI b) :: .int (nI a) :: rest)) :=
  lv_icmp_lt hx hb hdg ht (fun h => kt ((nI_ltI ha hb2).mp h)) (fun h => kf (Nat.le_of_not_lt fun g => h ((nI_ltI ha hb2).mpr g)))
theorem zi_ge (hx : p.tables.exec = Jvm.exec) (hb : c.code = cc) (hdg : decode cc pc = .ok (.if_icmp .ge off, 3)) (ht : (pc : Int) + off = (tgt : Int)) (ha : a < 2147483648) (hb2 : b < 2147483648) (kt : b ≤ a → W p l e R s m args below meth c H locs cells slots Q (F0 m tgt ls rest)) (kf : a < b → W p l e R s m args below meth c H locs cells slots Q (F0 m (pc + 3) ls rest)) : W p l e R s m args below meth c H locs cells slots Q (F0 m pc ls (.int (nI b) :: .int (nI a) :: rest)) :=
  lv_icmp_ge hx hb hdg ht (fun h => kt ((nI_leI hb2 ha).mp h)) (fun h => kf (Nat.lt_of_not_le fun g => h ((nI_leI hb2 ha).mpr g)))
theorem zi_gt (hx : p.tables.exec = Jvm.exec) (hb : c.code = cc) (hdg : decode cc pc = .ok (.if_icmp .gt off, 3)) (ht : (pc : Int) + off = (tgt : Int)) (ha : a < 2147483648) (hb2 : b < 2147483648) (kt : b < a → W p l e R s m args below meth c H locs cells slots Q (F0 m tgt ls rest)) (kf : a ≤ b → W p l e R s m args below meth c H locs cells slots Q (F0 m (pc + 3) ls rest)) : W p l e R s m args below meth c H locs cells slots Q (F0 m pc ls (.int (nI b) :: .int (nI a) :: rest)) :=
  lv_icmp_gt hx hb hdg ht (fun h => kt ((nI_ltI hb2 ha).mp h)) (fun h => kf (Nat.le_of_not_lt fun g => h ((nI_ltI hb2 ha).mpr g)))
theorem zi_le (hx : p.tables.exec = Jvm.exec) (hb : c.code = cc) (hdg : decode cc pc = .ok (.if_icmp .le off, 3)) (ht : (pc : Int) + off = (tgt : Int)) (ha : a < 2147483648) (hb2 : b < 2147483648) (kt : a ≤ b → W p l e R s m args below meth c H locs cells slots Q (F0 m tgt ls rest)) (kf : b < a → W p l e R s m args below meth c H locs cells slots Q (F0 m (pc + 3) ls rest)) : W p l e R s m args below meth c H locs cells slots Q (F0 m pc ls (.int (nI b) :: .int (nI a) :: rest)) :=
  lv_icmp_le hx hb hdg ht (fun h => kt ((nI_leI ha hb2).mp h)) (fun h => kf (Nat.lt_of_not_le fun g => h ((nI_leI ha hb2).mpr g)))
theorem zi_eq (hx : p.tables.exec = Jvm.exec) (hb : c.code = cc) (hdg : decode cc pc = .ok (.if_icmp .eq off, 3)) (ht : (pc : Int) + off = (tgt : Int)) (ha : a < 2147483648) (hb2 : b < 2147483648) (kt : a = b → W p l e R s m args below meth c H locs cells slots Q (F0 m tgt ls rest)) (kf : ¬ a = b → W p l e R s m args below meth c H locs cells slots Q (F0 m (pc + 3) ls rest)) : W p l e R s m args below meth c H locs cells slots Q (F0 m pc ls (.int (nI b) :: .int (nI a) :: rest)) :=
  lv_icmp_eq hx hb hdg ht (fun h => kt ((nI_eq ha hb2).mp h)) (fun h => kf (fun g => h ((nI_eq ha hb2).mpr g)))
theorem zi_ne (hx : p.tables.exec = Jvm.exec) (hb : c.code = cc) (hdg : decode cc pc = .ok (.if_icmp .ne off, 3)) (ht : (pc : Int) + off = (tgt : Int)) (ha : a < 2147483648) (hb2 : b < 2147483648) (kt : ¬ a = b → W p l e R s m args below meth c H locs cells slots Q (F0 m tgt ls rest)) (kf : a = b → W p l e R s m args below meth c H locs cells slots Q (F0 m (pc + 3) ls rest)) : W p l e R s m args below meth c H locs cells slots Q (F0 m pc ls (.int (nI b) :: .int (nI a) :: rest)) :=
  lv_icmp_ne hx hb hdg ht (fun h => kt (fun g => h ((nI_eq ha hb2).mpr g))) (fun h => kf ((nI_eq ha hb2).mp h))
theorem zf_lt (hx : p.tables.exec = Jvm.exec) (hb : c.code = cc) (hdg : decode cc pc = .ok (.ifCond .lt off, 3)) (ht : (pc : Int) + off = (tgt : Int)) (ha : a < 2147483648) (kf : W p l e R s m args below meth c H locs cells slots Q (F0 m (pc + 3) ls rest)) : W p l e R s m args below meth c H locs cells slots Q (F0 m pc ls (.int (nI a) :: rest)) :=
  lv_if_lt hx hb hdg ht (fun h => absurd h (nI_pos ha)) (fun _ => kf)
theorem zf_ge (hx : p.tables.exec = Jvm.exec) (hb : c.code = cc) (hdg : decode cc pc = .ok (.ifCond .ge off, 3)) (ht : (pc : Int) + off = (tgt : Int)) (ha : a < 2147483648) (kt : W p l e R s m args below meth c H locs cells slots Q (F0 m tgt ls rest)) : W p l e R s m args below meth c H locs cells slots Q (F0 m pc ls (.int (nI a) :: rest)) :=
  lv_if_ge hx hb hdg ht (fun _ => kt) (fun h => absurd (nI_pos' ha) h)
theorem zf_eq (hx : p.tables.exec = Jvm.exec) (hb : c.code = cc) (hdg : decode cc pc = .ok (.ifCond .eq off, 3)) (ht : (pc : Int) + off = (tgt : Int)) (ha : a < 2147483648) (kt : a = 0 → W p l e R s m args below meth c H locs cells slots Q (F0 m tgt ls rest)) (kf : 0 < a → W p l e R s m args below meth c H locs cells slots Q (F0 m (pc + 3) ls rest)) : W p l e R s m args below meth c H locs cells slots Q (F0 m pc ls (.int (nI a) :: rest)) :=
  lv_if_eq hx hb hdg ht (fun h => kt (Classical.byContradiction fun g => nI_ne0 (Nat.pos_of_ne_zero g) ha h)) (fun h => kf (Nat.pos_of_ne_zero fun g => h (by rw [g]; exact nI_0)))
theorem zf_ne (hx : p.tables.exec = Jvm.exec) (hb : c.code = cc) (hdg : decode cc pc = .ok (.ifCond .ne off, 3)) (ht : (pc : Int) + off = (tgt : Int)) (ha : a < 2147483648) (kt : 0 < a → W p l e R s m args below meth c H locs cells slots Q (F0 m tgt ls rest)) (kf : a = 0 → W p l e R s m args below meth c H locs cells slots Q (F0 m (pc + 3) ls rest)) : W p l e R s m args below meth c H locs cells slots Q (F0 m pc ls (.int (nI a) :: rest)) :=
  lv_if_ne hx hb hdg ht (fun h => kt (Nat.pos_of_ne_zero fun g => h (by rw [g]; exact nI_0))) (fun h => kf (Classical.byContradiction fun g => nI_ne0 (Nat.pos_of_ne_zero g) ha h))
theorem zf_le (hx : p.tables.exec = Jvm.exec) (hb : c.code = cc) (hdg : decode cc pc = .ok (.ifCond .le off, 3)) (ht : (pc : Int) + off = (tgt : Int)) (ha : a < 2147483648) (kt : a = 0 → W p l e R s m args below meth c H locs cells slots Q (F0 m tgt ls rest)) (kf : 0 < a → W p l e R s m args below meth c H locs cells slots Q (F0 m (pc + 3) ls rest)) : W p l e R s m args below meth c H locs cells slots Q (F0 m pc ls (.int (nI a) :: rest)) :=
  lv_if_le hx hb hdg ht (fun h => kt (Classical.byContradiction fun g => nI_nle (Nat.pos_of_ne_zero g) ha h)) (fun h => kf (Nat.pos_of_ne_zero fun g => h (by rw [g, nI_0]; decide)))
theorem zf_gt (hx : p.tables.exec = Jvm.exec) (hb : c.code = cc) (hdg : decode cc pc = .ok (.ifCond .gt off, 3)) (ht : (pc : Int) + off = (tgt : Int)) (ha : a < 2147483648) (kt : 0 < a → W p l e R s m args below meth c H locs cells slots Q (F0 m tgt ls rest)) (kf : a = 0 → W p l e R s m args below meth c H locs cells slots Q (F0 m (pc + 3) ls rest)) : W p l e R s m args below meth c H locs cells slots Q (F0 m pc ls (.int (nI a) :: rest)) :=
  lv_if_gt hx hb hdg ht (fun h => kt (Nat.pos_of_ne_zero fun g => by rw [g, nI_0] at h; exact absurd h (by decide))) (fun h => kf (Classical.byContradiction fun g => h (by
    have h1 := nI_nle (Nat.pos_of_ne_zero g) ha
    rw [Int32.le_iff_toInt_le] at h1
    rw [Int32.lt_iff_toInt_lt]
    omega)))
/-! a compare of longs and the branch behind it -/
variable {x y : Int64}
theorem zl_eq (hx : p.tables.exec = Jvm.exec) (hb : c.code = cc) (hdc : decode cc pc = .ok (.lcmp, 1)) (hdg : decode cc (pc + 1) = .ok (.ifCond .eq off, 3)) (ht : ((pc + 1 : Nat) : Int) + off = (tgt : Int)) (kt : x = y → W p l e R s m args below meth c H locs cells slots Q (F0 m tgt ls rest)) (kf : ¬ x = y → W p l e R s m args below meth c H locs cells slots Q (F0 m (pc + 1 + 3) ls rest)) : W p l e R s m args below meth c H locs cells slots Q (F0 m pc ls (.long y :: .long x :: rest)) :=
  W.lcmp hx hb hdc (lv_if_eq hx hb hdg ht (fun h => kt ((lg_cmp_eq x y).mp h)) (fun h => kf (fun g => h ((lg_cmp_eq x y).mpr g))))
theorem zl_ne (hx : p.tables.exec = Jvm.exec) (hb : c.code = cc) (hdc : decode cc pc = .ok (.lcmp, 1)) (hdg : decode cc (pc + 1) = .ok (.ifCond .ne off, 3)) (ht : ((pc + 1 : Nat) : Int) + off = (tgt : Int)) (kt : ¬ x = y → W p l e R s m args below meth c H locs cells slots Q (F0 m tgt ls rest)) (kf : x = y → W p l e R s m args below meth c H locs cells slots Q (F0 m (pc + 1 + 3) ls rest)) : W p l e R s m args below meth c H locs cells slots Q (F0 m pc ls (.long y :: .long x :: rest)) :=
  W.lcmp hx hb hdc (lv_if_ne hx hb hdg ht (fun h => kt (fun g => h ((lg_cmp_eq x y).mpr g))) (fun h => kf ((lg_cmp_eq x y).mp h)))
theorem zl_lt (hx : p.tables.exec = Jvm.exec) (hb : c.code = cc) (hdc : decode cc pc = .ok (.lcmp, 1)) (hdg : decode cc (pc + 1) = .ok (.ifCond .lt off, 3)) (ht : ((pc + 1 : Nat) : Int) + off = (tgt : Int)) (kt : x < y → W p l e R s m args below meth c H locs cells slots Q (F0 m tgt ls rest)) (kf : ¬ x < y → W p l e R s m args below meth c H locs cells slots Q (F0 m (pc + 1 + 3) ls rest)) : W p l e R s m args below meth c H locs cells slots Q (F0 m pc ls (.long y :: .long x :: rest)) :=
  W.lcmp hx hb hdc (lv_if_lt hx hb hdg ht (fun h => kt ((lg_cmp_lt x y).mp h)) (fun h => kf (fun g => h ((lg_cmp_lt x y).mpr g))))
theorem zl_ge (hx : p.tables.exec = Jvm.exec) (hb : c.code = cc) (hdc : decode cc pc = .ok (.lcmp, 1)) (hdg : decode cc (pc + 1) = .ok (.ifCond .ge off, 3)) (ht : ((pc + 1 : Nat) : Int) + off = (tgt : Int)) (kt : y ≤ x → W p l e R s m args below meth c H locs cells slots Q (F0 m tgt ls rest)) (kf : ¬ y ≤ x → W p l e R s m args below meth c H locs cells slots Q (F0 m (pc + 1 + 3) ls rest)) : W p l e R s m args below meth c H locs cells slots Q (F0 m pc ls (.long y :: .long x :: rest)) :=
  W.lcmp hx hb hdc (lv_if_ge hx hb hdg ht (fun h => kt ((lg_cmp_ge x y).mp h)) (fun h => kf (fun g => h ((lg_cmp_ge x y).mpr g))))
theorem zl_gt (hx : p.tables.exec = Jvm.exec) (hb : c.code = cc) (hdc : decode cc pc = .ok (.lcmp, 1)) (hdg : decode cc (pc + 1) = .ok (.ifCond .gt off, 3)) (ht : ((pc + 1 : Nat) : Int) + off = (tgt : Int)) (kt : y < x → W p l e R s m args below meth c H locs cells slots Q (F0 m tgt ls rest)) (kf : ¬ y < x → W p l e R s m args below meth c H locs cells slots Q (F0 m (pc + 1 + 3) ls rest)) : W p l e R s m args below meth c H locs cells slots Q (F0 m pc ls (.long y :: .long x :: rest)) :=
  W.lcmp hx hb hdc (lv_if_gt hx hb hdg ht (fun h => kt ((lg_cmp_gt x y).mp h)) (fun h => kf (fun g => h ((lg_cmp_gt x y).mpr g))))
theorem zl_le (hx : p.tables.exec = Jvm.exec) (hb : c.code = cc) (hdc : decode cc pc = .ok (.lcmp, 1)) (hdg : decode cc (pc + 1) = .ok (.ifCond .le off, 3)) (ht : ((pc + 1 : Nat) : Int) + off = (tgt : Int)) (kt : x ≤ y → W p l e R s m args below meth c H locs cells slots Q (F0 m tgt ls rest)) (kf : ¬ x ≤ y → W p l e R s m args below meth c H locs cells slots Q (F0 m (pc + 1 + 3) ls rest)) : W p l e R s m args below meth c H locs cells slots Q (F0 m pc ls (.long y :: .long x :: rest)) :=
  W.lcmp hx hb hdc (lv_if_le hx hb hdg ht (fun h => kt ((lg_cmp_le x y).mp h)) (fun h => kf (fun g => h ((lg_cmp_le x y).mpr g))))
end ZW
theorem zinc {a b : Nat} {d : Int} (h : (a : Int) + d = (b : Int)) : nI a + Int32.ofInt d = nI b := by
  have e : ∀ n : Nat, nI n = Int32.ofInt (n : Int) := fun n => (Int32.ofInt_eq_ofNat (n := n)).symm ▸ rfl
  rw [e, e, ← Int32.ofInt_add, h]
