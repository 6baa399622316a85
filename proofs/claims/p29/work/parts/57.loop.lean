/-! THE CLAIM OUT OF ONE WALK OF THE LAW'S BODY. Your part is whole_start (and what it stands on); all else here is the same for every law, but numbers. -/
def R_law : String := "CosineSeriesLaw"
def lw_P (b : Addr) (xs : List Int32) (args : Array Value) (s : State) : Prop := args = #[.ref b] ∧ s.IntsAt b xs ∧ xs.length ≤ 260 ∧ (Jvm.Cond.and given_1 narrow_1).before args s = true
def lw_Q (_ : Array Value) (s : State) (o : Outcome) (t : State) : Prop := o = .returned (some (.int 1)) ∧ Framed s o t [] 600000 7302250
def lw_Z (below : List Frame) (a : Array Value) (s : State) : State → Prop := fun t => ∃ o, t.status = .running ∧ Ended t below o ∧ lw_Q a s o t
/-- the law's own end, with 1 on the stack, nothing written that was there before, its room as the claim has it -/
theorem lw_ret {p : Program} {l : Launch} {e : Env} {s : State} {m : MethodId} {below : List Frame} {meth : Method} {c : Code} {b : Nat} (hx : p.tables.exec = Jvm.exec) (hb : c.code = code) (hr : meth.sig.returnType = ret) (hlocks : meth.locks = false) {pc : Nat} {H : Heap} {ls : Array Slot} (hdg : decode code pc = .ok (.ireturn, 1)) : W p l e room_1 s m #[Value.ref b] below meth c H [] 600000 7302250 (lw_Z below #[Value.ref b] s) (F0 m pc ls [.int 1]) := by
  intro T hT X
  obtain ⟨fs, hret, hrun, hended, hW, hframe⟩ := X.leave (v := some (.int 1)) (hlocks := hlocks) (fun h => by rw [hr] at h; cases h)
  have hmeth' : T.vm.method? m = some meth := X.method'
  refine ⟨T.setFrames fs, ?_, .returned (some (.int 1)), hrun, hended, rfl, ⟨_, rfl⟩, hW, hframe⟩
  jvm_step X.here [X.here.top, hx, hb, hdg, hmeth', hr, ret, narrow_b1]
  (try refine ⟨rfl, ?_⟩); (try refine ⟨rfl, ?_⟩)
  first | (intro acts; rw [hret _ acts rfl rfl rfl]) | rw [hret _ _ rfl rfl rfl]
  exact Steps.refl _
/-- what holds at the law's entry: the machine, the code, the tables' words (any of lw_tbl by 'hts w (by decide +kernel)'), the script of L ints xs at the cell b, what the Statement gives of the start (any of its parts by flat_of_before) -/
def lw_At (p : Program) (s : State) (m : MethodId) (meth : Method) (c : Code) (b L : Nat) (xs : Nat → Int32) : Prop :=
  p.tables.exec = Jvm.exec ∧ c.code = code ∧ meth.sig.returnType = ret ∧ c.maxLocals = 6 ∧ s.vm.findClass R_law = some m.cls ∧ (∀ w ∈ lw_tbl, w.before #[Value.ref b] s = true) ∧ va_X b L xs s s.heap ∧ b < s.heap.size ∧ meth.locks = false ∧ (Jvm.Cond.and given_1 narrow_1).before #[Value.ref b] s = true
/-! the law: its six rounds -/
theorem law_loop {p : Program} {l : Launch} {e : Env} {s : State} {m : MethodId} {below : List Frame} {meth : Method} {c : Code} {D : va_G} {cL cI cR : ClassId} {F : Nat → Nat} {b L : Nat} {xs : Nat → Int32} (hL : L ≤ 260) (C0 : lw_At p s m meth c b L xs) (hAm : zAm D cL cI cR (fun q : Nat => s.heap.size ≤ q) s) (hF : zq_F (fun q : Nat => s.heap.size ≤ q) F 30) :
    ∀ (u iv : Nat), iv ≤ 6 → 6 ≤ iv + u → ∀ (T0 : Nat → Nat → Int64) (top0 : Nat → Nat) (Z0 : zZC) (P0 : Nat → Nat → Int64) (dg0 : Nat → Nat), (∀ i, i < 8 → T0 i = P0 i ∧ top0 i = dg0 i) → zInv P0 dg0 → ∀ (H : Heap) (locs : List Loc), va_P D vwCl (zq_wd F 30 (zCE cL cR F T0 top0 Z0)) H → va_S (fun q : Nat => s.heap.size ≤ q) s.heap H locs → ∀ (ls : Array Slot), lv_has ls 6 [(3, .int (nI iv)), (2, .int (nI 1)), (1, .ref (F 24)), (0, .ref b)] → W p l e room_1 s m #[Value.ref b] below meth c H locs 600000 7302250 (lw_Z below #[Value.ref b] s) (F0 m 12 ls []) := by
  obtain ⟨hx, hb, hr, hml, hown, hts0, hX, hbl, hlocks, hgv⟩ := C0
  have hb : c.code = cL_law := hb
  have hown : s.vm.findClass RL = some m.cls := hown
  have hts : ∀ w ∈ wsL_law, w.before #[Value.ref b] s = true := fun w h => hts0 w (wsL_law_in w h)
  have hbA : ¬ (fun q : Nat => s.heap.size ≤ q) b := Nat.not_le.mpr hbl
  have exit : ∀ (iv : Nat) (H : Heap) (locs : List Loc), va_S (fun q : Nat => s.heap.size ≤ q) s.heap H locs → ∀ (ls : Array Slot), lv_has ls 6 [(3, .int (nI iv)), (2, .int (nI 1)), (1, .ref (F 24)), (0, .ref b)] → W p l e room_1 s m #[Value.ref b] below meth c H locs 600000 7302250 (lw_Z below #[Value.ref b] s) (F0 m 148 ls []) := by
    intro iv H locs hS ls hl
    refine lv_iload_n hx hb dL_law_148 rfl (lv_at hl 1 rfl) ?_
    exact va_forget (fun q hq => hS.2.2 q hq) (lw_ret hx hb hr hlocks dL_law_149)
  intro u
  induction u with
  | zero =>
    intro iv h1 h2 T0 top0 Z0 P0 dg0 hTP0 hI0 H locs hP hS ls hl
    refine lv_iload_n hx hb dL_law_12 rfl (lv_at hl 0 rfl) ?_
    refine lv_bipush (v := nI 6) hx hb dL_law_13 (by decide +kernel) ?_
    refine zi_ge (tgt := 148) hx hb dL_law_15 (by decide) (by omega) (by omega) (fun c1 => exit iv H locs hS ls hl) (fun c1 => ?_)
    exfalso
    omega
  | succ u ih =>
    intro iv h1 h2 T0 top0 Z0 P0 dg0 hTP0 hI0 H locs hP hS ls hl
    have J12 := ih
    refine lv_iload_n hx hb dL_law_12 rfl (lv_at hl 0 rfl) ?_
    refine lv_bipush (v := nI 6) hx hb dL_law_13 (by decide +kernel) ?_
    refine zi_ge (tgt := 148) hx hb dL_law_15 (by decide) (by omega) (by omega) (fun c1 => ?_) (fun c1 => ?_)
    ·
      exact exit iv H locs hS ls hl
    ·
      refine lv_iload_n hx hb dL_law_18 rfl (lv_at hl 1 rfl) ?_
      refine zf_eq (tgt := 148) hx hb dL_law_19 (by decide) (by omega) (fun c2 => ?_) (fun c2 => ?_)
      ·
        exfalso; omega
      ·
        refine lv_aload_n hx hb dL_law_22 rfl (lv_at hl 3 rfl) ?_
        refine lv_iload_n hx hb dL_law_23 rfl (lv_at hl 0 rfl) ?_
        refine zcallK (k := iv) (rest := []) hx hb hml hown hts hX hbl hbA hL (by omega) gL_law_L_cell ⟨Nat.le_of_ble_eq_true rfl, Nat.le_of_ble_eq_true rfl⟩ hP hS hl.1 rfl (Nat.le_of_ble_eq_true rfl) dL_law_24 ⟨by decide, by decide⟩ (fun cv hcv H locs hP hS => ?_)
        refine W.eq (g2 := F0 m 27 ls [.int (nI cv)]) rfl ?_
        refine lv_istore (lv' := [(4, .int (nI cv)), (3, .int (nI iv)), (2, .int (nI 1)), (1, .ref (F 24)), (0, .ref b)]) hx hb dL_law_27 hl (by decide) rfl (fun ls hl => ?_)
        refine lv_aload_n hx hb dL_law_29 rfl (lv_at hl 4 rfl) ?_
        refine lv_bipush (v := nI 6) hx hb dL_law_30 (by decide +kernel) ?_
        refine lv_iload_n hx hb dL_law_32 rfl (lv_at hl 1 rfl) ?_
        refine ziadd (d := (iv + 6)) hx hb (by omega) dL_law_33 ?_
        refine zcallK (k := (iv + 6)) (rest := []) hx hb hml hown hts hX hbl hbA hL (by omega) gL_law_L_cell ⟨Nat.le_of_ble_eq_true rfl, Nat.le_of_ble_eq_true rfl⟩ hP hS hl.1 rfl (Nat.le_of_ble_eq_true rfl) dL_law_34 ⟨by decide, by decide⟩ (fun dv hdv H locs hP hS => ?_)
        refine W.eq (g2 := F0 m 37 ls [.int (nI dv)]) rfl ?_
        refine lv_istore (lv' := [(5, .int (nI dv)), (4, .int (nI cv)), (3, .int (nI iv)), (2, .int (nI 1)), (1, .ref (F 24)), (0, .ref b)]) hx hb dL_law_37 hl (by decide) rfl (fun ls hl => ?_)
        refine lv_aload_n hx hb dL_law_39 rfl (lv_at hl 4 rfl) ?_
        refine lv_iload hx hb dL_law_40 (lv_at hl 1 rfl) ?_
        refine lv_bipush (v := nI 25) hx hb dL_law_42 (by decide +kernel) ?_
        refine lv_irem hx hb dL_law_44 (znI_ne (by omega) (by omega)) ?_
        refine W.eq (g2 := F0 m 45 ls [.int (nI (cv % 25)), .ref (F 24)]) (by rw [zrem_n (by omega) (by omega) (by omega)]) ?_
        refine lv_iload hx hb dL_law_45 (lv_at hl 1 rfl) ?_
        refine lv_iconst (v := nI 5) hx hb dL_law_47 (by decide +kernel) ?_
        refine lv_ishr hx hb dL_law_48 ?_
        refine W.eq (g2 := F0 m 49 ls [.int (nI (cv / 2 ^ 5)), .int (nI (cv % 25)), .ref (F 24)]) (by rw [zshr_n (by omega) (by decide)]) ?_
        refine lv_bipush (v := nI 25) hx hb dL_law_49 (by decide +kernel) ?_
        refine lv_irem hx hb dL_law_51 (znI_ne (by omega) (by omega)) ?_
        refine W.eq (g2 := F0 m 52 ls [.int (nI ((cv / 2 ^ 5) % 25)), .int (nI (cv % 25)), .ref (F 24)]) (by rw [zrem_n (by omega) (by omega) (by omega)]) ?_
        refine zcallS (As := [.ref (F 24), .int (nI (cv % 25)), .int (nI ((cv / 2 ^ 5) % 25))]) (rest := []) (k := 3) hx hb hml hown hts (kL_areBasics l D cL cI cR _ F hF T0 top0 Z0 P0 dg0 hTP0 hI0 (cv % 25) (by omega) ((cv / 2 ^ 5) % 25) (by omega)) gL_law_L_areBasics rfl (by decide +kernel) ⟨Nat.le_of_ble_eq_true rfl, Nat.le_of_ble_eq_true rfl⟩ hAm hP hS rfl hl.1 rfl (Nat.le_of_ble_eq_true rfl) dL_law_52 ⟨by decide, by decide⟩ (zkLo (fun T79 top79 Z79 P79 dg79 H locs hP hTP79 hI79 hR79 hS => ?_))
        refine W.eq (g2 := F0 m 55 ls [.int (nI 1)]) rfl ?_
        refine zf_eq (tgt := 140) hx hb dL_law_55 (by decide) (by omega) (fun c3 => ?_) (fun c3 => ?_)
        ·
          exfalso; omega
        ·
          refine lv_aload_n hx hb dL_law_58 rfl (lv_at hl 4 rfl) ?_
          refine lv_iload hx hb dL_law_59 (lv_at hl 0 rfl) ?_
          refine lv_bipush (v := nI 6) hx hb dL_law_61 (by decide +kernel) ?_
          refine lv_irem hx hb dL_law_63 (znI_ne (by omega) (by omega)) ?_
          refine W.eq (g2 := F0 m 64 ls [.int (nI (dv % 6)), .ref (F 24)]) (by rw [zrem_n (by omega) (by omega) (by omega)]) ?_
          refine lv_iload hx hb dL_law_64 (lv_at hl 0 rfl) ?_
          refine lv_iconst (v := nI 4) hx hb dL_law_66 (by decide +kernel) ?_
          refine lv_ishr hx hb dL_law_67 ?_
          refine W.eq (g2 := F0 m 68 ls [.int (nI (dv / 2 ^ 4)), .int (nI (dv % 6)), .ref (F 24)]) (by rw [zshr_n (by omega) (by decide)]) ?_
          refine lv_iconst (v := nI 5) hx hb dL_law_68 (by decide +kernel) ?_
          refine lv_irem hx hb dL_law_69 (znI_ne (by omega) (by omega)) ?_
          refine W.eq (g2 := F0 m 70 ls [.int (nI ((dv / 2 ^ 4) % 5)), .int (nI (dv % 6)), .ref (F 24)]) (by rw [zrem_n (by omega) (by omega) (by omega)]) ?_
          refine zcallS (As := [.ref (F 24), .int (nI (dv % 6)), .int (nI ((dv / 2 ^ 4) % 5))]) (rest := []) (k := 3) hx hb hml hown hts (kL_areBasics l D cL cI cR _ F hF T79 top79 Z79 P79 dg79 hTP79 hI79 (dv % 6) (by omega) ((dv / 2 ^ 4) % 5) (by omega)) gL_law_L_areBasics rfl (by decide +kernel) ⟨Nat.le_of_ble_eq_true rfl, Nat.le_of_ble_eq_true rfl⟩ hAm hP hS rfl hl.1 rfl (Nat.le_of_ble_eq_true rfl) dL_law_70 ⟨by decide, by decide⟩ (zkLo (fun T80 top80 Z80 P80 dg80 H locs hP hTP80 hI80 hR80 hS => ?_))
          refine W.eq (g2 := F0 m 73 ls [.int (nI 1)]) rfl ?_
          refine zf_eq (tgt := 140) hx hb dL_law_73 (by decide) (by omega) (fun c4 => ?_) (fun c4 => ?_)
          ·
            exfalso; omega
          ·
            refine lv_aload_n hx hb dL_law_76 rfl (lv_at hl 4 rfl) ?_
            refine lv_iload hx hb dL_law_77 (lv_at hl 0 rfl) ?_
            refine lv_iconst (v := nI 3) hx hb dL_law_79 (by decide +kernel) ?_
            refine lv_ishr hx hb dL_law_80 ?_
            refine W.eq (g2 := F0 m 81 ls [.int (nI (dv / 2 ^ 3)), .ref (F 24)]) (by rw [zshr_n (by omega) (by decide)]) ?_
            refine lv_bipush (v := nI 12) hx hb dL_law_81 (by decide +kernel) ?_
            refine lv_irem hx hb dL_law_83 (znI_ne (by omega) (by omega)) ?_
            refine W.eq (g2 := F0 m 84 ls [.int (nI ((dv / 2 ^ 3) % 12)), .ref (F 24)]) (by rw [zrem_n (by omega) (by omega) (by omega)]) ?_
            refine lv_iload hx hb dL_law_84 (lv_at hl 1 rfl) ?_
            refine zcallS (As := [.ref (F 24), .int (nI ((dv / 2 ^ 3) % 12)), .int (nI cv)]) (rest := []) (k := 3) hx hb hml hown hts (kL_isInverse l D cL cI cR _ F hF T80 top80 Z80 P80 dg80 hTP80 hI80 ((dv / 2 ^ 3) % 12) (by omega) cv (by omega)) gL_law_L_isInverse rfl (by decide +kernel) ⟨Nat.le_of_ble_eq_true rfl, Nat.le_of_ble_eq_true rfl⟩ hAm hP hS rfl hl.1 rfl (Nat.le_of_ble_eq_true rfl) dL_law_86 ⟨by decide, by decide⟩ (zkLo (fun T81 top81 Z81 P81 dg81 H locs hP hTP81 hI81 hR81 hS => ?_))
            refine W.eq (g2 := F0 m 89 ls [.int (nI 1)]) rfl ?_
            refine zf_eq (tgt := 140) hx hb dL_law_89 (by decide) (by omega) (fun c5 => ?_) (fun c5 => ?_)
            ·
              exfalso; omega
            ·
              refine lv_aload_n hx hb dL_law_92 rfl (lv_at hl 4 rfl) ?_
              refine lv_iload hx hb dL_law_93 (lv_at hl 1 rfl) ?_
              refine lv_bipush (v := nI 7) hx hb dL_law_95 (by decide +kernel) ?_
              refine lv_ishr hx hb dL_law_97 ?_
              refine W.eq (g2 := F0 m 98 ls [.int (nI (cv / 2 ^ 7)), .ref (F 24)]) (by rw [zshr_n (by omega) (by decide)]) ?_
              refine lv_bipush (v := nI 25) hx hb dL_law_98 (by decide +kernel) ?_
              refine lv_irem hx hb dL_law_100 (znI_ne (by omega) (by omega)) ?_
              refine W.eq (g2 := F0 m 101 ls [.int (nI ((cv / 2 ^ 7) % 25)), .ref (F 24)]) (by rw [zrem_n (by omega) (by omega) (by omega)]) ?_
              refine lv_iload hx hb dL_law_101 (lv_at hl 0 rfl) ?_
              refine zcallS (As := [.ref (F 24), .int (nI ((cv / 2 ^ 7) % 25)), .int (nI dv)]) (rest := []) (k := 3) hx hb hml hown hts (kL_isBounded l D cL cI cR _ F hF T81 top81 Z81 P81 dg81 hTP81 hI81 ((cv / 2 ^ 7) % 25) (by omega) dv (by omega)) gL_law_L_isBounded rfl (by decide +kernel) ⟨Nat.le_of_ble_eq_true rfl, Nat.le_of_ble_eq_true rfl⟩ hAm hP hS rfl hl.1 rfl (Nat.le_of_ble_eq_true rfl) dL_law_103 ⟨by decide, by decide⟩ (zkLo (fun T82 top82 Z82 P82 dg82 H locs hP hTP82 hI82 hR82 hS => ?_))
              refine W.eq (g2 := F0 m 106 ls [.int (nI 1)]) rfl ?_
              refine zf_eq (tgt := 140) hx hb dL_law_106 (by decide) (by omega) (fun c6 => ?_) (fun c6 => ?_)
              ·
                exfalso; omega
              ·
                refine lv_aload_n hx hb dL_law_109 rfl (lv_at hl 4 rfl) ?_
                refine lv_iload hx hb dL_law_110 (lv_at hl 1 rfl) ?_
                refine zcallS (As := [.ref (F 24), .int (nI cv)]) (rest := []) (k := 2) hx hb hml hown hts (kL_isRooted l D cL cI cR _ F hF T82 top82 Z82 P82 dg82 hTP82 hI82 cv (by omega)) gL_law_L_isRooted rfl (by decide +kernel) ⟨Nat.le_of_ble_eq_true rfl, Nat.le_of_ble_eq_true rfl⟩ hAm hP hS rfl hl.1 rfl (Nat.le_of_ble_eq_true rfl) dL_law_112 ⟨by decide, by decide⟩ (zkLo (fun T83 top83 Z83 P83 dg83 H locs hP hTP83 hI83 hR83 hS => ?_))
                refine W.eq (g2 := F0 m 115 ls [.int (nI 1)]) rfl ?_
                refine zf_eq (tgt := 140) hx hb dL_law_115 (by decide) (by omega) (fun c7 => ?_) (fun c7 => ?_)
                ·
                  exfalso; omega
                ·
                  refine lv_aload_n hx hb dL_law_118 rfl (lv_at hl 4 rfl) ?_
                  refine lv_iload hx hb dL_law_119 (lv_at hl 0 rfl) ?_
                  refine lv_bipush (v := nI 8) hx hb dL_law_121 (by decide +kernel) ?_
                  refine lv_ishr hx hb dL_law_123 ?_
                  refine W.eq (g2 := F0 m 124 ls [.int (nI (dv / 2 ^ 8)), .ref (F 24)]) (by rw [zshr_n (by omega) (by decide)]) ?_
                  refine lv_iconst (v := nI 5) hx hb dL_law_124 (by decide +kernel) ?_
                  refine lv_irem hx hb dL_law_125 (znI_ne (by omega) (by omega)) ?_
                  refine W.eq (g2 := F0 m 126 ls [.int (nI ((dv / 2 ^ 8) % 5)), .ref (F 24)]) (by rw [zrem_n (by omega) (by omega) (by omega)]) ?_
                  refine lv_iload hx hb dL_law_126 (lv_at hl 1 rfl) ?_
                  refine lv_iconst (v := nI 1) hx hb dL_law_128 (by decide +kernel) ?_
                  refine lv_ishr hx hb dL_law_129 ?_
                  refine W.eq (g2 := F0 m 130 ls [.int (nI (cv / 2 ^ 1)), .int (nI ((dv / 2 ^ 8) % 5)), .ref (F 24)]) (by rw [zshr_n (by omega) (by decide)]) ?_
                  refine zcallS (As := [.ref (F 24), .int (nI ((dv / 2 ^ 8) % 5)), .int (nI (cv / 2 ^ 1))]) (rest := []) (k := 3) hx hb hml hown hts (kL_isSampled l D cL cI cR _ F hF T83 top83 Z83 P83 dg83 hTP83 hI83 ((dv / 2 ^ 8) % 5) (by omega) (cv / 2 ^ 1) (by omega)) gL_law_L_isSampled rfl (by decide +kernel) ⟨Nat.le_of_ble_eq_true rfl, Nat.le_of_ble_eq_true rfl⟩ hAm hP hS rfl hl.1 rfl (Nat.le_of_ble_eq_true rfl) dL_law_130 ⟨by decide, by decide⟩ (zkLo (fun T84 top84 Z84 P84 dg84 H locs hP hTP84 hI84 hR84 hS => ?_))
                  refine W.eq (g2 := F0 m 133 ls [.int (nI 1)]) rfl ?_
                  refine zf_eq (tgt := 140) hx hb dL_law_133 (by decide) (by omega) (fun c8 => ?_) (fun c8 => ?_)
                  ·
                    exfalso; omega
                  ·
                    refine lv_iconst (v := nI 1) hx hb dL_law_136 (by decide +kernel) ?_
                    refine lv_goto (tgt := 141) hx hb dL_law_137 (by decide) ?_
                    refine lv_istore_n (lv' := [(2, .int (nI 1)), (5, .int (nI dv)), (4, .int (nI cv)), (3, .int (nI iv)), (1, .ref (F 24)), (0, .ref b)]) hx hb dL_law_141 rfl hl (by decide) rfl (fun ls hl => ?_)
                    refine lv_iinc (v := (nI (iv + 1))) (lv' := [(3, .int (nI (iv + 1))), (2, .int (nI 1)), (5, .int (nI dv)), (4, .int (nI cv)), (1, .ref (F 24)), (0, .ref b)]) hx hb dL_law_142 hl (k := 3) rfl (zinc (by omega)) (by decide) rfl (fun ls hl => ?_)
                    refine lv_goto (tgt := 12) hx hb dL_law_145 (by decide) ?_
                    exact J12 (iv + 1) (by omega) (by omega) T84 top84 Z84 P84 dg84 hTP84 hI84 H _ hP hS ls (lv_sub hl [0, 1, 4, 5] rfl)
