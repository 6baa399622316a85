/-! the law: one operation from the script to the answers -/
/-- both worlds, in step -/
def zSt (D : va_G) (cL cI cR : ClassId) (F G : Nat → Nat) (H : Heap) : Prop := ∃ (T : Nat → Nat → Int64) (top : Nat → Nat) (Z : zZC) (C : Nat → Nat → Int64) (dg : Nat → Nat) (Y : zZM) (P : Nat → Nat → Int64) (n : Nat → Nat),
  va_P D vwCl (zq_wd F 30 (zCE cL cR F T top Z)) H ∧ va_P D vwCl (zq_wd G 7 (zME cL cI G C dg Y)) H ∧ (∀ i, i < 8 → T i = P i ∧ top i = n i) ∧ (∀ i, i < 8 → C i = P i ∧ dg i = n i) ∧ zInv P n ∧ (∀ j, j < 17 → (Y.1 j).toInt64 = Z.1 j)

theorem lwo_setCoefficient {p : Program} {l : Launch} {e : Env} {s : State} {m : MethodId} {below : List Frame} {meth : Method} {c : Code} {D : va_G} {cL cI cR : ClassId} {F G : Nat → Nat} {A0 : Nat → Prop} {b L i : Nat} {xs : Nat → Int32} {Q : State → Prop} {H : Heap} {locs : List Loc} {ls : Array Slot}
    (hx : p.tables.exec = Jvm.exec) (hb : c.code = cL_law) (hml : c.maxLocals = 4) (hown : s.vm.findClass RL = some m.cls) (hts : ∀ w ∈ wsL_law, w.before #[Value.ref b] s = true) (hX : va_X b L xs s s.heap) (hbl : b < s.heap.size) (hbA : ¬ A0 b) (hL : L ≤ 3072) (hi : i + 5 < L) (hAm : zAm D cL cI cR A0 s) (hF : zq_F A0 F 30) (hG : zq_F A0 G 7) (hFG : ∀ i j, i < 30 → j < 7 → F i ≠ G j) (hst : zSt D cL cI cR F G H) (hS : va_S A0 s.heap H locs)
    (hl : lv_has ls 4 [(3, .int (nI i)), (2, .ref (G 0)), (1, .ref (F 24)), (0, .ref b)])
    (kk : ∀ (H1 : Heap) (locs1 : List Loc), zSt D cL cI cR F G H1 → va_S A0 s.heap H1 locs1 → W p l e room_1 s m #[Value.ref b] below meth c H1 locs1 600000 7302250 Q (F0 m 1056 ls [])) : W p l e room_1 s m #[Value.ref b] below meth c H locs 600000 7302250 Q (F0 m 152 ls []) := by
  obtain ⟨T, top, Z, C, dg, Y, P, n, hP, hPM, hTP, hCP, hI, hV⟩ := hst
  refine lv_aload_n hx hb dL_law_152 rfl (lv_at hl 2 rfl) ?_
  refine lv_aload_n hx hb dL_law_153 rfl (lv_at hl 3 rfl) ?_
  refine lv_iload_n hx hb dL_law_154 rfl (lv_at hl 0 rfl) ?_
  refine lv_iconst (v := nI 1) hx hb dL_law_155 (by decide +kernel) ?_
  refine ziadd (d := i + 1) hx hb rfl dL_law_156 ?_
  refine va_sld hx hb hX hbl hbA hS (vp_in_nI (by omega) (by omega)) dL_law_157 ?_
  refine W.eq (g2 := F0 m 158 ls [.int (xs (i + 1)), .ref (F 24)]) (by rw [nI_clamp (by omega)]) ?_
  refine lv_aload_n hx hb dL_law_158 rfl (lv_at hl 3 rfl) ?_
  refine lv_iload_n hx hb dL_law_159 rfl (lv_at hl 0 rfl) ?_
  refine lv_iconst (v := nI 2) hx hb dL_law_160 (by decide +kernel) ?_
  refine ziadd (d := i + 2) hx hb rfl dL_law_161 ?_
  refine va_sld hx hb hX hbl hbA hS (vp_in_nI (by omega) (by omega)) dL_law_162 ?_
  refine W.eq (g2 := F0 m 163 ls [.int (xs (i + 2)), .int (xs (i + 1)), .ref (F 24)]) (by rw [nI_clamp (by omega)]) ?_
  refine lv_aload_n hx hb dL_law_163 rfl (lv_at hl 3 rfl) ?_
  refine lv_iload_n hx hb dL_law_164 rfl (lv_at hl 0 rfl) ?_
  refine lv_iconst (v := nI 3) hx hb dL_law_165 (by decide +kernel) ?_
  refine ziadd (d := i + 3) hx hb rfl dL_law_166 ?_
  refine va_sld hx hb hX hbl hbA hS (vp_in_nI (by omega) (by omega)) dL_law_167 ?_
  refine W.eq (g2 := F0 m 168 ls [.int (xs (i + 3)), .int (xs (i + 2)), .int (xs (i + 1)), .ref (F 24)]) (by rw [nI_clamp (by omega)]) ?_
  obtain ⟨r, P', n', pv', vals', ⟨fr2, lo2, k2, hf2, hl2⟩, ⟨fr3, lo3, k3, hf3, hl3⟩, hI2, hV2⟩ := zDo_setCoefficient l D cL cI cR F G (zq_Fself hF) (zq_Fself hG) T top Z C dg Y P n hTP hCP hI hV (xs (i + 1)) (xs (i + 2)) (xs (i + 3))
  refine zcallC (As := [.int (xs (i + 1)), .int (xs (i + 2)), .int (xs (i + 3))]) (rest := []) (k := 3) hx hb hml hown hts k2 gL_law_X2_setCoefficient rfl (by decide +kernel) ⟨Nat.le_trans hf2 (by decide), Nat.le_trans (Nat.add_le_add_left hl2 _) (by decide)⟩ rfl hAm hP hPM hF hFG hS rfl hl.1 rfl (Nat.le_of_ble_eq_true rfl) dL_law_168 ⟨by decide, by decide⟩ (fun T2 top2 Z2 H locs hP hPM hT2 hZ2 hS => ?_)
  refine W.eq (g2 := F0 m 171 ls [.long r]) rfl ?_
  refine lv_aload_n hx hb dL_law_171 rfl (lv_at hl 1 rfl) ?_
  refine lv_aload_n hx hb dL_law_172 rfl (lv_at hl 3 rfl) ?_
  refine lv_iload_n hx hb dL_law_173 rfl (lv_at hl 0 rfl) ?_
  refine lv_iconst (v := nI 1) hx hb dL_law_174 (by decide +kernel) ?_
  refine ziadd (d := i + 1) hx hb rfl dL_law_175 ?_
  refine va_sld hx hb hX hbl hbA hS (vp_in_nI (by omega) (by omega)) dL_law_176 ?_
  refine W.eq (g2 := F0 m 177 ls [.int (xs (i + 1)), .ref (G 0), .long r]) (by rw [nI_clamp (by omega)]) ?_
  refine lv_aload_n hx hb dL_law_177 rfl (lv_at hl 3 rfl) ?_
  refine lv_iload_n hx hb dL_law_178 rfl (lv_at hl 0 rfl) ?_
  refine lv_iconst (v := nI 2) hx hb dL_law_179 (by decide +kernel) ?_
  refine ziadd (d := i + 2) hx hb rfl dL_law_180 ?_
  refine va_sld hx hb hX hbl hbA hS (vp_in_nI (by omega) (by omega)) dL_law_181 ?_
  refine W.eq (g2 := F0 m 182 ls [.int (xs (i + 2)), .int (xs (i + 1)), .ref (G 0), .long r]) (by rw [nI_clamp (by omega)]) ?_
  refine lv_aload_n hx hb dL_law_182 rfl (lv_at hl 3 rfl) ?_
  refine lv_iload_n hx hb dL_law_183 rfl (lv_at hl 0 rfl) ?_
  refine lv_iconst (v := nI 3) hx hb dL_law_184 (by decide +kernel) ?_
  refine ziadd (d := i + 3) hx hb rfl dL_law_185 ?_
  refine va_sld hx hb hX hbl hbA hS (vp_in_nI (by omega) (by omega)) dL_law_186 ?_
  refine W.eq (g2 := F0 m 187 ls [.int (xs (i + 3)), .int (xs (i + 2)), .int (xs (i + 1)), .ref (G 0), .long r]) (by rw [nI_clamp (by omega)]) ?_
  refine zcallD (As := [.int (xs (i + 1)), .int (xs (i + 2)), .int (xs (i + 3))]) (rest := [.long r]) (k := 3) hx hb hml hown hts k3 gL_law_X3_setCoefficient rfl (by decide +kernel) ⟨Nat.le_trans hf3 (by decide), Nat.le_trans (Nat.add_le_add_left hl3 _) (by decide)⟩ rfl hAm hP hPM hG hFG hS rfl hl.1 rfl (Nat.le_of_ble_eq_true rfl) dL_law_187 ⟨by decide, by decide⟩ (fun C2 dg2 Y2 H locs hP hPM hC2 hY2 hS => ?_)
  refine W.eq (g2 := F0 m 190 ls [.long r, .long r]) rfl ?_
  refine zl_eq (tgt := 1056) hx hb dL_law_190 dL_law_191 (by decide) (fun _ => ?_) (fun h9 => absurd rfl h9)
  exact kk H locs ⟨T2, top2, Z2, C2, dg2, Y2, P', n', hP, hPM, hT2, hC2, hI2, fun j hj => by rw [hZ2 j hj, hY2 j hj]; exact hV2 j hj⟩ hS
theorem lwo_coefficient {p : Program} {l : Launch} {e : Env} {s : State} {m : MethodId} {below : List Frame} {meth : Method} {c : Code} {D : va_G} {cL cI cR : ClassId} {F G : Nat → Nat} {A0 : Nat → Prop} {b L i : Nat} {xs : Nat → Int32} {Q : State → Prop} {H : Heap} {locs : List Loc} {ls : Array Slot}
    (hx : p.tables.exec = Jvm.exec) (hb : c.code = cL_law) (hml : c.maxLocals = 4) (hown : s.vm.findClass RL = some m.cls) (hts : ∀ w ∈ wsL_law, w.before #[Value.ref b] s = true) (hX : va_X b L xs s s.heap) (hbl : b < s.heap.size) (hbA : ¬ A0 b) (hL : L ≤ 3072) (hi : i + 5 < L) (hAm : zAm D cL cI cR A0 s) (hF : zq_F A0 F 30) (hG : zq_F A0 G 7) (hFG : ∀ i j, i < 30 → j < 7 → F i ≠ G j) (hst : zSt D cL cI cR F G H) (hS : va_S A0 s.heap H locs)
    (hl : lv_has ls 4 [(3, .int (nI i)), (2, .ref (G 0)), (1, .ref (F 24)), (0, .ref b)])
    (kk : ∀ (H1 : Heap) (locs1 : List Loc), zSt D cL cI cR F G H1 → va_S A0 s.heap H1 locs1 → W p l e room_1 s m #[Value.ref b] below meth c H1 locs1 600000 7302250 Q (F0 m 1056 ls [])) : W p l e room_1 s m #[Value.ref b] below meth c H locs 600000 7302250 Q (F0 m 196 ls []) := by
  obtain ⟨T, top, Z, C, dg, Y, P, n, hP, hPM, hTP, hCP, hI, hV⟩ := hst
  refine lv_aload_n hx hb dL_law_196 rfl (lv_at hl 2 rfl) ?_
  refine lv_aload_n hx hb dL_law_197 rfl (lv_at hl 3 rfl) ?_
  refine lv_iload_n hx hb dL_law_198 rfl (lv_at hl 0 rfl) ?_
  refine lv_iconst (v := nI 1) hx hb dL_law_199 (by decide +kernel) ?_
  refine ziadd (d := i + 1) hx hb rfl dL_law_200 ?_
  refine va_sld hx hb hX hbl hbA hS (vp_in_nI (by omega) (by omega)) dL_law_201 ?_
  refine W.eq (g2 := F0 m 202 ls [.int (xs (i + 1)), .ref (F 24)]) (by rw [nI_clamp (by omega)]) ?_
  refine lv_aload_n hx hb dL_law_202 rfl (lv_at hl 3 rfl) ?_
  refine lv_iload_n hx hb dL_law_203 rfl (lv_at hl 0 rfl) ?_
  refine lv_iconst (v := nI 2) hx hb dL_law_204 (by decide +kernel) ?_
  refine ziadd (d := i + 2) hx hb rfl dL_law_205 ?_
  refine va_sld hx hb hX hbl hbA hS (vp_in_nI (by omega) (by omega)) dL_law_206 ?_
  refine W.eq (g2 := F0 m 207 ls [.int (xs (i + 2)), .int (xs (i + 1)), .ref (F 24)]) (by rw [nI_clamp (by omega)]) ?_
  obtain ⟨r, P', n', pv', vals', ⟨fr2, lo2, k2, hf2, hl2⟩, ⟨fr3, lo3, k3, hf3, hl3⟩, hI2, hV2⟩ := zDo_coefficient l D cL cI cR F G (zq_Fself hF) (zq_Fself hG) T top Z C dg Y P n hTP hCP hI hV (xs (i + 1)) (xs (i + 2))
  refine zcallC (As := [.int (xs (i + 1)), .int (xs (i + 2))]) (rest := []) (k := 2) hx hb hml hown hts k2 gL_law_X2_coefficient rfl (by decide +kernel) ⟨Nat.le_trans hf2 (by decide), Nat.le_trans (Nat.add_le_add_left hl2 _) (by decide)⟩ rfl hAm hP hPM hF hFG hS rfl hl.1 rfl (Nat.le_of_ble_eq_true rfl) dL_law_207 ⟨by decide, by decide⟩ (fun T2 top2 Z2 H locs hP hPM hT2 hZ2 hS => ?_)
  refine W.eq (g2 := F0 m 210 ls [.long r]) rfl ?_
  refine lv_aload_n hx hb dL_law_210 rfl (lv_at hl 1 rfl) ?_
  refine lv_aload_n hx hb dL_law_211 rfl (lv_at hl 3 rfl) ?_
  refine lv_iload_n hx hb dL_law_212 rfl (lv_at hl 0 rfl) ?_
  refine lv_iconst (v := nI 1) hx hb dL_law_213 (by decide +kernel) ?_
  refine ziadd (d := i + 1) hx hb rfl dL_law_214 ?_
  refine va_sld hx hb hX hbl hbA hS (vp_in_nI (by omega) (by omega)) dL_law_215 ?_
  refine W.eq (g2 := F0 m 216 ls [.int (xs (i + 1)), .ref (G 0), .long r]) (by rw [nI_clamp (by omega)]) ?_
  refine lv_aload_n hx hb dL_law_216 rfl (lv_at hl 3 rfl) ?_
  refine lv_iload_n hx hb dL_law_217 rfl (lv_at hl 0 rfl) ?_
  refine lv_iconst (v := nI 2) hx hb dL_law_218 (by decide +kernel) ?_
  refine ziadd (d := i + 2) hx hb rfl dL_law_219 ?_
  refine va_sld hx hb hX hbl hbA hS (vp_in_nI (by omega) (by omega)) dL_law_220 ?_
  refine W.eq (g2 := F0 m 221 ls [.int (xs (i + 2)), .int (xs (i + 1)), .ref (G 0), .long r]) (by rw [nI_clamp (by omega)]) ?_
  refine zcallD (As := [.int (xs (i + 1)), .int (xs (i + 2))]) (rest := [.long r]) (k := 2) hx hb hml hown hts k3 gL_law_X3_coefficient rfl (by decide +kernel) ⟨Nat.le_trans hf3 (by decide), Nat.le_trans (Nat.add_le_add_left hl3 _) (by decide)⟩ rfl hAm hP hPM hG hFG hS rfl hl.1 rfl (Nat.le_of_ble_eq_true rfl) dL_law_221 ⟨by decide, by decide⟩ (fun C2 dg2 Y2 H locs hP hPM hC2 hY2 hS => ?_)
  refine W.eq (g2 := F0 m 224 ls [.long r, .long r]) rfl ?_
  refine zl_eq (tgt := 1056) hx hb dL_law_224 dL_law_225 (by decide) (fun _ => ?_) (fun h9 => absurd rfl h9)
  exact kk H locs ⟨T2, top2, Z2, C2, dg2, Y2, P', n', hP, hPM, hT2, hC2, hI2, fun j hj => by rw [hZ2 j hj, hY2 j hj]; exact hV2 j hj⟩ hS
theorem lwo_degree {p : Program} {l : Launch} {e : Env} {s : State} {m : MethodId} {below : List Frame} {meth : Method} {c : Code} {D : va_G} {cL cI cR : ClassId} {F G : Nat → Nat} {A0 : Nat → Prop} {b L i : Nat} {xs : Nat → Int32} {Q : State → Prop} {H : Heap} {locs : List Loc} {ls : Array Slot}
    (hx : p.tables.exec = Jvm.exec) (hb : c.code = cL_law) (hml : c.maxLocals = 4) (hown : s.vm.findClass RL = some m.cls) (hts : ∀ w ∈ wsL_law, w.before #[Value.ref b] s = true) (hX : va_X b L xs s s.heap) (hbl : b < s.heap.size) (hbA : ¬ A0 b) (hL : L ≤ 3072) (hi : i + 5 < L) (hAm : zAm D cL cI cR A0 s) (hF : zq_F A0 F 30) (hG : zq_F A0 G 7) (hFG : ∀ i j, i < 30 → j < 7 → F i ≠ G j) (hst : zSt D cL cI cR F G H) (hS : va_S A0 s.heap H locs)
    (hl : lv_has ls 4 [(3, .int (nI i)), (2, .ref (G 0)), (1, .ref (F 24)), (0, .ref b)])
    (kk : ∀ (H1 : Heap) (locs1 : List Loc), zSt D cL cI cR F G H1 → va_S A0 s.heap H1 locs1 → W p l e room_1 s m #[Value.ref b] below meth c H1 locs1 600000 7302250 Q (F0 m 1056 ls [])) : W p l e room_1 s m #[Value.ref b] below meth c H locs 600000 7302250 Q (F0 m 230 ls []) := by
  obtain ⟨T, top, Z, C, dg, Y, P, n, hP, hPM, hTP, hCP, hI, hV⟩ := hst
  refine lv_aload_n hx hb dL_law_230 rfl (lv_at hl 2 rfl) ?_
  refine lv_aload_n hx hb dL_law_231 rfl (lv_at hl 3 rfl) ?_
  refine lv_iload_n hx hb dL_law_232 rfl (lv_at hl 0 rfl) ?_
  refine lv_iconst (v := nI 1) hx hb dL_law_233 (by decide +kernel) ?_
  refine ziadd (d := i + 1) hx hb rfl dL_law_234 ?_
  refine va_sld hx hb hX hbl hbA hS (vp_in_nI (by omega) (by omega)) dL_law_235 ?_
  refine W.eq (g2 := F0 m 236 ls [.int (xs (i + 1)), .ref (F 24)]) (by rw [nI_clamp (by omega)]) ?_
  obtain ⟨r, P', n', pv', vals', ⟨fr2, lo2, k2, hf2, hl2⟩, ⟨fr3, lo3, k3, hf3, hl3⟩, hI2, hV2⟩ := zDo_degree l D cL cI cR F G (zq_Fself hF) (zq_Fself hG) T top Z C dg Y P n hTP hCP hI hV (xs (i + 1))
  refine zcallC (As := [.int (xs (i + 1))]) (rest := []) (k := 1) hx hb hml hown hts k2 gL_law_X2_degree rfl (by decide +kernel) ⟨Nat.le_trans hf2 (by decide), Nat.le_trans (Nat.add_le_add_left hl2 _) (by decide)⟩ rfl hAm hP hPM hF hFG hS rfl hl.1 rfl (Nat.le_of_ble_eq_true rfl) dL_law_236 ⟨by decide, by decide⟩ (fun T2 top2 Z2 H locs hP hPM hT2 hZ2 hS => ?_)
  refine W.eq (g2 := F0 m 239 ls [.long r]) rfl ?_
  refine lv_aload_n hx hb dL_law_239 rfl (lv_at hl 1 rfl) ?_
  refine lv_aload_n hx hb dL_law_240 rfl (lv_at hl 3 rfl) ?_
  refine lv_iload_n hx hb dL_law_241 rfl (lv_at hl 0 rfl) ?_
  refine lv_iconst (v := nI 1) hx hb dL_law_242 (by decide +kernel) ?_
  refine ziadd (d := i + 1) hx hb rfl dL_law_243 ?_
  refine va_sld hx hb hX hbl hbA hS (vp_in_nI (by omega) (by omega)) dL_law_244 ?_
  refine W.eq (g2 := F0 m 245 ls [.int (xs (i + 1)), .ref (G 0), .long r]) (by rw [nI_clamp (by omega)]) ?_
  refine zcallD (As := [.int (xs (i + 1))]) (rest := [.long r]) (k := 1) hx hb hml hown hts k3 gL_law_X3_degree rfl (by decide +kernel) ⟨Nat.le_trans hf3 (by decide), Nat.le_trans (Nat.add_le_add_left hl3 _) (by decide)⟩ rfl hAm hP hPM hG hFG hS rfl hl.1 rfl (Nat.le_of_ble_eq_true rfl) dL_law_245 ⟨by decide, by decide⟩ (fun C2 dg2 Y2 H locs hP hPM hC2 hY2 hS => ?_)
  refine W.eq (g2 := F0 m 248 ls [.long r, .long r]) rfl ?_
  refine zl_eq (tgt := 1056) hx hb dL_law_248 dL_law_249 (by decide) (fun _ => ?_) (fun h9 => absurd rfl h9)
  exact kk H locs ⟨T2, top2, Z2, C2, dg2, Y2, P', n', hP, hPM, hT2, hC2, hI2, fun j hj => by rw [hZ2 j hj, hY2 j hj]; exact hV2 j hj⟩ hS
theorem lwo_copy {p : Program} {l : Launch} {e : Env} {s : State} {m : MethodId} {below : List Frame} {meth : Method} {c : Code} {D : va_G} {cL cI cR : ClassId} {F G : Nat → Nat} {A0 : Nat → Prop} {b L i : Nat} {xs : Nat → Int32} {Q : State → Prop} {H : Heap} {locs : List Loc} {ls : Array Slot}
    (hx : p.tables.exec = Jvm.exec) (hb : c.code = cL_law) (hml : c.maxLocals = 4) (hown : s.vm.findClass RL = some m.cls) (hts : ∀ w ∈ wsL_law, w.before #[Value.ref b] s = true) (hX : va_X b L xs s s.heap) (hbl : b < s.heap.size) (hbA : ¬ A0 b) (hL : L ≤ 3072) (hi : i + 5 < L) (hAm : zAm D cL cI cR A0 s) (hF : zq_F A0 F 30) (hG : zq_F A0 G 7) (hFG : ∀ i j, i < 30 → j < 7 → F i ≠ G j) (hst : zSt D cL cI cR F G H) (hS : va_S A0 s.heap H locs)
    (hl : lv_has ls 4 [(3, .int (nI i)), (2, .ref (G 0)), (1, .ref (F 24)), (0, .ref b)])
    (kk : ∀ (H1 : Heap) (locs1 : List Loc), zSt D cL cI cR F G H1 → va_S A0 s.heap H1 locs1 → W p l e room_1 s m #[Value.ref b] below meth c H1 locs1 600000 7302250 Q (F0 m 1056 ls [])) : W p l e room_1 s m #[Value.ref b] below meth c H locs 600000 7302250 Q (F0 m 254 ls []) := by
  obtain ⟨T, top, Z, C, dg, Y, P, n, hP, hPM, hTP, hCP, hI, hV⟩ := hst
  refine lv_aload_n hx hb dL_law_254 rfl (lv_at hl 2 rfl) ?_
  refine lv_aload_n hx hb dL_law_255 rfl (lv_at hl 3 rfl) ?_
  refine lv_iload_n hx hb dL_law_256 rfl (lv_at hl 0 rfl) ?_
  refine lv_iconst (v := nI 1) hx hb dL_law_257 (by decide +kernel) ?_
  refine ziadd (d := i + 1) hx hb rfl dL_law_258 ?_
  refine va_sld hx hb hX hbl hbA hS (vp_in_nI (by omega) (by omega)) dL_law_259 ?_
  refine W.eq (g2 := F0 m 260 ls [.int (xs (i + 1)), .ref (F 24)]) (by rw [nI_clamp (by omega)]) ?_
  refine lv_aload_n hx hb dL_law_260 rfl (lv_at hl 3 rfl) ?_
  refine lv_iload_n hx hb dL_law_261 rfl (lv_at hl 0 rfl) ?_
  refine lv_iconst (v := nI 2) hx hb dL_law_262 (by decide +kernel) ?_
  refine ziadd (d := i + 2) hx hb rfl dL_law_263 ?_
  refine va_sld hx hb hX hbl hbA hS (vp_in_nI (by omega) (by omega)) dL_law_264 ?_
  refine W.eq (g2 := F0 m 265 ls [.int (xs (i + 2)), .int (xs (i + 1)), .ref (F 24)]) (by rw [nI_clamp (by omega)]) ?_
  obtain ⟨r, P', n', pv', vals', ⟨fr2, lo2, k2, hf2, hl2⟩, ⟨fr3, lo3, k3, hf3, hl3⟩, hI2, hV2⟩ := zDo_copy l D cL cI cR F G (zq_Fself hF) (zq_Fself hG) T top Z C dg Y P n hTP hCP hI hV (xs (i + 1)) (xs (i + 2))
  refine zcallC (As := [.int (xs (i + 1)), .int (xs (i + 2))]) (rest := []) (k := 2) hx hb hml hown hts k2 gL_law_X2_copy rfl (by decide +kernel) ⟨Nat.le_trans hf2 (by decide), Nat.le_trans (Nat.add_le_add_left hl2 _) (by decide)⟩ rfl hAm hP hPM hF hFG hS rfl hl.1 rfl (Nat.le_of_ble_eq_true rfl) dL_law_265 ⟨by decide, by decide⟩ (fun T2 top2 Z2 H locs hP hPM hT2 hZ2 hS => ?_)
  refine W.eq (g2 := F0 m 268 ls [.long r]) rfl ?_
  refine lv_aload_n hx hb dL_law_268 rfl (lv_at hl 1 rfl) ?_
  refine lv_aload_n hx hb dL_law_269 rfl (lv_at hl 3 rfl) ?_
  refine lv_iload_n hx hb dL_law_270 rfl (lv_at hl 0 rfl) ?_
  refine lv_iconst (v := nI 1) hx hb dL_law_271 (by decide +kernel) ?_
  refine ziadd (d := i + 1) hx hb rfl dL_law_272 ?_
  refine va_sld hx hb hX hbl hbA hS (vp_in_nI (by omega) (by omega)) dL_law_273 ?_
  refine W.eq (g2 := F0 m 274 ls [.int (xs (i + 1)), .ref (G 0), .long r]) (by rw [nI_clamp (by omega)]) ?_
  refine lv_aload_n hx hb dL_law_274 rfl (lv_at hl 3 rfl) ?_
  refine lv_iload_n hx hb dL_law_275 rfl (lv_at hl 0 rfl) ?_
  refine lv_iconst (v := nI 2) hx hb dL_law_276 (by decide +kernel) ?_
  refine ziadd (d := i + 2) hx hb rfl dL_law_277 ?_
  refine va_sld hx hb hX hbl hbA hS (vp_in_nI (by omega) (by omega)) dL_law_278 ?_
  refine W.eq (g2 := F0 m 279 ls [.int (xs (i + 2)), .int (xs (i + 1)), .ref (G 0), .long r]) (by rw [nI_clamp (by omega)]) ?_
  refine zcallD (As := [.int (xs (i + 1)), .int (xs (i + 2))]) (rest := [.long r]) (k := 2) hx hb hml hown hts k3 gL_law_X3_copy rfl (by decide +kernel) ⟨Nat.le_trans hf3 (by decide), Nat.le_trans (Nat.add_le_add_left hl3 _) (by decide)⟩ rfl hAm hP hPM hG hFG hS rfl hl.1 rfl (Nat.le_of_ble_eq_true rfl) dL_law_279 ⟨by decide, by decide⟩ (fun C2 dg2 Y2 H locs hP hPM hC2 hY2 hS => ?_)
  refine W.eq (g2 := F0 m 282 ls [.long r, .long r]) rfl ?_
  refine zl_eq (tgt := 1056) hx hb dL_law_282 dL_law_283 (by decide) (fun _ => ?_) (fun h9 => absurd rfl h9)
  exact kk H locs ⟨T2, top2, Z2, C2, dg2, Y2, P', n', hP, hPM, hT2, hC2, hI2, fun j hj => by rw [hZ2 j hj, hY2 j hj]; exact hV2 j hj⟩ hS
theorem lwo_value {p : Program} {l : Launch} {e : Env} {s : State} {m : MethodId} {below : List Frame} {meth : Method} {c : Code} {D : va_G} {cL cI cR : ClassId} {F G : Nat → Nat} {A0 : Nat → Prop} {b L i : Nat} {xs : Nat → Int32} {Q : State → Prop} {H : Heap} {locs : List Loc} {ls : Array Slot}
    (hx : p.tables.exec = Jvm.exec) (hb : c.code = cL_law) (hml : c.maxLocals = 4) (hown : s.vm.findClass RL = some m.cls) (hts : ∀ w ∈ wsL_law, w.before #[Value.ref b] s = true) (hX : va_X b L xs s s.heap) (hbl : b < s.heap.size) (hbA : ¬ A0 b) (hL : L ≤ 3072) (hi : i + 5 < L) (hAm : zAm D cL cI cR A0 s) (hF : zq_F A0 F 30) (hG : zq_F A0 G 7) (hFG : ∀ i j, i < 30 → j < 7 → F i ≠ G j) (hst : zSt D cL cI cR F G H) (hS : va_S A0 s.heap H locs)
    (hl : lv_has ls 4 [(3, .int (nI i)), (2, .ref (G 0)), (1, .ref (F 24)), (0, .ref b)])
    (kk : ∀ (H1 : Heap) (locs1 : List Loc), zSt D cL cI cR F G H1 → va_S A0 s.heap H1 locs1 → W p l e room_1 s m #[Value.ref b] below meth c H1 locs1 600000 7302250 Q (F0 m 1056 ls [])) : W p l e room_1 s m #[Value.ref b] below meth c H locs 600000 7302250 Q (F0 m 288 ls []) := by
  obtain ⟨T, top, Z, C, dg, Y, P, n, hP, hPM, hTP, hCP, hI, hV⟩ := hst
  refine lv_aload_n hx hb dL_law_288 rfl (lv_at hl 2 rfl) ?_
  refine lv_aload_n hx hb dL_law_289 rfl (lv_at hl 3 rfl) ?_
  refine lv_iload_n hx hb dL_law_290 rfl (lv_at hl 0 rfl) ?_
  refine lv_iconst (v := nI 1) hx hb dL_law_291 (by decide +kernel) ?_
  refine ziadd (d := i + 1) hx hb rfl dL_law_292 ?_
  refine va_sld hx hb hX hbl hbA hS (vp_in_nI (by omega) (by omega)) dL_law_293 ?_
  refine W.eq (g2 := F0 m 294 ls [.int (xs (i + 1)), .ref (F 24)]) (by rw [nI_clamp (by omega)]) ?_
  refine lv_aload_n hx hb dL_law_294 rfl (lv_at hl 3 rfl) ?_
  refine lv_iload_n hx hb dL_law_295 rfl (lv_at hl 0 rfl) ?_
  refine lv_iconst (v := nI 2) hx hb dL_law_296 (by decide +kernel) ?_
  refine ziadd (d := i + 2) hx hb rfl dL_law_297 ?_
  refine va_sld hx hb hX hbl hbA hS (vp_in_nI (by omega) (by omega)) dL_law_298 ?_
  refine W.eq (g2 := F0 m 299 ls [.int (xs (i + 2)), .int (xs (i + 1)), .ref (F 24)]) (by rw [nI_clamp (by omega)]) ?_
  obtain ⟨r, P', n', pv', vals', ⟨fr2, lo2, k2, hf2, hl2⟩, ⟨fr3, lo3, k3, hf3, hl3⟩, hI2, hV2⟩ := zDo_value l D cL cI cR F G (zq_Fself hF) (zq_Fself hG) T top Z C dg Y P n hTP hCP hI hV (xs (i + 1)) (xs (i + 2))
  refine zcallC (As := [.int (xs (i + 1)), .int (xs (i + 2))]) (rest := []) (k := 2) hx hb hml hown hts k2 gL_law_X2_value rfl (by decide +kernel) ⟨Nat.le_trans hf2 (by decide), Nat.le_trans (Nat.add_le_add_left hl2 _) (by decide)⟩ rfl hAm hP hPM hF hFG hS rfl hl.1 rfl (Nat.le_of_ble_eq_true rfl) dL_law_299 ⟨by decide, by decide⟩ (fun T2 top2 Z2 H locs hP hPM hT2 hZ2 hS => ?_)
  refine W.eq (g2 := F0 m 302 ls [.long r]) rfl ?_
  refine lv_aload_n hx hb dL_law_302 rfl (lv_at hl 1 rfl) ?_
  refine lv_aload_n hx hb dL_law_303 rfl (lv_at hl 3 rfl) ?_
  refine lv_iload_n hx hb dL_law_304 rfl (lv_at hl 0 rfl) ?_
  refine lv_iconst (v := nI 1) hx hb dL_law_305 (by decide +kernel) ?_
  refine ziadd (d := i + 1) hx hb rfl dL_law_306 ?_
  refine va_sld hx hb hX hbl hbA hS (vp_in_nI (by omega) (by omega)) dL_law_307 ?_
  refine W.eq (g2 := F0 m 308 ls [.int (xs (i + 1)), .ref (G 0), .long r]) (by rw [nI_clamp (by omega)]) ?_
  refine lv_aload_n hx hb dL_law_308 rfl (lv_at hl 3 rfl) ?_
  refine lv_iload_n hx hb dL_law_309 rfl (lv_at hl 0 rfl) ?_
  refine lv_iconst (v := nI 2) hx hb dL_law_310 (by decide +kernel) ?_
  refine ziadd (d := i + 2) hx hb rfl dL_law_311 ?_
  refine va_sld hx hb hX hbl hbA hS (vp_in_nI (by omega) (by omega)) dL_law_312 ?_
  refine W.eq (g2 := F0 m 313 ls [.int (xs (i + 2)), .int (xs (i + 1)), .ref (G 0), .long r]) (by rw [nI_clamp (by omega)]) ?_
  refine zcallD (As := [.int (xs (i + 1)), .int (xs (i + 2))]) (rest := [.long r]) (k := 2) hx hb hml hown hts k3 gL_law_X3_value rfl (by decide +kernel) ⟨Nat.le_trans hf3 (by decide), Nat.le_trans (Nat.add_le_add_left hl3 _) (by decide)⟩ rfl hAm hP hPM hG hFG hS rfl hl.1 rfl (Nat.le_of_ble_eq_true rfl) dL_law_313 ⟨by decide, by decide⟩ (fun C2 dg2 Y2 H locs hP hPM hC2 hY2 hS => ?_)
  refine W.eq (g2 := F0 m 316 ls [.long r, .long r]) rfl ?_
  refine zl_eq (tgt := 1056) hx hb dL_law_316 dL_law_317 (by decide) (fun _ => ?_) (fun h9 => absurd rfl h9)
  exact kk H locs ⟨T2, top2, Z2, C2, dg2, Y2, P', n', hP, hPM, hT2, hC2, hI2, fun j hj => by rw [hZ2 j hj, hY2 j hj]; exact hV2 j hj⟩ hS
theorem lwo_add {p : Program} {l : Launch} {e : Env} {s : State} {m : MethodId} {below : List Frame} {meth : Method} {c : Code} {D : va_G} {cL cI cR : ClassId} {F G : Nat → Nat} {A0 : Nat → Prop} {b L i : Nat} {xs : Nat → Int32} {Q : State → Prop} {H : Heap} {locs : List Loc} {ls : Array Slot}
    (hx : p.tables.exec = Jvm.exec) (hb : c.code = cL_law) (hml : c.maxLocals = 4) (hown : s.vm.findClass RL = some m.cls) (hts : ∀ w ∈ wsL_law, w.before #[Value.ref b] s = true) (hX : va_X b L xs s s.heap) (hbl : b < s.heap.size) (hbA : ¬ A0 b) (hL : L ≤ 3072) (hi : i + 5 < L) (hAm : zAm D cL cI cR A0 s) (hF : zq_F A0 F 30) (hG : zq_F A0 G 7) (hFG : ∀ i j, i < 30 → j < 7 → F i ≠ G j) (hst : zSt D cL cI cR F G H) (hS : va_S A0 s.heap H locs)
    (hl : lv_has ls 4 [(3, .int (nI i)), (2, .ref (G 0)), (1, .ref (F 24)), (0, .ref b)])
    (kk : ∀ (H1 : Heap) (locs1 : List Loc), zSt D cL cI cR F G H1 → va_S A0 s.heap H1 locs1 → W p l e room_1 s m #[Value.ref b] below meth c H1 locs1 600000 7302250 Q (F0 m 1056 ls [])) : W p l e room_1 s m #[Value.ref b] below meth c H locs 600000 7302250 Q (F0 m 322 ls []) := by
  obtain ⟨T, top, Z, C, dg, Y, P, n, hP, hPM, hTP, hCP, hI, hV⟩ := hst
  refine lv_aload_n hx hb dL_law_322 rfl (lv_at hl 2 rfl) ?_
  refine lv_aload_n hx hb dL_law_323 rfl (lv_at hl 3 rfl) ?_
  refine lv_iload_n hx hb dL_law_324 rfl (lv_at hl 0 rfl) ?_
  refine lv_iconst (v := nI 1) hx hb dL_law_325 (by decide +kernel) ?_
  refine ziadd (d := i + 1) hx hb rfl dL_law_326 ?_
  refine va_sld hx hb hX hbl hbA hS (vp_in_nI (by omega) (by omega)) dL_law_327 ?_
  refine W.eq (g2 := F0 m 328 ls [.int (xs (i + 1)), .ref (F 24)]) (by rw [nI_clamp (by omega)]) ?_
  refine lv_aload_n hx hb dL_law_328 rfl (lv_at hl 3 rfl) ?_
  refine lv_iload_n hx hb dL_law_329 rfl (lv_at hl 0 rfl) ?_
  refine lv_iconst (v := nI 2) hx hb dL_law_330 (by decide +kernel) ?_
  refine ziadd (d := i + 2) hx hb rfl dL_law_331 ?_
  refine va_sld hx hb hX hbl hbA hS (vp_in_nI (by omega) (by omega)) dL_law_332 ?_
  refine W.eq (g2 := F0 m 333 ls [.int (xs (i + 2)), .int (xs (i + 1)), .ref (F 24)]) (by rw [nI_clamp (by omega)]) ?_
  refine lv_aload_n hx hb dL_law_333 rfl (lv_at hl 3 rfl) ?_
  refine lv_iload_n hx hb dL_law_334 rfl (lv_at hl 0 rfl) ?_
  refine lv_iconst (v := nI 3) hx hb dL_law_335 (by decide +kernel) ?_
  refine ziadd (d := i + 3) hx hb rfl dL_law_336 ?_
  refine va_sld hx hb hX hbl hbA hS (vp_in_nI (by omega) (by omega)) dL_law_337 ?_
  refine W.eq (g2 := F0 m 338 ls [.int (xs (i + 3)), .int (xs (i + 2)), .int (xs (i + 1)), .ref (F 24)]) (by rw [nI_clamp (by omega)]) ?_
  refine lv_aload_n hx hb dL_law_338 rfl (lv_at hl 3 rfl) ?_
  refine lv_iload_n hx hb dL_law_339 rfl (lv_at hl 0 rfl) ?_
  refine lv_iconst (v := nI 4) hx hb dL_law_340 (by decide +kernel) ?_
  refine ziadd (d := i + 4) hx hb rfl dL_law_341 ?_
  refine va_sld hx hb hX hbl hbA hS (vp_in_nI (by omega) (by omega)) dL_law_342 ?_
  refine W.eq (g2 := F0 m 343 ls [.int (xs (i + 4)), .int (xs (i + 3)), .int (xs (i + 2)), .int (xs (i + 1)), .ref (F 24)]) (by rw [nI_clamp (by omega)]) ?_
  refine lv_aload_n hx hb dL_law_343 rfl (lv_at hl 3 rfl) ?_
  refine lv_iload_n hx hb dL_law_344 rfl (lv_at hl 0 rfl) ?_
  refine lv_iconst (v := nI 5) hx hb dL_law_345 (by decide +kernel) ?_
  refine ziadd (d := i + 5) hx hb rfl dL_law_346 ?_
  refine va_sld hx hb hX hbl hbA hS (vp_in_nI (by omega) (by omega)) dL_law_347 ?_
  refine W.eq (g2 := F0 m 348 ls [.int (xs (i + 5)), .int (xs (i + 4)), .int (xs (i + 3)), .int (xs (i + 2)), .int (xs (i + 1)), .ref (F 24)]) (by rw [nI_clamp (by omega)]) ?_
  obtain ⟨r, P', n', pv', vals', ⟨fr2, lo2, k2, hf2, hl2⟩, ⟨fr3, lo3, k3, hf3, hl3⟩, hI2, hV2⟩ := zDo_add l D cL cI cR F G (zq_Fself hF) (zq_Fself hG) T top Z C dg Y P n hTP hCP hI hV (xs (i + 1)) (xs (i + 2)) (xs (i + 3)) (xs (i + 4)) (xs (i + 5))
  refine zcallC (As := [.int (xs (i + 1)), .int (xs (i + 2)), .int (xs (i + 3)), .int (xs (i + 4)), .int (xs (i + 5))]) (rest := []) (k := 5) hx hb hml hown hts k2 gL_law_X2_add rfl (by decide +kernel) ⟨Nat.le_trans hf2 (by decide), Nat.le_trans (Nat.add_le_add_left hl2 _) (by decide)⟩ rfl hAm hP hPM hF hFG hS rfl hl.1 rfl (Nat.le_of_ble_eq_true rfl) dL_law_348 ⟨by decide, by decide⟩ (fun T2 top2 Z2 H locs hP hPM hT2 hZ2 hS => ?_)
  refine W.eq (g2 := F0 m 351 ls [.long r]) rfl ?_
  refine lv_aload_n hx hb dL_law_351 rfl (lv_at hl 1 rfl) ?_
  refine lv_aload_n hx hb dL_law_352 rfl (lv_at hl 3 rfl) ?_
  refine lv_iload_n hx hb dL_law_353 rfl (lv_at hl 0 rfl) ?_
  refine lv_iconst (v := nI 1) hx hb dL_law_354 (by decide +kernel) ?_
  refine ziadd (d := i + 1) hx hb rfl dL_law_355 ?_
  refine va_sld hx hb hX hbl hbA hS (vp_in_nI (by omega) (by omega)) dL_law_356 ?_
  refine W.eq (g2 := F0 m 357 ls [.int (xs (i + 1)), .ref (G 0), .long r]) (by rw [nI_clamp (by omega)]) ?_
  refine lv_aload_n hx hb dL_law_357 rfl (lv_at hl 3 rfl) ?_
  refine lv_iload_n hx hb dL_law_358 rfl (lv_at hl 0 rfl) ?_
  refine lv_iconst (v := nI 2) hx hb dL_law_359 (by decide +kernel) ?_
  refine ziadd (d := i + 2) hx hb rfl dL_law_360 ?_
  refine va_sld hx hb hX hbl hbA hS (vp_in_nI (by omega) (by omega)) dL_law_361 ?_
  refine W.eq (g2 := F0 m 362 ls [.int (xs (i + 2)), .int (xs (i + 1)), .ref (G 0), .long r]) (by rw [nI_clamp (by omega)]) ?_
  refine lv_aload_n hx hb dL_law_362 rfl (lv_at hl 3 rfl) ?_
  refine lv_iload_n hx hb dL_law_363 rfl (lv_at hl 0 rfl) ?_
  refine lv_iconst (v := nI 3) hx hb dL_law_364 (by decide +kernel) ?_
  refine ziadd (d := i + 3) hx hb rfl dL_law_365 ?_
  refine va_sld hx hb hX hbl hbA hS (vp_in_nI (by omega) (by omega)) dL_law_366 ?_
  refine W.eq (g2 := F0 m 367 ls [.int (xs (i + 3)), .int (xs (i + 2)), .int (xs (i + 1)), .ref (G 0), .long r]) (by rw [nI_clamp (by omega)]) ?_
  refine lv_aload_n hx hb dL_law_367 rfl (lv_at hl 3 rfl) ?_
  refine lv_iload_n hx hb dL_law_368 rfl (lv_at hl 0 rfl) ?_
  refine lv_iconst (v := nI 4) hx hb dL_law_369 (by decide +kernel) ?_
  refine ziadd (d := i + 4) hx hb rfl dL_law_370 ?_
  refine va_sld hx hb hX hbl hbA hS (vp_in_nI (by omega) (by omega)) dL_law_371 ?_
  refine W.eq (g2 := F0 m 372 ls [.int (xs (i + 4)), .int (xs (i + 3)), .int (xs (i + 2)), .int (xs (i + 1)), .ref (G 0), .long r]) (by rw [nI_clamp (by omega)]) ?_
  refine lv_aload_n hx hb dL_law_372 rfl (lv_at hl 3 rfl) ?_
  refine lv_iload_n hx hb dL_law_373 rfl (lv_at hl 0 rfl) ?_
  refine lv_iconst (v := nI 5) hx hb dL_law_374 (by decide +kernel) ?_
  refine ziadd (d := i + 5) hx hb rfl dL_law_375 ?_
  refine va_sld hx hb hX hbl hbA hS (vp_in_nI (by omega) (by omega)) dL_law_376 ?_
  refine W.eq (g2 := F0 m 377 ls [.int (xs (i + 5)), .int (xs (i + 4)), .int (xs (i + 3)), .int (xs (i + 2)), .int (xs (i + 1)), .ref (G 0), .long r]) (by rw [nI_clamp (by omega)]) ?_
  refine zcallD (As := [.int (xs (i + 1)), .int (xs (i + 2)), .int (xs (i + 3)), .int (xs (i + 4)), .int (xs (i + 5))]) (rest := [.long r]) (k := 5) hx hb hml hown hts k3 gL_law_X3_add rfl (by decide +kernel) ⟨Nat.le_trans hf3 (by decide), Nat.le_trans (Nat.add_le_add_left hl3 _) (by decide)⟩ rfl hAm hP hPM hG hFG hS rfl hl.1 rfl (Nat.le_of_ble_eq_true rfl) dL_law_377 ⟨by decide, by decide⟩ (fun C2 dg2 Y2 H locs hP hPM hC2 hY2 hS => ?_)
  refine W.eq (g2 := F0 m 380 ls [.long r, .long r]) rfl ?_
  refine zl_eq (tgt := 1056) hx hb dL_law_380 dL_law_381 (by decide) (fun _ => ?_) (fun h9 => absurd rfl h9)
  exact kk H locs ⟨T2, top2, Z2, C2, dg2, Y2, P', n', hP, hPM, hT2, hC2, hI2, fun j hj => by rw [hZ2 j hj, hY2 j hj]; exact hV2 j hj⟩ hS
theorem lwo_multiply {p : Program} {l : Launch} {e : Env} {s : State} {m : MethodId} {below : List Frame} {meth : Method} {c : Code} {D : va_G} {cL cI cR : ClassId} {F G : Nat → Nat} {A0 : Nat → Prop} {b L i : Nat} {xs : Nat → Int32} {Q : State → Prop} {H : Heap} {locs : List Loc} {ls : Array Slot}
    (hx : p.tables.exec = Jvm.exec) (hb : c.code = cL_law) (hml : c.maxLocals = 4) (hown : s.vm.findClass RL = some m.cls) (hts : ∀ w ∈ wsL_law, w.before #[Value.ref b] s = true) (hX : va_X b L xs s s.heap) (hbl : b < s.heap.size) (hbA : ¬ A0 b) (hL : L ≤ 3072) (hi : i + 5 < L) (hAm : zAm D cL cI cR A0 s) (hF : zq_F A0 F 30) (hG : zq_F A0 G 7) (hFG : ∀ i j, i < 30 → j < 7 → F i ≠ G j) (hst : zSt D cL cI cR F G H) (hS : va_S A0 s.heap H locs)
    (hl : lv_has ls 4 [(3, .int (nI i)), (2, .ref (G 0)), (1, .ref (F 24)), (0, .ref b)])
    (kk : ∀ (H1 : Heap) (locs1 : List Loc), zSt D cL cI cR F G H1 → va_S A0 s.heap H1 locs1 → W p l e room_1 s m #[Value.ref b] below meth c H1 locs1 600000 7302250 Q (F0 m 1056 ls [])) : W p l e room_1 s m #[Value.ref b] below meth c H locs 600000 7302250 Q (F0 m 386 ls []) := by
  obtain ⟨T, top, Z, C, dg, Y, P, n, hP, hPM, hTP, hCP, hI, hV⟩ := hst
  refine lv_aload_n hx hb dL_law_386 rfl (lv_at hl 2 rfl) ?_
  refine lv_aload_n hx hb dL_law_387 rfl (lv_at hl 3 rfl) ?_
  refine lv_iload_n hx hb dL_law_388 rfl (lv_at hl 0 rfl) ?_
  refine lv_iconst (v := nI 1) hx hb dL_law_389 (by decide +kernel) ?_
  refine ziadd (d := i + 1) hx hb rfl dL_law_390 ?_
  refine va_sld hx hb hX hbl hbA hS (vp_in_nI (by omega) (by omega)) dL_law_391 ?_
  refine W.eq (g2 := F0 m 392 ls [.int (xs (i + 1)), .ref (F 24)]) (by rw [nI_clamp (by omega)]) ?_
  refine lv_aload_n hx hb dL_law_392 rfl (lv_at hl 3 rfl) ?_
  refine lv_iload_n hx hb dL_law_393 rfl (lv_at hl 0 rfl) ?_
  refine lv_iconst (v := nI 2) hx hb dL_law_394 (by decide +kernel) ?_
  refine ziadd (d := i + 2) hx hb rfl dL_law_395 ?_
  refine va_sld hx hb hX hbl hbA hS (vp_in_nI (by omega) (by omega)) dL_law_396 ?_
  refine W.eq (g2 := F0 m 397 ls [.int (xs (i + 2)), .int (xs (i + 1)), .ref (F 24)]) (by rw [nI_clamp (by omega)]) ?_
  refine lv_aload_n hx hb dL_law_397 rfl (lv_at hl 3 rfl) ?_
  refine lv_iload_n hx hb dL_law_398 rfl (lv_at hl 0 rfl) ?_
  refine lv_iconst (v := nI 3) hx hb dL_law_399 (by decide +kernel) ?_
  refine ziadd (d := i + 3) hx hb rfl dL_law_400 ?_
  refine va_sld hx hb hX hbl hbA hS (vp_in_nI (by omega) (by omega)) dL_law_401 ?_
  refine W.eq (g2 := F0 m 402 ls [.int (xs (i + 3)), .int (xs (i + 2)), .int (xs (i + 1)), .ref (F 24)]) (by rw [nI_clamp (by omega)]) ?_
  obtain ⟨r, P', n', pv', vals', ⟨fr2, lo2, k2, hf2, hl2⟩, ⟨fr3, lo3, k3, hf3, hl3⟩, hI2, hV2⟩ := zDo_multiply l D cL cI cR F G (zq_Fself hF) (zq_Fself hG) T top Z C dg Y P n hTP hCP hI hV (xs (i + 1)) (xs (i + 2)) (xs (i + 3))
  refine zcallC (As := [.int (xs (i + 1)), .int (xs (i + 2)), .int (xs (i + 3))]) (rest := []) (k := 3) hx hb hml hown hts k2 gL_law_X2_multiply rfl (by decide +kernel) ⟨Nat.le_trans hf2 (by decide), Nat.le_trans (Nat.add_le_add_left hl2 _) (by decide)⟩ rfl hAm hP hPM hF hFG hS rfl hl.1 rfl (Nat.le_of_ble_eq_true rfl) dL_law_402 ⟨by decide, by decide⟩ (fun T2 top2 Z2 H locs hP hPM hT2 hZ2 hS => ?_)
  refine W.eq (g2 := F0 m 405 ls [.long r]) rfl ?_
  refine lv_aload_n hx hb dL_law_405 rfl (lv_at hl 1 rfl) ?_
  refine lv_aload_n hx hb dL_law_406 rfl (lv_at hl 3 rfl) ?_
  refine lv_iload_n hx hb dL_law_407 rfl (lv_at hl 0 rfl) ?_
  refine lv_iconst (v := nI 1) hx hb dL_law_408 (by decide +kernel) ?_
  refine ziadd (d := i + 1) hx hb rfl dL_law_409 ?_
  refine va_sld hx hb hX hbl hbA hS (vp_in_nI (by omega) (by omega)) dL_law_410 ?_
  refine W.eq (g2 := F0 m 411 ls [.int (xs (i + 1)), .ref (G 0), .long r]) (by rw [nI_clamp (by omega)]) ?_
  refine lv_aload_n hx hb dL_law_411 rfl (lv_at hl 3 rfl) ?_
  refine lv_iload_n hx hb dL_law_412 rfl (lv_at hl 0 rfl) ?_
  refine lv_iconst (v := nI 2) hx hb dL_law_413 (by decide +kernel) ?_
  refine ziadd (d := i + 2) hx hb rfl dL_law_414 ?_
  refine va_sld hx hb hX hbl hbA hS (vp_in_nI (by omega) (by omega)) dL_law_415 ?_
  refine W.eq (g2 := F0 m 416 ls [.int (xs (i + 2)), .int (xs (i + 1)), .ref (G 0), .long r]) (by rw [nI_clamp (by omega)]) ?_
  refine lv_aload_n hx hb dL_law_416 rfl (lv_at hl 3 rfl) ?_
  refine lv_iload_n hx hb dL_law_417 rfl (lv_at hl 0 rfl) ?_
  refine lv_iconst (v := nI 3) hx hb dL_law_418 (by decide +kernel) ?_
  refine ziadd (d := i + 3) hx hb rfl dL_law_419 ?_
  refine va_sld hx hb hX hbl hbA hS (vp_in_nI (by omega) (by omega)) dL_law_420 ?_
  refine W.eq (g2 := F0 m 421 ls [.int (xs (i + 3)), .int (xs (i + 2)), .int (xs (i + 1)), .ref (G 0), .long r]) (by rw [nI_clamp (by omega)]) ?_
  refine zcallD (As := [.int (xs (i + 1)), .int (xs (i + 2)), .int (xs (i + 3))]) (rest := [.long r]) (k := 3) hx hb hml hown hts k3 gL_law_X3_multiply rfl (by decide +kernel) ⟨Nat.le_trans hf3 (by decide), Nat.le_trans (Nat.add_le_add_left hl3 _) (by decide)⟩ rfl hAm hP hPM hG hFG hS rfl hl.1 rfl (Nat.le_of_ble_eq_true rfl) dL_law_421 ⟨by decide, by decide⟩ (fun C2 dg2 Y2 H locs hP hPM hC2 hY2 hS => ?_)
  refine W.eq (g2 := F0 m 424 ls [.long r, .long r]) rfl ?_
  refine zl_eq (tgt := 1056) hx hb dL_law_424 dL_law_425 (by decide) (fun _ => ?_) (fun h9 => absurd rfl h9)
  exact kk H locs ⟨T2, top2, Z2, C2, dg2, Y2, P', n', hP, hPM, hT2, hC2, hI2, fun j hj => by rw [hZ2 j hj, hY2 j hj]; exact hV2 j hj⟩ hS
theorem lwo_differentiate {p : Program} {l : Launch} {e : Env} {s : State} {m : MethodId} {below : List Frame} {meth : Method} {c : Code} {D : va_G} {cL cI cR : ClassId} {F G : Nat → Nat} {A0 : Nat → Prop} {b L i : Nat} {xs : Nat → Int32} {Q : State → Prop} {H : Heap} {locs : List Loc} {ls : Array Slot}
    (hx : p.tables.exec = Jvm.exec) (hb : c.code = cL_law) (hml : c.maxLocals = 4) (hown : s.vm.findClass RL = some m.cls) (hts : ∀ w ∈ wsL_law, w.before #[Value.ref b] s = true) (hX : va_X b L xs s s.heap) (hbl : b < s.heap.size) (hbA : ¬ A0 b) (hL : L ≤ 3072) (hi : i + 5 < L) (hAm : zAm D cL cI cR A0 s) (hF : zq_F A0 F 30) (hG : zq_F A0 G 7) (hFG : ∀ i j, i < 30 → j < 7 → F i ≠ G j) (hst : zSt D cL cI cR F G H) (hS : va_S A0 s.heap H locs)
    (hl : lv_has ls 4 [(3, .int (nI i)), (2, .ref (G 0)), (1, .ref (F 24)), (0, .ref b)])
    (kk : ∀ (H1 : Heap) (locs1 : List Loc), zSt D cL cI cR F G H1 → va_S A0 s.heap H1 locs1 → W p l e room_1 s m #[Value.ref b] below meth c H1 locs1 600000 7302250 Q (F0 m 1056 ls [])) : W p l e room_1 s m #[Value.ref b] below meth c H locs 600000 7302250 Q (F0 m 430 ls []) := by
  obtain ⟨T, top, Z, C, dg, Y, P, n, hP, hPM, hTP, hCP, hI, hV⟩ := hst
  refine lv_aload_n hx hb dL_law_430 rfl (lv_at hl 2 rfl) ?_
  refine lv_aload_n hx hb dL_law_431 rfl (lv_at hl 3 rfl) ?_
  refine lv_iload_n hx hb dL_law_432 rfl (lv_at hl 0 rfl) ?_
  refine lv_iconst (v := nI 1) hx hb dL_law_433 (by decide +kernel) ?_
  refine ziadd (d := i + 1) hx hb rfl dL_law_434 ?_
  refine va_sld hx hb hX hbl hbA hS (vp_in_nI (by omega) (by omega)) dL_law_435 ?_
  refine W.eq (g2 := F0 m 436 ls [.int (xs (i + 1)), .ref (F 24)]) (by rw [nI_clamp (by omega)]) ?_
  refine lv_aload_n hx hb dL_law_436 rfl (lv_at hl 3 rfl) ?_
  refine lv_iload_n hx hb dL_law_437 rfl (lv_at hl 0 rfl) ?_
  refine lv_iconst (v := nI 2) hx hb dL_law_438 (by decide +kernel) ?_
  refine ziadd (d := i + 2) hx hb rfl dL_law_439 ?_
  refine va_sld hx hb hX hbl hbA hS (vp_in_nI (by omega) (by omega)) dL_law_440 ?_
  refine W.eq (g2 := F0 m 441 ls [.int (xs (i + 2)), .int (xs (i + 1)), .ref (F 24)]) (by rw [nI_clamp (by omega)]) ?_
  obtain ⟨r, P', n', pv', vals', ⟨fr2, lo2, k2, hf2, hl2⟩, ⟨fr3, lo3, k3, hf3, hl3⟩, hI2, hV2⟩ := zDo_differentiate l D cL cI cR F G (zq_Fself hF) (zq_Fself hG) T top Z C dg Y P n hTP hCP hI hV (xs (i + 1)) (xs (i + 2))
  refine zcallC (As := [.int (xs (i + 1)), .int (xs (i + 2))]) (rest := []) (k := 2) hx hb hml hown hts k2 gL_law_X2_differentiate rfl (by decide +kernel) ⟨Nat.le_trans hf2 (by decide), Nat.le_trans (Nat.add_le_add_left hl2 _) (by decide)⟩ rfl hAm hP hPM hF hFG hS rfl hl.1 rfl (Nat.le_of_ble_eq_true rfl) dL_law_441 ⟨by decide, by decide⟩ (fun T2 top2 Z2 H locs hP hPM hT2 hZ2 hS => ?_)
  refine W.eq (g2 := F0 m 444 ls [.long r]) rfl ?_
  refine lv_aload_n hx hb dL_law_444 rfl (lv_at hl 1 rfl) ?_
  refine lv_aload_n hx hb dL_law_445 rfl (lv_at hl 3 rfl) ?_
  refine lv_iload_n hx hb dL_law_446 rfl (lv_at hl 0 rfl) ?_
  refine lv_iconst (v := nI 1) hx hb dL_law_447 (by decide +kernel) ?_
  refine ziadd (d := i + 1) hx hb rfl dL_law_448 ?_
  refine va_sld hx hb hX hbl hbA hS (vp_in_nI (by omega) (by omega)) dL_law_449 ?_
  refine W.eq (g2 := F0 m 450 ls [.int (xs (i + 1)), .ref (G 0), .long r]) (by rw [nI_clamp (by omega)]) ?_
  refine lv_aload_n hx hb dL_law_450 rfl (lv_at hl 3 rfl) ?_
  refine lv_iload_n hx hb dL_law_451 rfl (lv_at hl 0 rfl) ?_
  refine lv_iconst (v := nI 2) hx hb dL_law_452 (by decide +kernel) ?_
  refine ziadd (d := i + 2) hx hb rfl dL_law_453 ?_
  refine va_sld hx hb hX hbl hbA hS (vp_in_nI (by omega) (by omega)) dL_law_454 ?_
  refine W.eq (g2 := F0 m 455 ls [.int (xs (i + 2)), .int (xs (i + 1)), .ref (G 0), .long r]) (by rw [nI_clamp (by omega)]) ?_
  refine zcallD (As := [.int (xs (i + 1)), .int (xs (i + 2))]) (rest := [.long r]) (k := 2) hx hb hml hown hts k3 gL_law_X3_differentiate rfl (by decide +kernel) ⟨Nat.le_trans hf3 (by decide), Nat.le_trans (Nat.add_le_add_left hl3 _) (by decide)⟩ rfl hAm hP hPM hG hFG hS rfl hl.1 rfl (Nat.le_of_ble_eq_true rfl) dL_law_455 ⟨by decide, by decide⟩ (fun C2 dg2 Y2 H locs hP hPM hC2 hY2 hS => ?_)
  refine W.eq (g2 := F0 m 458 ls [.long r, .long r]) rfl ?_
  refine zl_eq (tgt := 1056) hx hb dL_law_458 dL_law_459 (by decide) (fun _ => ?_) (fun h9 => absurd rfl h9)
  exact kk H locs ⟨T2, top2, Z2, C2, dg2, Y2, P', n', hP, hPM, hT2, hC2, hI2, fun j hj => by rw [hZ2 j hj, hY2 j hj]; exact hV2 j hj⟩ hS
theorem lwo_antidifferentiate {p : Program} {l : Launch} {e : Env} {s : State} {m : MethodId} {below : List Frame} {meth : Method} {c : Code} {D : va_G} {cL cI cR : ClassId} {F G : Nat → Nat} {A0 : Nat → Prop} {b L i : Nat} {xs : Nat → Int32} {Q : State → Prop} {H : Heap} {locs : List Loc} {ls : Array Slot}
    (hx : p.tables.exec = Jvm.exec) (hb : c.code = cL_law) (hml : c.maxLocals = 4) (hown : s.vm.findClass RL = some m.cls) (hts : ∀ w ∈ wsL_law, w.before #[Value.ref b] s = true) (hX : va_X b L xs s s.heap) (hbl : b < s.heap.size) (hbA : ¬ A0 b) (hL : L ≤ 3072) (hi : i + 5 < L) (hAm : zAm D cL cI cR A0 s) (hF : zq_F A0 F 30) (hG : zq_F A0 G 7) (hFG : ∀ i j, i < 30 → j < 7 → F i ≠ G j) (hst : zSt D cL cI cR F G H) (hS : va_S A0 s.heap H locs)
    (hl : lv_has ls 4 [(3, .int (nI i)), (2, .ref (G 0)), (1, .ref (F 24)), (0, .ref b)])
    (kk : ∀ (H1 : Heap) (locs1 : List Loc), zSt D cL cI cR F G H1 → va_S A0 s.heap H1 locs1 → W p l e room_1 s m #[Value.ref b] below meth c H1 locs1 600000 7302250 Q (F0 m 1056 ls [])) : W p l e room_1 s m #[Value.ref b] below meth c H locs 600000 7302250 Q (F0 m 464 ls []) := by
  obtain ⟨T, top, Z, C, dg, Y, P, n, hP, hPM, hTP, hCP, hI, hV⟩ := hst
  refine lv_aload_n hx hb dL_law_464 rfl (lv_at hl 2 rfl) ?_
  refine lv_aload_n hx hb dL_law_465 rfl (lv_at hl 3 rfl) ?_
  refine lv_iload_n hx hb dL_law_466 rfl (lv_at hl 0 rfl) ?_
  refine lv_iconst (v := nI 1) hx hb dL_law_467 (by decide +kernel) ?_
  refine ziadd (d := i + 1) hx hb rfl dL_law_468 ?_
  refine va_sld hx hb hX hbl hbA hS (vp_in_nI (by omega) (by omega)) dL_law_469 ?_
  refine W.eq (g2 := F0 m 470 ls [.int (xs (i + 1)), .ref (F 24)]) (by rw [nI_clamp (by omega)]) ?_
  refine lv_aload_n hx hb dL_law_470 rfl (lv_at hl 3 rfl) ?_
  refine lv_iload_n hx hb dL_law_471 rfl (lv_at hl 0 rfl) ?_
  refine lv_iconst (v := nI 2) hx hb dL_law_472 (by decide +kernel) ?_
  refine ziadd (d := i + 2) hx hb rfl dL_law_473 ?_
  refine va_sld hx hb hX hbl hbA hS (vp_in_nI (by omega) (by omega)) dL_law_474 ?_
  refine W.eq (g2 := F0 m 475 ls [.int (xs (i + 2)), .int (xs (i + 1)), .ref (F 24)]) (by rw [nI_clamp (by omega)]) ?_
  obtain ⟨r, P', n', pv', vals', ⟨fr2, lo2, k2, hf2, hl2⟩, ⟨fr3, lo3, k3, hf3, hl3⟩, hI2, hV2⟩ := zDo_antidifferentiate l D cL cI cR F G (zq_Fself hF) (zq_Fself hG) T top Z C dg Y P n hTP hCP hI hV (xs (i + 1)) (xs (i + 2))
  refine zcallC (As := [.int (xs (i + 1)), .int (xs (i + 2))]) (rest := []) (k := 2) hx hb hml hown hts k2 gL_law_X2_antidifferentiate rfl (by decide +kernel) ⟨Nat.le_trans hf2 (by decide), Nat.le_trans (Nat.add_le_add_left hl2 _) (by decide)⟩ rfl hAm hP hPM hF hFG hS rfl hl.1 rfl (Nat.le_of_ble_eq_true rfl) dL_law_475 ⟨by decide, by decide⟩ (fun T2 top2 Z2 H locs hP hPM hT2 hZ2 hS => ?_)
  refine W.eq (g2 := F0 m 478 ls [.long r]) rfl ?_
  refine lv_aload_n hx hb dL_law_478 rfl (lv_at hl 1 rfl) ?_
  refine lv_aload_n hx hb dL_law_479 rfl (lv_at hl 3 rfl) ?_
  refine lv_iload_n hx hb dL_law_480 rfl (lv_at hl 0 rfl) ?_
  refine lv_iconst (v := nI 1) hx hb dL_law_481 (by decide +kernel) ?_
  refine ziadd (d := i + 1) hx hb rfl dL_law_482 ?_
  refine va_sld hx hb hX hbl hbA hS (vp_in_nI (by omega) (by omega)) dL_law_483 ?_
  refine W.eq (g2 := F0 m 484 ls [.int (xs (i + 1)), .ref (G 0), .long r]) (by rw [nI_clamp (by omega)]) ?_
  refine lv_aload_n hx hb dL_law_484 rfl (lv_at hl 3 rfl) ?_
  refine lv_iload_n hx hb dL_law_485 rfl (lv_at hl 0 rfl) ?_
  refine lv_iconst (v := nI 2) hx hb dL_law_486 (by decide +kernel) ?_
  refine ziadd (d := i + 2) hx hb rfl dL_law_487 ?_
  refine va_sld hx hb hX hbl hbA hS (vp_in_nI (by omega) (by omega)) dL_law_488 ?_
  refine W.eq (g2 := F0 m 489 ls [.int (xs (i + 2)), .int (xs (i + 1)), .ref (G 0), .long r]) (by rw [nI_clamp (by omega)]) ?_
  refine zcallD (As := [.int (xs (i + 1)), .int (xs (i + 2))]) (rest := [.long r]) (k := 2) hx hb hml hown hts k3 gL_law_X3_antidifferentiate rfl (by decide +kernel) ⟨Nat.le_trans hf3 (by decide), Nat.le_trans (Nat.add_le_add_left hl3 _) (by decide)⟩ rfl hAm hP hPM hG hFG hS rfl hl.1 rfl (Nat.le_of_ble_eq_true rfl) dL_law_489 ⟨by decide, by decide⟩ (fun C2 dg2 Y2 H locs hP hPM hC2 hY2 hS => ?_)
  refine W.eq (g2 := F0 m 492 ls [.long r, .long r]) rfl ?_
  refine zl_eq (tgt := 1056) hx hb dL_law_492 dL_law_493 (by decide) (fun _ => ?_) (fun h9 => absurd rfl h9)
  exact kk H locs ⟨T2, top2, Z2, C2, dg2, Y2, P', n', hP, hPM, hT2, hC2, hI2, fun j hj => by rw [hZ2 j hj, hY2 j hj]; exact hV2 j hj⟩ hS
theorem lwo_compose {p : Program} {l : Launch} {e : Env} {s : State} {m : MethodId} {below : List Frame} {meth : Method} {c : Code} {D : va_G} {cL cI cR : ClassId} {F G : Nat → Nat} {A0 : Nat → Prop} {b L i : Nat} {xs : Nat → Int32} {Q : State → Prop} {H : Heap} {locs : List Loc} {ls : Array Slot}
    (hx : p.tables.exec = Jvm.exec) (hb : c.code = cL_law) (hml : c.maxLocals = 4) (hown : s.vm.findClass RL = some m.cls) (hts : ∀ w ∈ wsL_law, w.before #[Value.ref b] s = true) (hX : va_X b L xs s s.heap) (hbl : b < s.heap.size) (hbA : ¬ A0 b) (hL : L ≤ 3072) (hi : i + 5 < L) (hAm : zAm D cL cI cR A0 s) (hF : zq_F A0 F 30) (hG : zq_F A0 G 7) (hFG : ∀ i j, i < 30 → j < 7 → F i ≠ G j) (hst : zSt D cL cI cR F G H) (hS : va_S A0 s.heap H locs)
    (hl : lv_has ls 4 [(3, .int (nI i)), (2, .ref (G 0)), (1, .ref (F 24)), (0, .ref b)])
    (kk : ∀ (H1 : Heap) (locs1 : List Loc), zSt D cL cI cR F G H1 → va_S A0 s.heap H1 locs1 → W p l e room_1 s m #[Value.ref b] below meth c H1 locs1 600000 7302250 Q (F0 m 1056 ls [])) : W p l e room_1 s m #[Value.ref b] below meth c H locs 600000 7302250 Q (F0 m 498 ls []) := by
  obtain ⟨T, top, Z, C, dg, Y, P, n, hP, hPM, hTP, hCP, hI, hV⟩ := hst
  refine lv_aload_n hx hb dL_law_498 rfl (lv_at hl 2 rfl) ?_
  refine lv_aload_n hx hb dL_law_499 rfl (lv_at hl 3 rfl) ?_
  refine lv_iload_n hx hb dL_law_500 rfl (lv_at hl 0 rfl) ?_
  refine lv_iconst (v := nI 1) hx hb dL_law_501 (by decide +kernel) ?_
  refine ziadd (d := i + 1) hx hb rfl dL_law_502 ?_
  refine va_sld hx hb hX hbl hbA hS (vp_in_nI (by omega) (by omega)) dL_law_503 ?_
  refine W.eq (g2 := F0 m 504 ls [.int (xs (i + 1)), .ref (F 24)]) (by rw [nI_clamp (by omega)]) ?_
  refine lv_aload_n hx hb dL_law_504 rfl (lv_at hl 3 rfl) ?_
  refine lv_iload_n hx hb dL_law_505 rfl (lv_at hl 0 rfl) ?_
  refine lv_iconst (v := nI 2) hx hb dL_law_506 (by decide +kernel) ?_
  refine ziadd (d := i + 2) hx hb rfl dL_law_507 ?_
  refine va_sld hx hb hX hbl hbA hS (vp_in_nI (by omega) (by omega)) dL_law_508 ?_
  refine W.eq (g2 := F0 m 509 ls [.int (xs (i + 2)), .int (xs (i + 1)), .ref (F 24)]) (by rw [nI_clamp (by omega)]) ?_
  refine lv_aload_n hx hb dL_law_509 rfl (lv_at hl 3 rfl) ?_
  refine lv_iload_n hx hb dL_law_510 rfl (lv_at hl 0 rfl) ?_
  refine lv_iconst (v := nI 3) hx hb dL_law_511 (by decide +kernel) ?_
  refine ziadd (d := i + 3) hx hb rfl dL_law_512 ?_
  refine va_sld hx hb hX hbl hbA hS (vp_in_nI (by omega) (by omega)) dL_law_513 ?_
  refine W.eq (g2 := F0 m 514 ls [.int (xs (i + 3)), .int (xs (i + 2)), .int (xs (i + 1)), .ref (F 24)]) (by rw [nI_clamp (by omega)]) ?_
  obtain ⟨r, P', n', pv', vals', ⟨fr2, lo2, k2, hf2, hl2⟩, ⟨fr3, lo3, k3, hf3, hl3⟩, hI2, hV2⟩ := zDo_compose l D cL cI cR F G (zq_Fself hF) (zq_Fself hG) T top Z C dg Y P n hTP hCP hI hV (xs (i + 1)) (xs (i + 2)) (xs (i + 3))
  refine zcallC (As := [.int (xs (i + 1)), .int (xs (i + 2)), .int (xs (i + 3))]) (rest := []) (k := 3) hx hb hml hown hts k2 gL_law_X2_compose rfl (by decide +kernel) ⟨Nat.le_trans hf2 (by decide), Nat.le_trans (Nat.add_le_add_left hl2 _) (by decide)⟩ rfl hAm hP hPM hF hFG hS rfl hl.1 rfl (Nat.le_of_ble_eq_true rfl) dL_law_514 ⟨by decide, by decide⟩ (fun T2 top2 Z2 H locs hP hPM hT2 hZ2 hS => ?_)
  refine W.eq (g2 := F0 m 517 ls [.long r]) rfl ?_
  refine lv_aload_n hx hb dL_law_517 rfl (lv_at hl 1 rfl) ?_
  refine lv_aload_n hx hb dL_law_518 rfl (lv_at hl 3 rfl) ?_
  refine lv_iload_n hx hb dL_law_519 rfl (lv_at hl 0 rfl) ?_
  refine lv_iconst (v := nI 1) hx hb dL_law_520 (by decide +kernel) ?_
  refine ziadd (d := i + 1) hx hb rfl dL_law_521 ?_
  refine va_sld hx hb hX hbl hbA hS (vp_in_nI (by omega) (by omega)) dL_law_522 ?_
  refine W.eq (g2 := F0 m 523 ls [.int (xs (i + 1)), .ref (G 0), .long r]) (by rw [nI_clamp (by omega)]) ?_
  refine lv_aload_n hx hb dL_law_523 rfl (lv_at hl 3 rfl) ?_
  refine lv_iload_n hx hb dL_law_524 rfl (lv_at hl 0 rfl) ?_
  refine lv_iconst (v := nI 2) hx hb dL_law_525 (by decide +kernel) ?_
  refine ziadd (d := i + 2) hx hb rfl dL_law_526 ?_
  refine va_sld hx hb hX hbl hbA hS (vp_in_nI (by omega) (by omega)) dL_law_527 ?_
  refine W.eq (g2 := F0 m 528 ls [.int (xs (i + 2)), .int (xs (i + 1)), .ref (G 0), .long r]) (by rw [nI_clamp (by omega)]) ?_
  refine lv_aload_n hx hb dL_law_528 rfl (lv_at hl 3 rfl) ?_
  refine lv_iload_n hx hb dL_law_529 rfl (lv_at hl 0 rfl) ?_
  refine lv_iconst (v := nI 3) hx hb dL_law_530 (by decide +kernel) ?_
  refine ziadd (d := i + 3) hx hb rfl dL_law_531 ?_
  refine va_sld hx hb hX hbl hbA hS (vp_in_nI (by omega) (by omega)) dL_law_532 ?_
  refine W.eq (g2 := F0 m 533 ls [.int (xs (i + 3)), .int (xs (i + 2)), .int (xs (i + 1)), .ref (G 0), .long r]) (by rw [nI_clamp (by omega)]) ?_
  refine zcallD (As := [.int (xs (i + 1)), .int (xs (i + 2)), .int (xs (i + 3))]) (rest := [.long r]) (k := 3) hx hb hml hown hts k3 gL_law_X3_compose rfl (by decide +kernel) ⟨Nat.le_trans hf3 (by decide), Nat.le_trans (Nat.add_le_add_left hl3 _) (by decide)⟩ rfl hAm hP hPM hG hFG hS rfl hl.1 rfl (Nat.le_of_ble_eq_true rfl) dL_law_533 ⟨by decide, by decide⟩ (fun C2 dg2 Y2 H locs hP hPM hC2 hY2 hS => ?_)
  refine W.eq (g2 := F0 m 536 ls [.long r, .long r]) rfl ?_
  refine zl_eq (tgt := 1056) hx hb dL_law_536 dL_law_537 (by decide) (fun _ => ?_) (fun h9 => absurd rfl h9)
  exact kk H locs ⟨T2, top2, Z2, C2, dg2, Y2, P', n', hP, hPM, hT2, hC2, hI2, fun j hj => by rw [hZ2 j hj, hY2 j hj]; exact hV2 j hj⟩ hS
theorem lwo_divide {p : Program} {l : Launch} {e : Env} {s : State} {m : MethodId} {below : List Frame} {meth : Method} {c : Code} {D : va_G} {cL cI cR : ClassId} {F G : Nat → Nat} {A0 : Nat → Prop} {b L i : Nat} {xs : Nat → Int32} {Q : State → Prop} {H : Heap} {locs : List Loc} {ls : Array Slot}
    (hx : p.tables.exec = Jvm.exec) (hb : c.code = cL_law) (hml : c.maxLocals = 4) (hown : s.vm.findClass RL = some m.cls) (hts : ∀ w ∈ wsL_law, w.before #[Value.ref b] s = true) (hX : va_X b L xs s s.heap) (hbl : b < s.heap.size) (hbA : ¬ A0 b) (hL : L ≤ 3072) (hi : i + 5 < L) (hAm : zAm D cL cI cR A0 s) (hF : zq_F A0 F 30) (hG : zq_F A0 G 7) (hFG : ∀ i j, i < 30 → j < 7 → F i ≠ G j) (hst : zSt D cL cI cR F G H) (hS : va_S A0 s.heap H locs)
    (hl : lv_has ls 4 [(3, .int (nI i)), (2, .ref (G 0)), (1, .ref (F 24)), (0, .ref b)])
    (kk : ∀ (H1 : Heap) (locs1 : List Loc), zSt D cL cI cR F G H1 → va_S A0 s.heap H1 locs1 → W p l e room_1 s m #[Value.ref b] below meth c H1 locs1 600000 7302250 Q (F0 m 1056 ls [])) : W p l e room_1 s m #[Value.ref b] below meth c H locs 600000 7302250 Q (F0 m 542 ls []) := by
  obtain ⟨T, top, Z, C, dg, Y, P, n, hP, hPM, hTP, hCP, hI, hV⟩ := hst
  refine lv_aload_n hx hb dL_law_542 rfl (lv_at hl 2 rfl) ?_
  refine lv_aload_n hx hb dL_law_543 rfl (lv_at hl 3 rfl) ?_
  refine lv_iload_n hx hb dL_law_544 rfl (lv_at hl 0 rfl) ?_
  refine lv_iconst (v := nI 1) hx hb dL_law_545 (by decide +kernel) ?_
  refine ziadd (d := i + 1) hx hb rfl dL_law_546 ?_
  refine va_sld hx hb hX hbl hbA hS (vp_in_nI (by omega) (by omega)) dL_law_547 ?_
  refine W.eq (g2 := F0 m 548 ls [.int (xs (i + 1)), .ref (F 24)]) (by rw [nI_clamp (by omega)]) ?_
  refine lv_aload_n hx hb dL_law_548 rfl (lv_at hl 3 rfl) ?_
  refine lv_iload_n hx hb dL_law_549 rfl (lv_at hl 0 rfl) ?_
  refine lv_iconst (v := nI 2) hx hb dL_law_550 (by decide +kernel) ?_
  refine ziadd (d := i + 2) hx hb rfl dL_law_551 ?_
  refine va_sld hx hb hX hbl hbA hS (vp_in_nI (by omega) (by omega)) dL_law_552 ?_
  refine W.eq (g2 := F0 m 553 ls [.int (xs (i + 2)), .int (xs (i + 1)), .ref (F 24)]) (by rw [nI_clamp (by omega)]) ?_
  refine lv_aload_n hx hb dL_law_553 rfl (lv_at hl 3 rfl) ?_
  refine lv_iload_n hx hb dL_law_554 rfl (lv_at hl 0 rfl) ?_
  refine lv_iconst (v := nI 3) hx hb dL_law_555 (by decide +kernel) ?_
  refine ziadd (d := i + 3) hx hb rfl dL_law_556 ?_
  refine va_sld hx hb hX hbl hbA hS (vp_in_nI (by omega) (by omega)) dL_law_557 ?_
  refine W.eq (g2 := F0 m 558 ls [.int (xs (i + 3)), .int (xs (i + 2)), .int (xs (i + 1)), .ref (F 24)]) (by rw [nI_clamp (by omega)]) ?_
  obtain ⟨r, P', n', pv', vals', ⟨fr2, lo2, k2, hf2, hl2⟩, ⟨fr3, lo3, k3, hf3, hl3⟩, hI2, hV2⟩ := zDo_divide l D cL cI cR F G (zq_Fself hF) (zq_Fself hG) T top Z C dg Y P n hTP hCP hI hV (xs (i + 1)) (xs (i + 2)) (xs (i + 3))
  refine zcallC (As := [.int (xs (i + 1)), .int (xs (i + 2)), .int (xs (i + 3))]) (rest := []) (k := 3) hx hb hml hown hts k2 gL_law_X2_divide rfl (by decide +kernel) ⟨Nat.le_trans hf2 (by decide), Nat.le_trans (Nat.add_le_add_left hl2 _) (by decide)⟩ rfl hAm hP hPM hF hFG hS rfl hl.1 rfl (Nat.le_of_ble_eq_true rfl) dL_law_558 ⟨by decide, by decide⟩ (fun T2 top2 Z2 H locs hP hPM hT2 hZ2 hS => ?_)
  refine W.eq (g2 := F0 m 561 ls [.long r]) rfl ?_
  refine lv_aload_n hx hb dL_law_561 rfl (lv_at hl 1 rfl) ?_
  refine lv_aload_n hx hb dL_law_562 rfl (lv_at hl 3 rfl) ?_
  refine lv_iload_n hx hb dL_law_563 rfl (lv_at hl 0 rfl) ?_
  refine lv_iconst (v := nI 1) hx hb dL_law_564 (by decide +kernel) ?_
  refine ziadd (d := i + 1) hx hb rfl dL_law_565 ?_
  refine va_sld hx hb hX hbl hbA hS (vp_in_nI (by omega) (by omega)) dL_law_566 ?_
  refine W.eq (g2 := F0 m 567 ls [.int (xs (i + 1)), .ref (G 0), .long r]) (by rw [nI_clamp (by omega)]) ?_
  refine lv_aload_n hx hb dL_law_567 rfl (lv_at hl 3 rfl) ?_
  refine lv_iload_n hx hb dL_law_568 rfl (lv_at hl 0 rfl) ?_
  refine lv_iconst (v := nI 2) hx hb dL_law_569 (by decide +kernel) ?_
  refine ziadd (d := i + 2) hx hb rfl dL_law_570 ?_
  refine va_sld hx hb hX hbl hbA hS (vp_in_nI (by omega) (by omega)) dL_law_571 ?_
  refine W.eq (g2 := F0 m 572 ls [.int (xs (i + 2)), .int (xs (i + 1)), .ref (G 0), .long r]) (by rw [nI_clamp (by omega)]) ?_
  refine lv_aload_n hx hb dL_law_572 rfl (lv_at hl 3 rfl) ?_
  refine lv_iload_n hx hb dL_law_573 rfl (lv_at hl 0 rfl) ?_
  refine lv_iconst (v := nI 3) hx hb dL_law_574 (by decide +kernel) ?_
  refine ziadd (d := i + 3) hx hb rfl dL_law_575 ?_
  refine va_sld hx hb hX hbl hbA hS (vp_in_nI (by omega) (by omega)) dL_law_576 ?_
  refine W.eq (g2 := F0 m 577 ls [.int (xs (i + 3)), .int (xs (i + 2)), .int (xs (i + 1)), .ref (G 0), .long r]) (by rw [nI_clamp (by omega)]) ?_
  refine zcallD (As := [.int (xs (i + 1)), .int (xs (i + 2)), .int (xs (i + 3))]) (rest := [.long r]) (k := 3) hx hb hml hown hts k3 gL_law_X3_divide rfl (by decide +kernel) ⟨Nat.le_trans hf3 (by decide), Nat.le_trans (Nat.add_le_add_left hl3 _) (by decide)⟩ rfl hAm hP hPM hG hFG hS rfl hl.1 rfl (Nat.le_of_ble_eq_true rfl) dL_law_577 ⟨by decide, by decide⟩ (fun C2 dg2 Y2 H locs hP hPM hC2 hY2 hS => ?_)
  refine W.eq (g2 := F0 m 580 ls [.long r, .long r]) rfl ?_
  refine zl_eq (tgt := 1056) hx hb dL_law_580 dL_law_581 (by decide) (fun _ => ?_) (fun h9 => absurd rfl h9)
  exact kk H locs ⟨T2, top2, Z2, C2, dg2, Y2, P', n', hP, hPM, hT2, hC2, hI2, fun j hj => by rw [hZ2 j hj, hY2 j hj]; exact hV2 j hj⟩ hS
theorem lwo_cut {p : Program} {l : Launch} {e : Env} {s : State} {m : MethodId} {below : List Frame} {meth : Method} {c : Code} {D : va_G} {cL cI cR : ClassId} {F G : Nat → Nat} {A0 : Nat → Prop} {b L i : Nat} {xs : Nat → Int32} {Q : State → Prop} {H : Heap} {locs : List Loc} {ls : Array Slot}
    (hx : p.tables.exec = Jvm.exec) (hb : c.code = cL_law) (hml : c.maxLocals = 4) (hown : s.vm.findClass RL = some m.cls) (hts : ∀ w ∈ wsL_law, w.before #[Value.ref b] s = true) (hX : va_X b L xs s s.heap) (hbl : b < s.heap.size) (hbA : ¬ A0 b) (hL : L ≤ 3072) (hi : i + 5 < L) (hAm : zAm D cL cI cR A0 s) (hF : zq_F A0 F 30) (hG : zq_F A0 G 7) (hFG : ∀ i j, i < 30 → j < 7 → F i ≠ G j) (hst : zSt D cL cI cR F G H) (hS : va_S A0 s.heap H locs)
    (hl : lv_has ls 4 [(3, .int (nI i)), (2, .ref (G 0)), (1, .ref (F 24)), (0, .ref b)])
    (kk : ∀ (H1 : Heap) (locs1 : List Loc), zSt D cL cI cR F G H1 → va_S A0 s.heap H1 locs1 → W p l e room_1 s m #[Value.ref b] below meth c H1 locs1 600000 7302250 Q (F0 m 1056 ls [])) : W p l e room_1 s m #[Value.ref b] below meth c H locs 600000 7302250 Q (F0 m 586 ls []) := by
  obtain ⟨T, top, Z, C, dg, Y, P, n, hP, hPM, hTP, hCP, hI, hV⟩ := hst
  refine lv_aload_n hx hb dL_law_586 rfl (lv_at hl 2 rfl) ?_
  refine lv_aload_n hx hb dL_law_587 rfl (lv_at hl 3 rfl) ?_
  refine lv_iload_n hx hb dL_law_588 rfl (lv_at hl 0 rfl) ?_
  refine lv_iconst (v := nI 1) hx hb dL_law_589 (by decide +kernel) ?_
  refine ziadd (d := i + 1) hx hb rfl dL_law_590 ?_
  refine va_sld hx hb hX hbl hbA hS (vp_in_nI (by omega) (by omega)) dL_law_591 ?_
  refine W.eq (g2 := F0 m 592 ls [.int (xs (i + 1)), .ref (F 24)]) (by rw [nI_clamp (by omega)]) ?_
  refine lv_aload_n hx hb dL_law_592 rfl (lv_at hl 3 rfl) ?_
  refine lv_iload_n hx hb dL_law_593 rfl (lv_at hl 0 rfl) ?_
  refine lv_iconst (v := nI 2) hx hb dL_law_594 (by decide +kernel) ?_
  refine ziadd (d := i + 2) hx hb rfl dL_law_595 ?_
  refine va_sld hx hb hX hbl hbA hS (vp_in_nI (by omega) (by omega)) dL_law_596 ?_
  refine W.eq (g2 := F0 m 597 ls [.int (xs (i + 2)), .int (xs (i + 1)), .ref (F 24)]) (by rw [nI_clamp (by omega)]) ?_
  obtain ⟨r, P', n', pv', vals', ⟨fr2, lo2, k2, hf2, hl2⟩, ⟨fr3, lo3, k3, hf3, hl3⟩, hI2, hV2⟩ := zDo_cut l D cL cI cR F G (zq_Fself hF) (zq_Fself hG) T top Z C dg Y P n hTP hCP hI hV (xs (i + 1)) (xs (i + 2))
  refine zcallC (As := [.int (xs (i + 1)), .int (xs (i + 2))]) (rest := []) (k := 2) hx hb hml hown hts k2 gL_law_X2_cut rfl (by decide +kernel) ⟨Nat.le_trans hf2 (by decide), Nat.le_trans (Nat.add_le_add_left hl2 _) (by decide)⟩ rfl hAm hP hPM hF hFG hS rfl hl.1 rfl (Nat.le_of_ble_eq_true rfl) dL_law_597 ⟨by decide, by decide⟩ (fun T2 top2 Z2 H locs hP hPM hT2 hZ2 hS => ?_)
  refine W.eq (g2 := F0 m 600 ls [.long r]) rfl ?_
  refine lv_aload_n hx hb dL_law_600 rfl (lv_at hl 1 rfl) ?_
  refine lv_aload_n hx hb dL_law_601 rfl (lv_at hl 3 rfl) ?_
  refine lv_iload_n hx hb dL_law_602 rfl (lv_at hl 0 rfl) ?_
  refine lv_iconst (v := nI 1) hx hb dL_law_603 (by decide +kernel) ?_
  refine ziadd (d := i + 1) hx hb rfl dL_law_604 ?_
  refine va_sld hx hb hX hbl hbA hS (vp_in_nI (by omega) (by omega)) dL_law_605 ?_
  refine W.eq (g2 := F0 m 606 ls [.int (xs (i + 1)), .ref (G 0), .long r]) (by rw [nI_clamp (by omega)]) ?_
  refine lv_aload_n hx hb dL_law_606 rfl (lv_at hl 3 rfl) ?_
  refine lv_iload_n hx hb dL_law_607 rfl (lv_at hl 0 rfl) ?_
  refine lv_iconst (v := nI 2) hx hb dL_law_608 (by decide +kernel) ?_
  refine ziadd (d := i + 2) hx hb rfl dL_law_609 ?_
  refine va_sld hx hb hX hbl hbA hS (vp_in_nI (by omega) (by omega)) dL_law_610 ?_
  refine W.eq (g2 := F0 m 611 ls [.int (xs (i + 2)), .int (xs (i + 1)), .ref (G 0), .long r]) (by rw [nI_clamp (by omega)]) ?_
  refine zcallD (As := [.int (xs (i + 1)), .int (xs (i + 2))]) (rest := [.long r]) (k := 2) hx hb hml hown hts k3 gL_law_X3_cut rfl (by decide +kernel) ⟨Nat.le_trans hf3 (by decide), Nat.le_trans (Nat.add_le_add_left hl3 _) (by decide)⟩ rfl hAm hP hPM hG hFG hS rfl hl.1 rfl (Nat.le_of_ble_eq_true rfl) dL_law_611 ⟨by decide, by decide⟩ (fun C2 dg2 Y2 H locs hP hPM hC2 hY2 hS => ?_)
  refine W.eq (g2 := F0 m 614 ls [.long r, .long r]) rfl ?_
  refine zl_eq (tgt := 1056) hx hb dL_law_614 dL_law_615 (by decide) (fun _ => ?_) (fun h9 => absurd rfl h9)
  exact kk H locs ⟨T2, top2, Z2, C2, dg2, Y2, P', n', hP, hPM, hT2, hC2, hI2, fun j hj => by rw [hZ2 j hj, hY2 j hj]; exact hV2 j hj⟩ hS
theorem lwo_basis {p : Program} {l : Launch} {e : Env} {s : State} {m : MethodId} {below : List Frame} {meth : Method} {c : Code} {D : va_G} {cL cI cR : ClassId} {F G : Nat → Nat} {A0 : Nat → Prop} {b L i : Nat} {xs : Nat → Int32} {Q : State → Prop} {H : Heap} {locs : List Loc} {ls : Array Slot}
    (hx : p.tables.exec = Jvm.exec) (hb : c.code = cL_law) (hml : c.maxLocals = 4) (hown : s.vm.findClass RL = some m.cls) (hts : ∀ w ∈ wsL_law, w.before #[Value.ref b] s = true) (hX : va_X b L xs s s.heap) (hbl : b < s.heap.size) (hbA : ¬ A0 b) (hL : L ≤ 3072) (hi : i + 5 < L) (hAm : zAm D cL cI cR A0 s) (hF : zq_F A0 F 30) (hG : zq_F A0 G 7) (hFG : ∀ i j, i < 30 → j < 7 → F i ≠ G j) (hst : zSt D cL cI cR F G H) (hS : va_S A0 s.heap H locs)
    (hl : lv_has ls 4 [(3, .int (nI i)), (2, .ref (G 0)), (1, .ref (F 24)), (0, .ref b)])
    (kk : ∀ (H1 : Heap) (locs1 : List Loc), zSt D cL cI cR F G H1 → va_S A0 s.heap H1 locs1 → W p l e room_1 s m #[Value.ref b] below meth c H1 locs1 600000 7302250 Q (F0 m 1056 ls [])) : W p l e room_1 s m #[Value.ref b] below meth c H locs 600000 7302250 Q (F0 m 620 ls []) := by
  obtain ⟨T, top, Z, C, dg, Y, P, n, hP, hPM, hTP, hCP, hI, hV⟩ := hst
  refine lv_aload_n hx hb dL_law_620 rfl (lv_at hl 2 rfl) ?_
  refine lv_aload_n hx hb dL_law_621 rfl (lv_at hl 3 rfl) ?_
  refine lv_iload_n hx hb dL_law_622 rfl (lv_at hl 0 rfl) ?_
  refine lv_iconst (v := nI 1) hx hb dL_law_623 (by decide +kernel) ?_
  refine ziadd (d := i + 1) hx hb rfl dL_law_624 ?_
  refine va_sld hx hb hX hbl hbA hS (vp_in_nI (by omega) (by omega)) dL_law_625 ?_
  refine W.eq (g2 := F0 m 626 ls [.int (xs (i + 1)), .ref (F 24)]) (by rw [nI_clamp (by omega)]) ?_
  refine lv_aload_n hx hb dL_law_626 rfl (lv_at hl 3 rfl) ?_
  refine lv_iload_n hx hb dL_law_627 rfl (lv_at hl 0 rfl) ?_
  refine lv_iconst (v := nI 2) hx hb dL_law_628 (by decide +kernel) ?_
  refine ziadd (d := i + 2) hx hb rfl dL_law_629 ?_
  refine va_sld hx hb hX hbl hbA hS (vp_in_nI (by omega) (by omega)) dL_law_630 ?_
  refine W.eq (g2 := F0 m 631 ls [.int (xs (i + 2)), .int (xs (i + 1)), .ref (F 24)]) (by rw [nI_clamp (by omega)]) ?_
  obtain ⟨r, P', n', pv', vals', ⟨fr2, lo2, k2, hf2, hl2⟩, ⟨fr3, lo3, k3, hf3, hl3⟩, hI2, hV2⟩ := zDo_basis l D cL cI cR F G (zq_Fself hF) (zq_Fself hG) T top Z C dg Y P n hTP hCP hI hV (xs (i + 1)) (xs (i + 2))
  refine zcallC (As := [.int (xs (i + 1)), .int (xs (i + 2))]) (rest := []) (k := 2) hx hb hml hown hts k2 gL_law_X2_basis rfl (by decide +kernel) ⟨Nat.le_trans hf2 (by decide), Nat.le_trans (Nat.add_le_add_left hl2 _) (by decide)⟩ rfl hAm hP hPM hF hFG hS rfl hl.1 rfl (Nat.le_of_ble_eq_true rfl) dL_law_631 ⟨by decide, by decide⟩ (fun T2 top2 Z2 H locs hP hPM hT2 hZ2 hS => ?_)
  refine W.eq (g2 := F0 m 634 ls [.long r]) rfl ?_
  refine lv_aload_n hx hb dL_law_634 rfl (lv_at hl 1 rfl) ?_
  refine lv_aload_n hx hb dL_law_635 rfl (lv_at hl 3 rfl) ?_
  refine lv_iload_n hx hb dL_law_636 rfl (lv_at hl 0 rfl) ?_
  refine lv_iconst (v := nI 1) hx hb dL_law_637 (by decide +kernel) ?_
  refine ziadd (d := i + 1) hx hb rfl dL_law_638 ?_
  refine va_sld hx hb hX hbl hbA hS (vp_in_nI (by omega) (by omega)) dL_law_639 ?_
  refine W.eq (g2 := F0 m 640 ls [.int (xs (i + 1)), .ref (G 0), .long r]) (by rw [nI_clamp (by omega)]) ?_
  refine lv_aload_n hx hb dL_law_640 rfl (lv_at hl 3 rfl) ?_
  refine lv_iload_n hx hb dL_law_641 rfl (lv_at hl 0 rfl) ?_
  refine lv_iconst (v := nI 2) hx hb dL_law_642 (by decide +kernel) ?_
  refine ziadd (d := i + 2) hx hb rfl dL_law_643 ?_
  refine va_sld hx hb hX hbl hbA hS (vp_in_nI (by omega) (by omega)) dL_law_644 ?_
  refine W.eq (g2 := F0 m 645 ls [.int (xs (i + 2)), .int (xs (i + 1)), .ref (G 0), .long r]) (by rw [nI_clamp (by omega)]) ?_
  refine zcallD (As := [.int (xs (i + 1)), .int (xs (i + 2))]) (rest := [.long r]) (k := 2) hx hb hml hown hts k3 gL_law_X3_basis rfl (by decide +kernel) ⟨Nat.le_trans hf3 (by decide), Nat.le_trans (Nat.add_le_add_left hl3 _) (by decide)⟩ rfl hAm hP hPM hG hFG hS rfl hl.1 rfl (Nat.le_of_ble_eq_true rfl) dL_law_645 ⟨by decide, by decide⟩ (fun C2 dg2 Y2 H locs hP hPM hC2 hY2 hS => ?_)
  refine W.eq (g2 := F0 m 648 ls [.long r, .long r]) rfl ?_
  refine zl_eq (tgt := 1056) hx hb dL_law_648 dL_law_649 (by decide) (fun _ => ?_) (fun h9 => absurd rfl h9)
  exact kk H locs ⟨T2, top2, Z2, C2, dg2, Y2, P', n', hP, hPM, hT2, hC2, hI2, fun j hj => by rw [hZ2 j hj, hY2 j hj]; exact hV2 j hj⟩ hS
theorem lwo_integral {p : Program} {l : Launch} {e : Env} {s : State} {m : MethodId} {below : List Frame} {meth : Method} {c : Code} {D : va_G} {cL cI cR : ClassId} {F G : Nat → Nat} {A0 : Nat → Prop} {b L i : Nat} {xs : Nat → Int32} {Q : State → Prop} {H : Heap} {locs : List Loc} {ls : Array Slot}
    (hx : p.tables.exec = Jvm.exec) (hb : c.code = cL_law) (hml : c.maxLocals = 4) (hown : s.vm.findClass RL = some m.cls) (hts : ∀ w ∈ wsL_law, w.before #[Value.ref b] s = true) (hX : va_X b L xs s s.heap) (hbl : b < s.heap.size) (hbA : ¬ A0 b) (hL : L ≤ 3072) (hi : i + 5 < L) (hAm : zAm D cL cI cR A0 s) (hF : zq_F A0 F 30) (hG : zq_F A0 G 7) (hFG : ∀ i j, i < 30 → j < 7 → F i ≠ G j) (hst : zSt D cL cI cR F G H) (hS : va_S A0 s.heap H locs)
    (hl : lv_has ls 4 [(3, .int (nI i)), (2, .ref (G 0)), (1, .ref (F 24)), (0, .ref b)])
    (kk : ∀ (H1 : Heap) (locs1 : List Loc), zSt D cL cI cR F G H1 → va_S A0 s.heap H1 locs1 → W p l e room_1 s m #[Value.ref b] below meth c H1 locs1 600000 7302250 Q (F0 m 1056 ls [])) : W p l e room_1 s m #[Value.ref b] below meth c H locs 600000 7302250 Q (F0 m 654 ls []) := by
  obtain ⟨T, top, Z, C, dg, Y, P, n, hP, hPM, hTP, hCP, hI, hV⟩ := hst
  refine lv_aload_n hx hb dL_law_654 rfl (lv_at hl 2 rfl) ?_
  refine lv_aload_n hx hb dL_law_655 rfl (lv_at hl 3 rfl) ?_
  refine lv_iload_n hx hb dL_law_656 rfl (lv_at hl 0 rfl) ?_
  refine lv_iconst (v := nI 1) hx hb dL_law_657 (by decide +kernel) ?_
  refine ziadd (d := i + 1) hx hb rfl dL_law_658 ?_
  refine va_sld hx hb hX hbl hbA hS (vp_in_nI (by omega) (by omega)) dL_law_659 ?_
  refine W.eq (g2 := F0 m 660 ls [.int (xs (i + 1)), .ref (F 24)]) (by rw [nI_clamp (by omega)]) ?_
  obtain ⟨r, P', n', pv', vals', ⟨fr2, lo2, k2, hf2, hl2⟩, ⟨fr3, lo3, k3, hf3, hl3⟩, hI2, hV2⟩ := zDo_integral l D cL cI cR F G (zq_Fself hF) (zq_Fself hG) T top Z C dg Y P n hTP hCP hI hV (xs (i + 1))
  refine zcallC (As := [.int (xs (i + 1))]) (rest := []) (k := 1) hx hb hml hown hts k2 gL_law_X2_integral rfl (by decide +kernel) ⟨Nat.le_trans hf2 (by decide), Nat.le_trans (Nat.add_le_add_left hl2 _) (by decide)⟩ rfl hAm hP hPM hF hFG hS rfl hl.1 rfl (Nat.le_of_ble_eq_true rfl) dL_law_660 ⟨by decide, by decide⟩ (fun T2 top2 Z2 H locs hP hPM hT2 hZ2 hS => ?_)
  refine W.eq (g2 := F0 m 663 ls [.long r]) rfl ?_
  refine lv_aload_n hx hb dL_law_663 rfl (lv_at hl 1 rfl) ?_
  refine lv_aload_n hx hb dL_law_664 rfl (lv_at hl 3 rfl) ?_
  refine lv_iload_n hx hb dL_law_665 rfl (lv_at hl 0 rfl) ?_
  refine lv_iconst (v := nI 1) hx hb dL_law_666 (by decide +kernel) ?_
  refine ziadd (d := i + 1) hx hb rfl dL_law_667 ?_
  refine va_sld hx hb hX hbl hbA hS (vp_in_nI (by omega) (by omega)) dL_law_668 ?_
  refine W.eq (g2 := F0 m 669 ls [.int (xs (i + 1)), .ref (G 0), .long r]) (by rw [nI_clamp (by omega)]) ?_
  refine zcallD (As := [.int (xs (i + 1))]) (rest := [.long r]) (k := 1) hx hb hml hown hts k3 gL_law_X3_integral rfl (by decide +kernel) ⟨Nat.le_trans hf3 (by decide), Nat.le_trans (Nat.add_le_add_left hl3 _) (by decide)⟩ rfl hAm hP hPM hG hFG hS rfl hl.1 rfl (Nat.le_of_ble_eq_true rfl) dL_law_669 ⟨by decide, by decide⟩ (fun C2 dg2 Y2 H locs hP hPM hC2 hY2 hS => ?_)
  refine W.eq (g2 := F0 m 672 ls [.long r, .long r]) rfl ?_
  refine zl_eq (tgt := 1056) hx hb dL_law_672 dL_law_673 (by decide) (fun _ => ?_) (fun h9 => absurd rfl h9)
  exact kk H locs ⟨T2, top2, Z2, C2, dg2, Y2, P', n', hP, hPM, hT2, hC2, hI2, fun j hj => by rw [hZ2 j hj, hY2 j hj]; exact hV2 j hj⟩ hS
theorem lwo_inner {p : Program} {l : Launch} {e : Env} {s : State} {m : MethodId} {below : List Frame} {meth : Method} {c : Code} {D : va_G} {cL cI cR : ClassId} {F G : Nat → Nat} {A0 : Nat → Prop} {b L i : Nat} {xs : Nat → Int32} {Q : State → Prop} {H : Heap} {locs : List Loc} {ls : Array Slot}
    (hx : p.tables.exec = Jvm.exec) (hb : c.code = cL_law) (hml : c.maxLocals = 4) (hown : s.vm.findClass RL = some m.cls) (hts : ∀ w ∈ wsL_law, w.before #[Value.ref b] s = true) (hX : va_X b L xs s s.heap) (hbl : b < s.heap.size) (hbA : ¬ A0 b) (hL : L ≤ 3072) (hi : i + 5 < L) (hAm : zAm D cL cI cR A0 s) (hF : zq_F A0 F 30) (hG : zq_F A0 G 7) (hFG : ∀ i j, i < 30 → j < 7 → F i ≠ G j) (hst : zSt D cL cI cR F G H) (hS : va_S A0 s.heap H locs)
    (hl : lv_has ls 4 [(3, .int (nI i)), (2, .ref (G 0)), (1, .ref (F 24)), (0, .ref b)])
    (kk : ∀ (H1 : Heap) (locs1 : List Loc), zSt D cL cI cR F G H1 → va_S A0 s.heap H1 locs1 → W p l e room_1 s m #[Value.ref b] below meth c H1 locs1 600000 7302250 Q (F0 m 1056 ls [])) : W p l e room_1 s m #[Value.ref b] below meth c H locs 600000 7302250 Q (F0 m 678 ls []) := by
  obtain ⟨T, top, Z, C, dg, Y, P, n, hP, hPM, hTP, hCP, hI, hV⟩ := hst
  refine lv_aload_n hx hb dL_law_678 rfl (lv_at hl 2 rfl) ?_
  refine lv_aload_n hx hb dL_law_679 rfl (lv_at hl 3 rfl) ?_
  refine lv_iload_n hx hb dL_law_680 rfl (lv_at hl 0 rfl) ?_
  refine lv_iconst (v := nI 1) hx hb dL_law_681 (by decide +kernel) ?_
  refine ziadd (d := i + 1) hx hb rfl dL_law_682 ?_
  refine va_sld hx hb hX hbl hbA hS (vp_in_nI (by omega) (by omega)) dL_law_683 ?_
  refine W.eq (g2 := F0 m 684 ls [.int (xs (i + 1)), .ref (F 24)]) (by rw [nI_clamp (by omega)]) ?_
  refine lv_aload_n hx hb dL_law_684 rfl (lv_at hl 3 rfl) ?_
  refine lv_iload_n hx hb dL_law_685 rfl (lv_at hl 0 rfl) ?_
  refine lv_iconst (v := nI 2) hx hb dL_law_686 (by decide +kernel) ?_
  refine ziadd (d := i + 2) hx hb rfl dL_law_687 ?_
  refine va_sld hx hb hX hbl hbA hS (vp_in_nI (by omega) (by omega)) dL_law_688 ?_
  refine W.eq (g2 := F0 m 689 ls [.int (xs (i + 2)), .int (xs (i + 1)), .ref (F 24)]) (by rw [nI_clamp (by omega)]) ?_
  obtain ⟨r, P', n', pv', vals', ⟨fr2, lo2, k2, hf2, hl2⟩, ⟨fr3, lo3, k3, hf3, hl3⟩, hI2, hV2⟩ := zDo_inner l D cL cI cR F G (zq_Fself hF) (zq_Fself hG) T top Z C dg Y P n hTP hCP hI hV (xs (i + 1)) (xs (i + 2))
  refine zcallC (As := [.int (xs (i + 1)), .int (xs (i + 2))]) (rest := []) (k := 2) hx hb hml hown hts k2 gL_law_X2_inner rfl (by decide +kernel) ⟨Nat.le_trans hf2 (by decide), Nat.le_trans (Nat.add_le_add_left hl2 _) (by decide)⟩ rfl hAm hP hPM hF hFG hS rfl hl.1 rfl (Nat.le_of_ble_eq_true rfl) dL_law_689 ⟨by decide, by decide⟩ (fun T2 top2 Z2 H locs hP hPM hT2 hZ2 hS => ?_)
  refine W.eq (g2 := F0 m 692 ls [.long r]) rfl ?_
  refine lv_aload_n hx hb dL_law_692 rfl (lv_at hl 1 rfl) ?_
  refine lv_aload_n hx hb dL_law_693 rfl (lv_at hl 3 rfl) ?_
  refine lv_iload_n hx hb dL_law_694 rfl (lv_at hl 0 rfl) ?_
  refine lv_iconst (v := nI 1) hx hb dL_law_695 (by decide +kernel) ?_
  refine ziadd (d := i + 1) hx hb rfl dL_law_696 ?_
  refine va_sld hx hb hX hbl hbA hS (vp_in_nI (by omega) (by omega)) dL_law_697 ?_
  refine W.eq (g2 := F0 m 698 ls [.int (xs (i + 1)), .ref (G 0), .long r]) (by rw [nI_clamp (by omega)]) ?_
  refine lv_aload_n hx hb dL_law_698 rfl (lv_at hl 3 rfl) ?_
  refine lv_iload_n hx hb dL_law_699 rfl (lv_at hl 0 rfl) ?_
  refine lv_iconst (v := nI 2) hx hb dL_law_700 (by decide +kernel) ?_
  refine ziadd (d := i + 2) hx hb rfl dL_law_701 ?_
  refine va_sld hx hb hX hbl hbA hS (vp_in_nI (by omega) (by omega)) dL_law_702 ?_
  refine W.eq (g2 := F0 m 703 ls [.int (xs (i + 2)), .int (xs (i + 1)), .ref (G 0), .long r]) (by rw [nI_clamp (by omega)]) ?_
  refine zcallD (As := [.int (xs (i + 1)), .int (xs (i + 2))]) (rest := [.long r]) (k := 2) hx hb hml hown hts k3 gL_law_X3_inner rfl (by decide +kernel) ⟨Nat.le_trans hf3 (by decide), Nat.le_trans (Nat.add_le_add_left hl3 _) (by decide)⟩ rfl hAm hP hPM hG hFG hS rfl hl.1 rfl (Nat.le_of_ble_eq_true rfl) dL_law_703 ⟨by decide, by decide⟩ (fun C2 dg2 Y2 H locs hP hPM hC2 hY2 hS => ?_)
  refine W.eq (g2 := F0 m 706 ls [.long r, .long r]) rfl ?_
  refine zl_eq (tgt := 1056) hx hb dL_law_706 dL_law_707 (by decide) (fun _ => ?_) (fun h9 => absurd rfl h9)
  exact kk H locs ⟨T2, top2, Z2, C2, dg2, Y2, P', n', hP, hPM, hT2, hC2, hI2, fun j hj => by rw [hZ2 j hj, hY2 j hj]; exact hV2 j hj⟩ hS
theorem lwo_bound {p : Program} {l : Launch} {e : Env} {s : State} {m : MethodId} {below : List Frame} {meth : Method} {c : Code} {D : va_G} {cL cI cR : ClassId} {F G : Nat → Nat} {A0 : Nat → Prop} {b L i : Nat} {xs : Nat → Int32} {Q : State → Prop} {H : Heap} {locs : List Loc} {ls : Array Slot}
    (hx : p.tables.exec = Jvm.exec) (hb : c.code = cL_law) (hml : c.maxLocals = 4) (hown : s.vm.findClass RL = some m.cls) (hts : ∀ w ∈ wsL_law, w.before #[Value.ref b] s = true) (hX : va_X b L xs s s.heap) (hbl : b < s.heap.size) (hbA : ¬ A0 b) (hL : L ≤ 3072) (hi : i + 5 < L) (hAm : zAm D cL cI cR A0 s) (hF : zq_F A0 F 30) (hG : zq_F A0 G 7) (hFG : ∀ i j, i < 30 → j < 7 → F i ≠ G j) (hst : zSt D cL cI cR F G H) (hS : va_S A0 s.heap H locs)
    (hl : lv_has ls 4 [(3, .int (nI i)), (2, .ref (G 0)), (1, .ref (F 24)), (0, .ref b)])
    (kk : ∀ (H1 : Heap) (locs1 : List Loc), zSt D cL cI cR F G H1 → va_S A0 s.heap H1 locs1 → W p l e room_1 s m #[Value.ref b] below meth c H1 locs1 600000 7302250 Q (F0 m 1056 ls [])) : W p l e room_1 s m #[Value.ref b] below meth c H locs 600000 7302250 Q (F0 m 712 ls []) := by
  obtain ⟨T, top, Z, C, dg, Y, P, n, hP, hPM, hTP, hCP, hI, hV⟩ := hst
  refine lv_aload_n hx hb dL_law_712 rfl (lv_at hl 2 rfl) ?_
  refine lv_aload_n hx hb dL_law_713 rfl (lv_at hl 3 rfl) ?_
  refine lv_iload_n hx hb dL_law_714 rfl (lv_at hl 0 rfl) ?_
  refine lv_iconst (v := nI 1) hx hb dL_law_715 (by decide +kernel) ?_
  refine ziadd (d := i + 1) hx hb rfl dL_law_716 ?_
  refine va_sld hx hb hX hbl hbA hS (vp_in_nI (by omega) (by omega)) dL_law_717 ?_
  refine W.eq (g2 := F0 m 718 ls [.int (xs (i + 1)), .ref (F 24)]) (by rw [nI_clamp (by omega)]) ?_
  obtain ⟨r, P', n', pv', vals', ⟨fr2, lo2, k2, hf2, hl2⟩, ⟨fr3, lo3, k3, hf3, hl3⟩, hI2, hV2⟩ := zDo_bound l D cL cI cR F G (zq_Fself hF) (zq_Fself hG) T top Z C dg Y P n hTP hCP hI hV (xs (i + 1))
  refine zcallC (As := [.int (xs (i + 1))]) (rest := []) (k := 1) hx hb hml hown hts k2 gL_law_X2_bound rfl (by decide +kernel) ⟨Nat.le_trans hf2 (by decide), Nat.le_trans (Nat.add_le_add_left hl2 _) (by decide)⟩ rfl hAm hP hPM hF hFG hS rfl hl.1 rfl (Nat.le_of_ble_eq_true rfl) dL_law_718 ⟨by decide, by decide⟩ (fun T2 top2 Z2 H locs hP hPM hT2 hZ2 hS => ?_)
  refine W.eq (g2 := F0 m 721 ls [.long r]) rfl ?_
  refine lv_aload_n hx hb dL_law_721 rfl (lv_at hl 1 rfl) ?_
  refine lv_aload_n hx hb dL_law_722 rfl (lv_at hl 3 rfl) ?_
  refine lv_iload_n hx hb dL_law_723 rfl (lv_at hl 0 rfl) ?_
  refine lv_iconst (v := nI 1) hx hb dL_law_724 (by decide +kernel) ?_
  refine ziadd (d := i + 1) hx hb rfl dL_law_725 ?_
  refine va_sld hx hb hX hbl hbA hS (vp_in_nI (by omega) (by omega)) dL_law_726 ?_
  refine W.eq (g2 := F0 m 727 ls [.int (xs (i + 1)), .ref (G 0), .long r]) (by rw [nI_clamp (by omega)]) ?_
  refine zcallD (As := [.int (xs (i + 1))]) (rest := [.long r]) (k := 1) hx hb hml hown hts k3 gL_law_X3_bound rfl (by decide +kernel) ⟨Nat.le_trans hf3 (by decide), Nat.le_trans (Nat.add_le_add_left hl3 _) (by decide)⟩ rfl hAm hP hPM hG hFG hS rfl hl.1 rfl (Nat.le_of_ble_eq_true rfl) dL_law_727 ⟨by decide, by decide⟩ (fun C2 dg2 Y2 H locs hP hPM hC2 hY2 hS => ?_)
  refine W.eq (g2 := F0 m 730 ls [.long r, .long r]) rfl ?_
  refine zl_eq (tgt := 1056) hx hb dL_law_730 dL_law_731 (by decide) (fun _ => ?_) (fun h9 => absurd rfl h9)
  exact kk H locs ⟨T2, top2, Z2, C2, dg2, Y2, P', n', hP, hPM, hT2, hC2, hI2, fun j hj => by rw [hZ2 j hj, hY2 j hj]; exact hV2 j hj⟩ hS
theorem lwo_degreeWith {p : Program} {l : Launch} {e : Env} {s : State} {m : MethodId} {below : List Frame} {meth : Method} {c : Code} {D : va_G} {cL cI cR : ClassId} {F G : Nat → Nat} {A0 : Nat → Prop} {b L i : Nat} {xs : Nat → Int32} {Q : State → Prop} {H : Heap} {locs : List Loc} {ls : Array Slot}
    (hx : p.tables.exec = Jvm.exec) (hb : c.code = cL_law) (hml : c.maxLocals = 4) (hown : s.vm.findClass RL = some m.cls) (hts : ∀ w ∈ wsL_law, w.before #[Value.ref b] s = true) (hX : va_X b L xs s s.heap) (hbl : b < s.heap.size) (hbA : ¬ A0 b) (hL : L ≤ 3072) (hi : i + 5 < L) (hAm : zAm D cL cI cR A0 s) (hF : zq_F A0 F 30) (hG : zq_F A0 G 7) (hFG : ∀ i j, i < 30 → j < 7 → F i ≠ G j) (hst : zSt D cL cI cR F G H) (hS : va_S A0 s.heap H locs)
    (hl : lv_has ls 4 [(3, .int (nI i)), (2, .ref (G 0)), (1, .ref (F 24)), (0, .ref b)])
    (kk : ∀ (H1 : Heap) (locs1 : List Loc), zSt D cL cI cR F G H1 → va_S A0 s.heap H1 locs1 → W p l e room_1 s m #[Value.ref b] below meth c H1 locs1 600000 7302250 Q (F0 m 1056 ls [])) : W p l e room_1 s m #[Value.ref b] below meth c H locs 600000 7302250 Q (F0 m 736 ls []) := by
  obtain ⟨T, top, Z, C, dg, Y, P, n, hP, hPM, hTP, hCP, hI, hV⟩ := hst
  refine lv_aload_n hx hb dL_law_736 rfl (lv_at hl 2 rfl) ?_
  refine lv_aload_n hx hb dL_law_737 rfl (lv_at hl 3 rfl) ?_
  refine lv_iload_n hx hb dL_law_738 rfl (lv_at hl 0 rfl) ?_
  refine lv_iconst (v := nI 1) hx hb dL_law_739 (by decide +kernel) ?_
  refine ziadd (d := i + 1) hx hb rfl dL_law_740 ?_
  refine va_sld hx hb hX hbl hbA hS (vp_in_nI (by omega) (by omega)) dL_law_741 ?_
  refine W.eq (g2 := F0 m 742 ls [.int (xs (i + 1)), .ref (F 24)]) (by rw [nI_clamp (by omega)]) ?_
  refine lv_aload_n hx hb dL_law_742 rfl (lv_at hl 3 rfl) ?_
  refine lv_iload_n hx hb dL_law_743 rfl (lv_at hl 0 rfl) ?_
  refine lv_iconst (v := nI 2) hx hb dL_law_744 (by decide +kernel) ?_
  refine ziadd (d := i + 2) hx hb rfl dL_law_745 ?_
  refine va_sld hx hb hX hbl hbA hS (vp_in_nI (by omega) (by omega)) dL_law_746 ?_
  refine W.eq (g2 := F0 m 747 ls [.int (xs (i + 2)), .int (xs (i + 1)), .ref (F 24)]) (by rw [nI_clamp (by omega)]) ?_
  obtain ⟨r, P', n', pv', vals', ⟨fr2, lo2, k2, hf2, hl2⟩, ⟨fr3, lo3, k3, hf3, hl3⟩, hI2, hV2⟩ := zDo_degreeWith l D cL cI cR F G (zq_Fself hF) (zq_Fself hG) T top Z C dg Y P n hTP hCP hI hV (xs (i + 1)) (xs (i + 2))
  refine zcallC (As := [.int (xs (i + 1)), .int (xs (i + 2))]) (rest := []) (k := 2) hx hb hml hown hts k2 gL_law_X2_degreeWith rfl (by decide +kernel) ⟨Nat.le_trans hf2 (by decide), Nat.le_trans (Nat.add_le_add_left hl2 _) (by decide)⟩ rfl hAm hP hPM hF hFG hS rfl hl.1 rfl (Nat.le_of_ble_eq_true rfl) dL_law_747 ⟨by decide, by decide⟩ (fun T2 top2 Z2 H locs hP hPM hT2 hZ2 hS => ?_)
  refine W.eq (g2 := F0 m 750 ls [.long r]) rfl ?_
  refine lv_aload_n hx hb dL_law_750 rfl (lv_at hl 1 rfl) ?_
  refine lv_aload_n hx hb dL_law_751 rfl (lv_at hl 3 rfl) ?_
  refine lv_iload_n hx hb dL_law_752 rfl (lv_at hl 0 rfl) ?_
  refine lv_iconst (v := nI 1) hx hb dL_law_753 (by decide +kernel) ?_
  refine ziadd (d := i + 1) hx hb rfl dL_law_754 ?_
  refine va_sld hx hb hX hbl hbA hS (vp_in_nI (by omega) (by omega)) dL_law_755 ?_
  refine W.eq (g2 := F0 m 756 ls [.int (xs (i + 1)), .ref (G 0), .long r]) (by rw [nI_clamp (by omega)]) ?_
  refine lv_aload_n hx hb dL_law_756 rfl (lv_at hl 3 rfl) ?_
  refine lv_iload_n hx hb dL_law_757 rfl (lv_at hl 0 rfl) ?_
  refine lv_iconst (v := nI 2) hx hb dL_law_758 (by decide +kernel) ?_
  refine ziadd (d := i + 2) hx hb rfl dL_law_759 ?_
  refine va_sld hx hb hX hbl hbA hS (vp_in_nI (by omega) (by omega)) dL_law_760 ?_
  refine W.eq (g2 := F0 m 761 ls [.int (xs (i + 2)), .int (xs (i + 1)), .ref (G 0), .long r]) (by rw [nI_clamp (by omega)]) ?_
  refine zcallD (As := [.int (xs (i + 1)), .int (xs (i + 2))]) (rest := [.long r]) (k := 2) hx hb hml hown hts k3 gL_law_X3_degreeWith rfl (by decide +kernel) ⟨Nat.le_trans hf3 (by decide), Nat.le_trans (Nat.add_le_add_left hl3 _) (by decide)⟩ rfl hAm hP hPM hG hFG hS rfl hl.1 rfl (Nat.le_of_ble_eq_true rfl) dL_law_761 ⟨by decide, by decide⟩ (fun C2 dg2 Y2 H locs hP hPM hC2 hY2 hS => ?_)
  refine W.eq (g2 := F0 m 764 ls [.long r, .long r]) rfl ?_
  refine zl_eq (tgt := 1056) hx hb dL_law_764 dL_law_765 (by decide) (fun _ => ?_) (fun h9 => absurd rfl h9)
  exact kk H locs ⟨T2, top2, Z2, C2, dg2, Y2, P', n', hP, hPM, hT2, hC2, hI2, fun j hj => by rw [hZ2 j hj, hY2 j hj]; exact hV2 j hj⟩ hS
theorem lwo_byValue {p : Program} {l : Launch} {e : Env} {s : State} {m : MethodId} {below : List Frame} {meth : Method} {c : Code} {D : va_G} {cL cI cR : ClassId} {F G : Nat → Nat} {A0 : Nat → Prop} {b L i : Nat} {xs : Nat → Int32} {Q : State → Prop} {H : Heap} {locs : List Loc} {ls : Array Slot}
    (hx : p.tables.exec = Jvm.exec) (hb : c.code = cL_law) (hml : c.maxLocals = 4) (hown : s.vm.findClass RL = some m.cls) (hts : ∀ w ∈ wsL_law, w.before #[Value.ref b] s = true) (hX : va_X b L xs s s.heap) (hbl : b < s.heap.size) (hbA : ¬ A0 b) (hL : L ≤ 3072) (hi : i + 5 < L) (hAm : zAm D cL cI cR A0 s) (hF : zq_F A0 F 30) (hG : zq_F A0 G 7) (hFG : ∀ i j, i < 30 → j < 7 → F i ≠ G j) (hst : zSt D cL cI cR F G H) (hS : va_S A0 s.heap H locs)
    (hl : lv_has ls 4 [(3, .int (nI i)), (2, .ref (G 0)), (1, .ref (F 24)), (0, .ref b)])
    (kk : ∀ (H1 : Heap) (locs1 : List Loc), zSt D cL cI cR F G H1 → va_S A0 s.heap H1 locs1 → W p l e room_1 s m #[Value.ref b] below meth c H1 locs1 600000 7302250 Q (F0 m 1056 ls [])) : W p l e room_1 s m #[Value.ref b] below meth c H locs 600000 7302250 Q (F0 m 770 ls []) := by
  obtain ⟨T, top, Z, C, dg, Y, P, n, hP, hPM, hTP, hCP, hI, hV⟩ := hst
  refine lv_aload_n hx hb dL_law_770 rfl (lv_at hl 2 rfl) ?_
  refine lv_aload_n hx hb dL_law_771 rfl (lv_at hl 3 rfl) ?_
  refine lv_iload_n hx hb dL_law_772 rfl (lv_at hl 0 rfl) ?_
  refine lv_iconst (v := nI 1) hx hb dL_law_773 (by decide +kernel) ?_
  refine ziadd (d := i + 1) hx hb rfl dL_law_774 ?_
  refine va_sld hx hb hX hbl hbA hS (vp_in_nI (by omega) (by omega)) dL_law_775 ?_
  refine W.eq (g2 := F0 m 776 ls [.int (xs (i + 1)), .ref (F 24)]) (by rw [nI_clamp (by omega)]) ?_
  refine lv_aload_n hx hb dL_law_776 rfl (lv_at hl 3 rfl) ?_
  refine lv_iload_n hx hb dL_law_777 rfl (lv_at hl 0 rfl) ?_
  refine lv_iconst (v := nI 2) hx hb dL_law_778 (by decide +kernel) ?_
  refine ziadd (d := i + 2) hx hb rfl dL_law_779 ?_
  refine va_sld hx hb hX hbl hbA hS (vp_in_nI (by omega) (by omega)) dL_law_780 ?_
  refine W.eq (g2 := F0 m 781 ls [.int (xs (i + 2)), .int (xs (i + 1)), .ref (F 24)]) (by rw [nI_clamp (by omega)]) ?_
  obtain ⟨r, P', n', pv', vals', ⟨fr2, lo2, k2, hf2, hl2⟩, ⟨fr3, lo3, k3, hf3, hl3⟩, hI2, hV2⟩ := zDo_byValue l D cL cI cR F G (zq_Fself hF) (zq_Fself hG) T top Z C dg Y P n hTP hCP hI hV (xs (i + 1)) (xs (i + 2))
  refine zcallC (As := [.int (xs (i + 1)), .int (xs (i + 2))]) (rest := []) (k := 2) hx hb hml hown hts k2 gL_law_X2_byValue rfl (by decide +kernel) ⟨Nat.le_trans hf2 (by decide), Nat.le_trans (Nat.add_le_add_left hl2 _) (by decide)⟩ rfl hAm hP hPM hF hFG hS rfl hl.1 rfl (Nat.le_of_ble_eq_true rfl) dL_law_781 ⟨by decide, by decide⟩ (fun T2 top2 Z2 H locs hP hPM hT2 hZ2 hS => ?_)
  refine W.eq (g2 := F0 m 784 ls [.long r]) rfl ?_
  refine lv_aload_n hx hb dL_law_784 rfl (lv_at hl 1 rfl) ?_
  refine lv_aload_n hx hb dL_law_785 rfl (lv_at hl 3 rfl) ?_
  refine lv_iload_n hx hb dL_law_786 rfl (lv_at hl 0 rfl) ?_
  refine lv_iconst (v := nI 1) hx hb dL_law_787 (by decide +kernel) ?_
  refine ziadd (d := i + 1) hx hb rfl dL_law_788 ?_
  refine va_sld hx hb hX hbl hbA hS (vp_in_nI (by omega) (by omega)) dL_law_789 ?_
  refine W.eq (g2 := F0 m 790 ls [.int (xs (i + 1)), .ref (G 0), .long r]) (by rw [nI_clamp (by omega)]) ?_
  refine lv_aload_n hx hb dL_law_790 rfl (lv_at hl 3 rfl) ?_
  refine lv_iload_n hx hb dL_law_791 rfl (lv_at hl 0 rfl) ?_
  refine lv_iconst (v := nI 2) hx hb dL_law_792 (by decide +kernel) ?_
  refine ziadd (d := i + 2) hx hb rfl dL_law_793 ?_
  refine va_sld hx hb hX hbl hbA hS (vp_in_nI (by omega) (by omega)) dL_law_794 ?_
  refine W.eq (g2 := F0 m 795 ls [.int (xs (i + 2)), .int (xs (i + 1)), .ref (G 0), .long r]) (by rw [nI_clamp (by omega)]) ?_
  refine zcallD (As := [.int (xs (i + 1)), .int (xs (i + 2))]) (rest := [.long r]) (k := 2) hx hb hml hown hts k3 gL_law_X3_byValue rfl (by decide +kernel) ⟨Nat.le_trans hf3 (by decide), Nat.le_trans (Nat.add_le_add_left hl3 _) (by decide)⟩ rfl hAm hP hPM hG hFG hS rfl hl.1 rfl (Nat.le_of_ble_eq_true rfl) dL_law_795 ⟨by decide, by decide⟩ (fun C2 dg2 Y2 H locs hP hPM hC2 hY2 hS => ?_)
  refine W.eq (g2 := F0 m 798 ls [.long r, .long r]) rfl ?_
  refine zl_eq (tgt := 1056) hx hb dL_law_798 dL_law_799 (by decide) (fun _ => ?_) (fun h9 => absurd rfl h9)
  exact kk H locs ⟨T2, top2, Z2, C2, dg2, Y2, P', n', hP, hPM, hT2, hC2, hI2, fun j hj => by rw [hZ2 j hj, hY2 j hj]; exact hV2 j hj⟩ hS
theorem lwo_setValue {p : Program} {l : Launch} {e : Env} {s : State} {m : MethodId} {below : List Frame} {meth : Method} {c : Code} {D : va_G} {cL cI cR : ClassId} {F G : Nat → Nat} {A0 : Nat → Prop} {b L i : Nat} {xs : Nat → Int32} {Q : State → Prop} {H : Heap} {locs : List Loc} {ls : Array Slot}
    (hx : p.tables.exec = Jvm.exec) (hb : c.code = cL_law) (hml : c.maxLocals = 4) (hown : s.vm.findClass RL = some m.cls) (hts : ∀ w ∈ wsL_law, w.before #[Value.ref b] s = true) (hX : va_X b L xs s s.heap) (hbl : b < s.heap.size) (hbA : ¬ A0 b) (hL : L ≤ 3072) (hi : i + 5 < L) (hAm : zAm D cL cI cR A0 s) (hF : zq_F A0 F 30) (hG : zq_F A0 G 7) (hFG : ∀ i j, i < 30 → j < 7 → F i ≠ G j) (hst : zSt D cL cI cR F G H) (hS : va_S A0 s.heap H locs)
    (hl : lv_has ls 4 [(3, .int (nI i)), (2, .ref (G 0)), (1, .ref (F 24)), (0, .ref b)])
    (kk : ∀ (H1 : Heap) (locs1 : List Loc), zSt D cL cI cR F G H1 → va_S A0 s.heap H1 locs1 → W p l e room_1 s m #[Value.ref b] below meth c H1 locs1 600000 7302250 Q (F0 m 1056 ls [])) : W p l e room_1 s m #[Value.ref b] below meth c H locs 600000 7302250 Q (F0 m 804 ls []) := by
  obtain ⟨T, top, Z, C, dg, Y, P, n, hP, hPM, hTP, hCP, hI, hV⟩ := hst
  refine lv_aload_n hx hb dL_law_804 rfl (lv_at hl 2 rfl) ?_
  refine lv_aload_n hx hb dL_law_805 rfl (lv_at hl 3 rfl) ?_
  refine lv_iload_n hx hb dL_law_806 rfl (lv_at hl 0 rfl) ?_
  refine lv_iconst (v := nI 1) hx hb dL_law_807 (by decide +kernel) ?_
  refine ziadd (d := i + 1) hx hb rfl dL_law_808 ?_
  refine va_sld hx hb hX hbl hbA hS (vp_in_nI (by omega) (by omega)) dL_law_809 ?_
  refine W.eq (g2 := F0 m 810 ls [.int (xs (i + 1)), .ref (F 24)]) (by rw [nI_clamp (by omega)]) ?_
  refine lv_aload_n hx hb dL_law_810 rfl (lv_at hl 3 rfl) ?_
  refine lv_iload_n hx hb dL_law_811 rfl (lv_at hl 0 rfl) ?_
  refine lv_iconst (v := nI 2) hx hb dL_law_812 (by decide +kernel) ?_
  refine ziadd (d := i + 2) hx hb rfl dL_law_813 ?_
  refine va_sld hx hb hX hbl hbA hS (vp_in_nI (by omega) (by omega)) dL_law_814 ?_
  refine W.eq (g2 := F0 m 815 ls [.int (xs (i + 2)), .int (xs (i + 1)), .ref (F 24)]) (by rw [nI_clamp (by omega)]) ?_
  obtain ⟨r, P', n', pv', vals', ⟨fr2, lo2, k2, hf2, hl2⟩, ⟨fr3, lo3, k3, hf3, hl3⟩, hI2, hV2⟩ := zDo_setValue l D cL cI cR F G (zq_Fself hF) (zq_Fself hG) T top Z C dg Y P n hTP hCP hI hV (xs (i + 1)) (xs (i + 2))
  refine zcallC (As := [.int (xs (i + 1)), .int (xs (i + 2))]) (rest := []) (k := 2) hx hb hml hown hts k2 gL_law_X2_setValue rfl (by decide +kernel) ⟨Nat.le_trans hf2 (by decide), Nat.le_trans (Nat.add_le_add_left hl2 _) (by decide)⟩ rfl hAm hP hPM hF hFG hS rfl hl.1 rfl (Nat.le_of_ble_eq_true rfl) dL_law_815 ⟨by decide, by decide⟩ (fun T2 top2 Z2 H locs hP hPM hT2 hZ2 hS => ?_)
  refine W.eq (g2 := F0 m 818 ls [.long r]) rfl ?_
  refine lv_aload_n hx hb dL_law_818 rfl (lv_at hl 1 rfl) ?_
  refine lv_aload_n hx hb dL_law_819 rfl (lv_at hl 3 rfl) ?_
  refine lv_iload_n hx hb dL_law_820 rfl (lv_at hl 0 rfl) ?_
  refine lv_iconst (v := nI 1) hx hb dL_law_821 (by decide +kernel) ?_
  refine ziadd (d := i + 1) hx hb rfl dL_law_822 ?_
  refine va_sld hx hb hX hbl hbA hS (vp_in_nI (by omega) (by omega)) dL_law_823 ?_
  refine W.eq (g2 := F0 m 824 ls [.int (xs (i + 1)), .ref (G 0), .long r]) (by rw [nI_clamp (by omega)]) ?_
  refine lv_aload_n hx hb dL_law_824 rfl (lv_at hl 3 rfl) ?_
  refine lv_iload_n hx hb dL_law_825 rfl (lv_at hl 0 rfl) ?_
  refine lv_iconst (v := nI 2) hx hb dL_law_826 (by decide +kernel) ?_
  refine ziadd (d := i + 2) hx hb rfl dL_law_827 ?_
  refine va_sld hx hb hX hbl hbA hS (vp_in_nI (by omega) (by omega)) dL_law_828 ?_
  refine W.eq (g2 := F0 m 829 ls [.int (xs (i + 2)), .int (xs (i + 1)), .ref (G 0), .long r]) (by rw [nI_clamp (by omega)]) ?_
  refine zcallD (As := [.int (xs (i + 1)), .int (xs (i + 2))]) (rest := [.long r]) (k := 2) hx hb hml hown hts k3 gL_law_X3_setValue rfl (by decide +kernel) ⟨Nat.le_trans hf3 (by decide), Nat.le_trans (Nat.add_le_add_left hl3 _) (by decide)⟩ rfl hAm hP hPM hG hFG hS rfl hl.1 rfl (Nat.le_of_ble_eq_true rfl) dL_law_829 ⟨by decide, by decide⟩ (fun C2 dg2 Y2 H locs hP hPM hC2 hY2 hS => ?_)
  refine W.eq (g2 := F0 m 832 ls [.long r, .long r]) rfl ?_
  refine zl_eq (tgt := 1056) hx hb dL_law_832 dL_law_833 (by decide) (fun _ => ?_) (fun h9 => absurd rfl h9)
  exact kk H locs ⟨T2, top2, Z2, C2, dg2, Y2, P', n', hP, hPM, hT2, hC2, hI2, fun j hj => by rw [hZ2 j hj, hY2 j hj]; exact hV2 j hj⟩ hS
theorem lwo_interpolate {p : Program} {l : Launch} {e : Env} {s : State} {m : MethodId} {below : List Frame} {meth : Method} {c : Code} {D : va_G} {cL cI cR : ClassId} {F G : Nat → Nat} {A0 : Nat → Prop} {b L i : Nat} {xs : Nat → Int32} {Q : State → Prop} {H : Heap} {locs : List Loc} {ls : Array Slot}
    (hx : p.tables.exec = Jvm.exec) (hb : c.code = cL_law) (hml : c.maxLocals = 4) (hown : s.vm.findClass RL = some m.cls) (hts : ∀ w ∈ wsL_law, w.before #[Value.ref b] s = true) (hX : va_X b L xs s s.heap) (hbl : b < s.heap.size) (hbA : ¬ A0 b) (hL : L ≤ 3072) (hi : i + 5 < L) (hAm : zAm D cL cI cR A0 s) (hF : zq_F A0 F 30) (hG : zq_F A0 G 7) (hFG : ∀ i j, i < 30 → j < 7 → F i ≠ G j) (hst : zSt D cL cI cR F G H) (hS : va_S A0 s.heap H locs)
    (hl : lv_has ls 4 [(3, .int (nI i)), (2, .ref (G 0)), (1, .ref (F 24)), (0, .ref b)])
    (kk : ∀ (H1 : Heap) (locs1 : List Loc), zSt D cL cI cR F G H1 → va_S A0 s.heap H1 locs1 → W p l e room_1 s m #[Value.ref b] below meth c H1 locs1 600000 7302250 Q (F0 m 1056 ls [])) : W p l e room_1 s m #[Value.ref b] below meth c H locs 600000 7302250 Q (F0 m 838 ls []) := by
  obtain ⟨T, top, Z, C, dg, Y, P, n, hP, hPM, hTP, hCP, hI, hV⟩ := hst
  refine lv_aload_n hx hb dL_law_838 rfl (lv_at hl 2 rfl) ?_
  refine lv_aload_n hx hb dL_law_839 rfl (lv_at hl 3 rfl) ?_
  refine lv_iload_n hx hb dL_law_840 rfl (lv_at hl 0 rfl) ?_
  refine lv_iconst (v := nI 1) hx hb dL_law_841 (by decide +kernel) ?_
  refine ziadd (d := i + 1) hx hb rfl dL_law_842 ?_
  refine va_sld hx hb hX hbl hbA hS (vp_in_nI (by omega) (by omega)) dL_law_843 ?_
  refine W.eq (g2 := F0 m 844 ls [.int (xs (i + 1)), .ref (F 24)]) (by rw [nI_clamp (by omega)]) ?_
  refine lv_aload_n hx hb dL_law_844 rfl (lv_at hl 3 rfl) ?_
  refine lv_iload_n hx hb dL_law_845 rfl (lv_at hl 0 rfl) ?_
  refine lv_iconst (v := nI 2) hx hb dL_law_846 (by decide +kernel) ?_
  refine ziadd (d := i + 2) hx hb rfl dL_law_847 ?_
  refine va_sld hx hb hX hbl hbA hS (vp_in_nI (by omega) (by omega)) dL_law_848 ?_
  refine W.eq (g2 := F0 m 849 ls [.int (xs (i + 2)), .int (xs (i + 1)), .ref (F 24)]) (by rw [nI_clamp (by omega)]) ?_
  obtain ⟨r, P', n', pv', vals', ⟨fr2, lo2, k2, hf2, hl2⟩, ⟨fr3, lo3, k3, hf3, hl3⟩, hI2, hV2⟩ := zDo_interpolate l D cL cI cR F G (zq_Fself hF) (zq_Fself hG) T top Z C dg Y P n hTP hCP hI hV (xs (i + 1)) (xs (i + 2))
  refine zcallC (As := [.int (xs (i + 1)), .int (xs (i + 2))]) (rest := []) (k := 2) hx hb hml hown hts k2 gL_law_X2_interpolate rfl (by decide +kernel) ⟨Nat.le_trans hf2 (by decide), Nat.le_trans (Nat.add_le_add_left hl2 _) (by decide)⟩ rfl hAm hP hPM hF hFG hS rfl hl.1 rfl (Nat.le_of_ble_eq_true rfl) dL_law_849 ⟨by decide, by decide⟩ (fun T2 top2 Z2 H locs hP hPM hT2 hZ2 hS => ?_)
  refine W.eq (g2 := F0 m 852 ls [.long r]) rfl ?_
  refine lv_aload_n hx hb dL_law_852 rfl (lv_at hl 1 rfl) ?_
  refine lv_aload_n hx hb dL_law_853 rfl (lv_at hl 3 rfl) ?_
  refine lv_iload_n hx hb dL_law_854 rfl (lv_at hl 0 rfl) ?_
  refine lv_iconst (v := nI 1) hx hb dL_law_855 (by decide +kernel) ?_
  refine ziadd (d := i + 1) hx hb rfl dL_law_856 ?_
  refine va_sld hx hb hX hbl hbA hS (vp_in_nI (by omega) (by omega)) dL_law_857 ?_
  refine W.eq (g2 := F0 m 858 ls [.int (xs (i + 1)), .ref (G 0), .long r]) (by rw [nI_clamp (by omega)]) ?_
  refine lv_aload_n hx hb dL_law_858 rfl (lv_at hl 3 rfl) ?_
  refine lv_iload_n hx hb dL_law_859 rfl (lv_at hl 0 rfl) ?_
  refine lv_iconst (v := nI 2) hx hb dL_law_860 (by decide +kernel) ?_
  refine ziadd (d := i + 2) hx hb rfl dL_law_861 ?_
  refine va_sld hx hb hX hbl hbA hS (vp_in_nI (by omega) (by omega)) dL_law_862 ?_
  refine W.eq (g2 := F0 m 863 ls [.int (xs (i + 2)), .int (xs (i + 1)), .ref (G 0), .long r]) (by rw [nI_clamp (by omega)]) ?_
  refine zcallD (As := [.int (xs (i + 1)), .int (xs (i + 2))]) (rest := [.long r]) (k := 2) hx hb hml hown hts k3 gL_law_X3_interpolate rfl (by decide +kernel) ⟨Nat.le_trans hf3 (by decide), Nat.le_trans (Nat.add_le_add_left hl3 _) (by decide)⟩ rfl hAm hP hPM hG hFG hS rfl hl.1 rfl (Nat.le_of_ble_eq_true rfl) dL_law_863 ⟨by decide, by decide⟩ (fun C2 dg2 Y2 H locs hP hPM hC2 hY2 hS => ?_)
  refine W.eq (g2 := F0 m 866 ls [.long r, .long r]) rfl ?_
  refine zl_eq (tgt := 1056) hx hb dL_law_866 dL_law_867 (by decide) (fun _ => ?_) (fun h9 => absurd rfl h9)
  exact kk H locs ⟨T2, top2, Z2, C2, dg2, Y2, P', n', hP, hPM, hT2, hC2, hI2, fun j hj => by rw [hZ2 j hj, hY2 j hj]; exact hV2 j hj⟩ hS
theorem lwo_sample {p : Program} {l : Launch} {e : Env} {s : State} {m : MethodId} {below : List Frame} {meth : Method} {c : Code} {D : va_G} {cL cI cR : ClassId} {F G : Nat → Nat} {A0 : Nat → Prop} {b L i : Nat} {xs : Nat → Int32} {Q : State → Prop} {H : Heap} {locs : List Loc} {ls : Array Slot}
    (hx : p.tables.exec = Jvm.exec) (hb : c.code = cL_law) (hml : c.maxLocals = 4) (hown : s.vm.findClass RL = some m.cls) (hts : ∀ w ∈ wsL_law, w.before #[Value.ref b] s = true) (hX : va_X b L xs s s.heap) (hbl : b < s.heap.size) (hbA : ¬ A0 b) (hL : L ≤ 3072) (hi : i + 5 < L) (hAm : zAm D cL cI cR A0 s) (hF : zq_F A0 F 30) (hG : zq_F A0 G 7) (hFG : ∀ i j, i < 30 → j < 7 → F i ≠ G j) (hst : zSt D cL cI cR F G H) (hS : va_S A0 s.heap H locs)
    (hl : lv_has ls 4 [(3, .int (nI i)), (2, .ref (G 0)), (1, .ref (F 24)), (0, .ref b)])
    (kk : ∀ (H1 : Heap) (locs1 : List Loc), zSt D cL cI cR F G H1 → va_S A0 s.heap H1 locs1 → W p l e room_1 s m #[Value.ref b] below meth c H1 locs1 600000 7302250 Q (F0 m 1056 ls [])) : W p l e room_1 s m #[Value.ref b] below meth c H locs 600000 7302250 Q (F0 m 872 ls []) := by
  obtain ⟨T, top, Z, C, dg, Y, P, n, hP, hPM, hTP, hCP, hI, hV⟩ := hst
  refine lv_aload_n hx hb dL_law_872 rfl (lv_at hl 2 rfl) ?_
  refine lv_aload_n hx hb dL_law_873 rfl (lv_at hl 3 rfl) ?_
  refine lv_iload_n hx hb dL_law_874 rfl (lv_at hl 0 rfl) ?_
  refine lv_iconst (v := nI 1) hx hb dL_law_875 (by decide +kernel) ?_
  refine ziadd (d := i + 1) hx hb rfl dL_law_876 ?_
  refine va_sld hx hb hX hbl hbA hS (vp_in_nI (by omega) (by omega)) dL_law_877 ?_
  refine W.eq (g2 := F0 m 878 ls [.int (xs (i + 1)), .ref (F 24)]) (by rw [nI_clamp (by omega)]) ?_
  refine lv_aload_n hx hb dL_law_878 rfl (lv_at hl 3 rfl) ?_
  refine lv_iload_n hx hb dL_law_879 rfl (lv_at hl 0 rfl) ?_
  refine lv_iconst (v := nI 2) hx hb dL_law_880 (by decide +kernel) ?_
  refine ziadd (d := i + 2) hx hb rfl dL_law_881 ?_
  refine va_sld hx hb hX hbl hbA hS (vp_in_nI (by omega) (by omega)) dL_law_882 ?_
  refine W.eq (g2 := F0 m 883 ls [.int (xs (i + 2)), .int (xs (i + 1)), .ref (F 24)]) (by rw [nI_clamp (by omega)]) ?_
  obtain ⟨r, P', n', pv', vals', ⟨fr2, lo2, k2, hf2, hl2⟩, ⟨fr3, lo3, k3, hf3, hl3⟩, hI2, hV2⟩ := zDo_sample l D cL cI cR F G (zq_Fself hF) (zq_Fself hG) T top Z C dg Y P n hTP hCP hI hV (zsm hI) (xs (i + 1)) (xs (i + 2))
  refine zcallC (As := [.int (xs (i + 1)), .int (xs (i + 2))]) (rest := []) (k := 2) hx hb hml hown hts k2 gL_law_X2_sample rfl (by decide +kernel) ⟨Nat.le_trans hf2 (by decide), Nat.le_trans (Nat.add_le_add_left hl2 _) (by decide)⟩ rfl hAm hP hPM hF hFG hS rfl hl.1 rfl (Nat.le_of_ble_eq_true rfl) dL_law_883 ⟨by decide, by decide⟩ (fun T2 top2 Z2 H locs hP hPM hT2 hZ2 hS => ?_)
  refine W.eq (g2 := F0 m 886 ls [.long r]) rfl ?_
  refine lv_aload_n hx hb dL_law_886 rfl (lv_at hl 1 rfl) ?_
  refine lv_aload_n hx hb dL_law_887 rfl (lv_at hl 3 rfl) ?_
  refine lv_iload_n hx hb dL_law_888 rfl (lv_at hl 0 rfl) ?_
  refine lv_iconst (v := nI 1) hx hb dL_law_889 (by decide +kernel) ?_
  refine ziadd (d := i + 1) hx hb rfl dL_law_890 ?_
  refine va_sld hx hb hX hbl hbA hS (vp_in_nI (by omega) (by omega)) dL_law_891 ?_
  refine W.eq (g2 := F0 m 892 ls [.int (xs (i + 1)), .ref (G 0), .long r]) (by rw [nI_clamp (by omega)]) ?_
  refine lv_aload_n hx hb dL_law_892 rfl (lv_at hl 3 rfl) ?_
  refine lv_iload_n hx hb dL_law_893 rfl (lv_at hl 0 rfl) ?_
  refine lv_iconst (v := nI 2) hx hb dL_law_894 (by decide +kernel) ?_
  refine ziadd (d := i + 2) hx hb rfl dL_law_895 ?_
  refine va_sld hx hb hX hbl hbA hS (vp_in_nI (by omega) (by omega)) dL_law_896 ?_
  refine W.eq (g2 := F0 m 897 ls [.int (xs (i + 2)), .int (xs (i + 1)), .ref (G 0), .long r]) (by rw [nI_clamp (by omega)]) ?_
  refine zcallD (As := [.int (xs (i + 1)), .int (xs (i + 2))]) (rest := [.long r]) (k := 2) hx hb hml hown hts k3 gL_law_X3_sample rfl (by decide +kernel) ⟨Nat.le_trans hf3 (by decide), Nat.le_trans (Nat.add_le_add_left hl3 _) (by decide)⟩ rfl hAm hP hPM hG hFG hS rfl hl.1 rfl (Nat.le_of_ble_eq_true rfl) dL_law_897 ⟨by decide, by decide⟩ (fun C2 dg2 Y2 H locs hP hPM hC2 hY2 hS => ?_)
  refine W.eq (g2 := F0 m 900 ls [.long r, .long r]) rfl ?_
  refine zl_eq (tgt := 1056) hx hb dL_law_900 dL_law_901 (by decide) (fun _ => ?_) (fun h9 => absurd rfl h9)
  exact kk H locs ⟨T2, top2, Z2, C2, dg2, Y2, P', n', hP, hPM, hT2, hC2, hI2, fun j hj => by rw [hZ2 j hj, hY2 j hj]; exact hV2 j hj⟩ hS
theorem lwo_misfit {p : Program} {l : Launch} {e : Env} {s : State} {m : MethodId} {below : List Frame} {meth : Method} {c : Code} {D : va_G} {cL cI cR : ClassId} {F G : Nat → Nat} {A0 : Nat → Prop} {b L i : Nat} {xs : Nat → Int32} {Q : State → Prop} {H : Heap} {locs : List Loc} {ls : Array Slot}
    (hx : p.tables.exec = Jvm.exec) (hb : c.code = cL_law) (hml : c.maxLocals = 4) (hown : s.vm.findClass RL = some m.cls) (hts : ∀ w ∈ wsL_law, w.before #[Value.ref b] s = true) (hX : va_X b L xs s s.heap) (hbl : b < s.heap.size) (hbA : ¬ A0 b) (hL : L ≤ 3072) (hi : i + 5 < L) (hAm : zAm D cL cI cR A0 s) (hF : zq_F A0 F 30) (hG : zq_F A0 G 7) (hFG : ∀ i j, i < 30 → j < 7 → F i ≠ G j) (hst : zSt D cL cI cR F G H) (hS : va_S A0 s.heap H locs)
    (hl : lv_has ls 4 [(3, .int (nI i)), (2, .ref (G 0)), (1, .ref (F 24)), (0, .ref b)])
    (kk : ∀ (H1 : Heap) (locs1 : List Loc), zSt D cL cI cR F G H1 → va_S A0 s.heap H1 locs1 → W p l e room_1 s m #[Value.ref b] below meth c H1 locs1 600000 7302250 Q (F0 m 1056 ls [])) : W p l e room_1 s m #[Value.ref b] below meth c H locs 600000 7302250 Q (F0 m 906 ls []) := by
  obtain ⟨T, top, Z, C, dg, Y, P, n, hP, hPM, hTP, hCP, hI, hV⟩ := hst
  refine lv_aload_n hx hb dL_law_906 rfl (lv_at hl 2 rfl) ?_
  refine lv_aload_n hx hb dL_law_907 rfl (lv_at hl 3 rfl) ?_
  refine lv_iload_n hx hb dL_law_908 rfl (lv_at hl 0 rfl) ?_
  refine lv_iconst (v := nI 1) hx hb dL_law_909 (by decide +kernel) ?_
  refine ziadd (d := i + 1) hx hb rfl dL_law_910 ?_
  refine va_sld hx hb hX hbl hbA hS (vp_in_nI (by omega) (by omega)) dL_law_911 ?_
  refine W.eq (g2 := F0 m 912 ls [.int (xs (i + 1)), .ref (F 24)]) (by rw [nI_clamp (by omega)]) ?_
  refine lv_aload_n hx hb dL_law_912 rfl (lv_at hl 3 rfl) ?_
  refine lv_iload_n hx hb dL_law_913 rfl (lv_at hl 0 rfl) ?_
  refine lv_iconst (v := nI 2) hx hb dL_law_914 (by decide +kernel) ?_
  refine ziadd (d := i + 2) hx hb rfl dL_law_915 ?_
  refine va_sld hx hb hX hbl hbA hS (vp_in_nI (by omega) (by omega)) dL_law_916 ?_
  refine W.eq (g2 := F0 m 917 ls [.int (xs (i + 2)), .int (xs (i + 1)), .ref (F 24)]) (by rw [nI_clamp (by omega)]) ?_
  obtain ⟨r, P', n', pv', vals', ⟨fr2, lo2, k2, hf2, hl2⟩, ⟨fr3, lo3, k3, hf3, hl3⟩, hI2, hV2⟩ := zDo_misfit l D cL cI cR F G (zq_Fself hF) (zq_Fself hG) T top Z C dg Y P n hTP hCP hI hV (xs (i + 1)) (xs (i + 2))
  refine zcallC (As := [.int (xs (i + 1)), .int (xs (i + 2))]) (rest := []) (k := 2) hx hb hml hown hts k2 gL_law_X2_misfit rfl (by decide +kernel) ⟨Nat.le_trans hf2 (by decide), Nat.le_trans (Nat.add_le_add_left hl2 _) (by decide)⟩ rfl hAm hP hPM hF hFG hS rfl hl.1 rfl (Nat.le_of_ble_eq_true rfl) dL_law_917 ⟨by decide, by decide⟩ (fun T2 top2 Z2 H locs hP hPM hT2 hZ2 hS => ?_)
  refine W.eq (g2 := F0 m 920 ls [.long r]) rfl ?_
  refine lv_aload_n hx hb dL_law_920 rfl (lv_at hl 1 rfl) ?_
  refine lv_aload_n hx hb dL_law_921 rfl (lv_at hl 3 rfl) ?_
  refine lv_iload_n hx hb dL_law_922 rfl (lv_at hl 0 rfl) ?_
  refine lv_iconst (v := nI 1) hx hb dL_law_923 (by decide +kernel) ?_
  refine ziadd (d := i + 1) hx hb rfl dL_law_924 ?_
  refine va_sld hx hb hX hbl hbA hS (vp_in_nI (by omega) (by omega)) dL_law_925 ?_
  refine W.eq (g2 := F0 m 926 ls [.int (xs (i + 1)), .ref (G 0), .long r]) (by rw [nI_clamp (by omega)]) ?_
  refine lv_aload_n hx hb dL_law_926 rfl (lv_at hl 3 rfl) ?_
  refine lv_iload_n hx hb dL_law_927 rfl (lv_at hl 0 rfl) ?_
  refine lv_iconst (v := nI 2) hx hb dL_law_928 (by decide +kernel) ?_
  refine ziadd (d := i + 2) hx hb rfl dL_law_929 ?_
  refine va_sld hx hb hX hbl hbA hS (vp_in_nI (by omega) (by omega)) dL_law_930 ?_
  refine W.eq (g2 := F0 m 931 ls [.int (xs (i + 2)), .int (xs (i + 1)), .ref (G 0), .long r]) (by rw [nI_clamp (by omega)]) ?_
  refine zcallD (As := [.int (xs (i + 1)), .int (xs (i + 2))]) (rest := [.long r]) (k := 2) hx hb hml hown hts k3 gL_law_X3_misfit rfl (by decide +kernel) ⟨Nat.le_trans hf3 (by decide), Nat.le_trans (Nat.add_le_add_left hl3 _) (by decide)⟩ rfl hAm hP hPM hG hFG hS rfl hl.1 rfl (Nat.le_of_ble_eq_true rfl) dL_law_931 ⟨by decide, by decide⟩ (fun C2 dg2 Y2 H locs hP hPM hC2 hY2 hS => ?_)
  refine W.eq (g2 := F0 m 934 ls [.long r, .long r]) rfl ?_
  refine zl_eq (tgt := 1056) hx hb dL_law_934 dL_law_935 (by decide) (fun _ => ?_) (fun h9 => absurd rfl h9)
  exact kk H locs ⟨T2, top2, Z2, C2, dg2, Y2, P', n', hP, hPM, hT2, hC2, hI2, fun j hj => by rw [hZ2 j hj, hY2 j hj]; exact hV2 j hj⟩ hS
theorem lwo_extremePoint {p : Program} {l : Launch} {e : Env} {s : State} {m : MethodId} {below : List Frame} {meth : Method} {c : Code} {D : va_G} {cL cI cR : ClassId} {F G : Nat → Nat} {A0 : Nat → Prop} {b L i : Nat} {xs : Nat → Int32} {Q : State → Prop} {H : Heap} {locs : List Loc} {ls : Array Slot}
    (hx : p.tables.exec = Jvm.exec) (hb : c.code = cL_law) (hml : c.maxLocals = 4) (hown : s.vm.findClass RL = some m.cls) (hts : ∀ w ∈ wsL_law, w.before #[Value.ref b] s = true) (hX : va_X b L xs s s.heap) (hbl : b < s.heap.size) (hbA : ¬ A0 b) (hL : L ≤ 3072) (hi : i + 5 < L) (hAm : zAm D cL cI cR A0 s) (hF : zq_F A0 F 30) (hG : zq_F A0 G 7) (hFG : ∀ i j, i < 30 → j < 7 → F i ≠ G j) (hst : zSt D cL cI cR F G H) (hS : va_S A0 s.heap H locs)
    (hl : lv_has ls 4 [(3, .int (nI i)), (2, .ref (G 0)), (1, .ref (F 24)), (0, .ref b)])
    (kk : ∀ (H1 : Heap) (locs1 : List Loc), zSt D cL cI cR F G H1 → va_S A0 s.heap H1 locs1 → W p l e room_1 s m #[Value.ref b] below meth c H1 locs1 600000 7302250 Q (F0 m 1056 ls [])) : W p l e room_1 s m #[Value.ref b] below meth c H locs 600000 7302250 Q (F0 m 940 ls []) := by
  obtain ⟨T, top, Z, C, dg, Y, P, n, hP, hPM, hTP, hCP, hI, hV⟩ := hst
  refine lv_aload_n hx hb dL_law_940 rfl (lv_at hl 2 rfl) ?_
  refine lv_aload_n hx hb dL_law_941 rfl (lv_at hl 3 rfl) ?_
  refine lv_iload_n hx hb dL_law_942 rfl (lv_at hl 0 rfl) ?_
  refine lv_iconst (v := nI 1) hx hb dL_law_943 (by decide +kernel) ?_
  refine ziadd (d := i + 1) hx hb rfl dL_law_944 ?_
  refine va_sld hx hb hX hbl hbA hS (vp_in_nI (by omega) (by omega)) dL_law_945 ?_
  refine W.eq (g2 := F0 m 946 ls [.int (xs (i + 1)), .ref (F 24)]) (by rw [nI_clamp (by omega)]) ?_
  refine lv_aload_n hx hb dL_law_946 rfl (lv_at hl 3 rfl) ?_
  refine lv_iload_n hx hb dL_law_947 rfl (lv_at hl 0 rfl) ?_
  refine lv_iconst (v := nI 2) hx hb dL_law_948 (by decide +kernel) ?_
  refine ziadd (d := i + 2) hx hb rfl dL_law_949 ?_
  refine va_sld hx hb hX hbl hbA hS (vp_in_nI (by omega) (by omega)) dL_law_950 ?_
  refine W.eq (g2 := F0 m 951 ls [.int (xs (i + 2)), .int (xs (i + 1)), .ref (F 24)]) (by rw [nI_clamp (by omega)]) ?_
  obtain ⟨r, P', n', pv', vals', ⟨fr2, lo2, k2, hf2, hl2⟩, ⟨fr3, lo3, k3, hf3, hl3⟩, hI2, hV2⟩ := zDo_extremePoint l D cL cI cR F G (zq_Fself hF) (zq_Fself hG) T top Z C dg Y P n hTP hCP hI hV (xs (i + 1)) (xs (i + 2))
  refine zcallC (As := [.int (xs (i + 1)), .int (xs (i + 2))]) (rest := []) (k := 2) hx hb hml hown hts k2 gL_law_X2_extremePoint rfl (by decide +kernel) ⟨Nat.le_trans hf2 (by decide), Nat.le_trans (Nat.add_le_add_left hl2 _) (by decide)⟩ rfl hAm hP hPM hF hFG hS rfl hl.1 rfl (Nat.le_of_ble_eq_true rfl) dL_law_951 ⟨by decide, by decide⟩ (fun T2 top2 Z2 H locs hP hPM hT2 hZ2 hS => ?_)
  refine W.eq (g2 := F0 m 954 ls [.long r]) rfl ?_
  refine lv_aload_n hx hb dL_law_954 rfl (lv_at hl 1 rfl) ?_
  refine lv_aload_n hx hb dL_law_955 rfl (lv_at hl 3 rfl) ?_
  refine lv_iload_n hx hb dL_law_956 rfl (lv_at hl 0 rfl) ?_
  refine lv_iconst (v := nI 1) hx hb dL_law_957 (by decide +kernel) ?_
  refine ziadd (d := i + 1) hx hb rfl dL_law_958 ?_
  refine va_sld hx hb hX hbl hbA hS (vp_in_nI (by omega) (by omega)) dL_law_959 ?_
  refine W.eq (g2 := F0 m 960 ls [.int (xs (i + 1)), .ref (G 0), .long r]) (by rw [nI_clamp (by omega)]) ?_
  refine lv_aload_n hx hb dL_law_960 rfl (lv_at hl 3 rfl) ?_
  refine lv_iload_n hx hb dL_law_961 rfl (lv_at hl 0 rfl) ?_
  refine lv_iconst (v := nI 2) hx hb dL_law_962 (by decide +kernel) ?_
  refine ziadd (d := i + 2) hx hb rfl dL_law_963 ?_
  refine va_sld hx hb hX hbl hbA hS (vp_in_nI (by omega) (by omega)) dL_law_964 ?_
  refine W.eq (g2 := F0 m 965 ls [.int (xs (i + 2)), .int (xs (i + 1)), .ref (G 0), .long r]) (by rw [nI_clamp (by omega)]) ?_
  refine zcallD (As := [.int (xs (i + 1)), .int (xs (i + 2))]) (rest := [.long r]) (k := 2) hx hb hml hown hts k3 gL_law_X3_extremePoint rfl (by decide +kernel) ⟨Nat.le_trans hf3 (by decide), Nat.le_trans (Nat.add_le_add_left hl3 _) (by decide)⟩ rfl hAm hP hPM hG hFG hS rfl hl.1 rfl (Nat.le_of_ble_eq_true rfl) dL_law_965 ⟨by decide, by decide⟩ (fun C2 dg2 Y2 H locs hP hPM hC2 hY2 hS => ?_)
  refine W.eq (g2 := F0 m 968 ls [.long r, .long r]) rfl ?_
  refine zl_eq (tgt := 1056) hx hb dL_law_968 dL_law_969 (by decide) (fun _ => ?_) (fun h9 => absurd rfl h9)
  exact kk H locs ⟨T2, top2, Z2, C2, dg2, Y2, P', n', hP, hPM, hT2, hC2, hI2, fun j hj => by rw [hZ2 j hj, hY2 j hj]; exact hV2 j hj⟩ hS
theorem lwo_root {p : Program} {l : Launch} {e : Env} {s : State} {m : MethodId} {below : List Frame} {meth : Method} {c : Code} {D : va_G} {cL cI cR : ClassId} {F G : Nat → Nat} {A0 : Nat → Prop} {b L i : Nat} {xs : Nat → Int32} {Q : State → Prop} {H : Heap} {locs : List Loc} {ls : Array Slot}
    (hx : p.tables.exec = Jvm.exec) (hb : c.code = cL_law) (hml : c.maxLocals = 4) (hown : s.vm.findClass RL = some m.cls) (hts : ∀ w ∈ wsL_law, w.before #[Value.ref b] s = true) (hX : va_X b L xs s s.heap) (hbl : b < s.heap.size) (hbA : ¬ A0 b) (hL : L ≤ 3072) (hi : i + 5 < L) (hAm : zAm D cL cI cR A0 s) (hF : zq_F A0 F 30) (hG : zq_F A0 G 7) (hFG : ∀ i j, i < 30 → j < 7 → F i ≠ G j) (hst : zSt D cL cI cR F G H) (hS : va_S A0 s.heap H locs)
    (hl : lv_has ls 4 [(3, .int (nI i)), (2, .ref (G 0)), (1, .ref (F 24)), (0, .ref b)])
    (kk : ∀ (H1 : Heap) (locs1 : List Loc), zSt D cL cI cR F G H1 → va_S A0 s.heap H1 locs1 → W p l e room_1 s m #[Value.ref b] below meth c H1 locs1 600000 7302250 Q (F0 m 1056 ls [])) : W p l e room_1 s m #[Value.ref b] below meth c H locs 600000 7302250 Q (F0 m 974 ls []) := by
  obtain ⟨T, top, Z, C, dg, Y, P, n, hP, hPM, hTP, hCP, hI, hV⟩ := hst
  refine lv_aload_n hx hb dL_law_974 rfl (lv_at hl 2 rfl) ?_
  refine lv_aload_n hx hb dL_law_975 rfl (lv_at hl 3 rfl) ?_
  refine lv_iload_n hx hb dL_law_976 rfl (lv_at hl 0 rfl) ?_
  refine lv_iconst (v := nI 1) hx hb dL_law_977 (by decide +kernel) ?_
  refine ziadd (d := i + 1) hx hb rfl dL_law_978 ?_
  refine va_sld hx hb hX hbl hbA hS (vp_in_nI (by omega) (by omega)) dL_law_979 ?_
  refine W.eq (g2 := F0 m 980 ls [.int (xs (i + 1)), .ref (F 24)]) (by rw [nI_clamp (by omega)]) ?_
  refine lv_aload_n hx hb dL_law_980 rfl (lv_at hl 3 rfl) ?_
  refine lv_iload_n hx hb dL_law_981 rfl (lv_at hl 0 rfl) ?_
  refine lv_iconst (v := nI 2) hx hb dL_law_982 (by decide +kernel) ?_
  refine ziadd (d := i + 2) hx hb rfl dL_law_983 ?_
  refine va_sld hx hb hX hbl hbA hS (vp_in_nI (by omega) (by omega)) dL_law_984 ?_
  refine W.eq (g2 := F0 m 985 ls [.int (xs (i + 2)), .int (xs (i + 1)), .ref (F 24)]) (by rw [nI_clamp (by omega)]) ?_
  obtain ⟨r, P', n', pv', vals', ⟨fr2, lo2, k2, hf2, hl2⟩, ⟨fr3, lo3, k3, hf3, hl3⟩, hI2, hV2⟩ := zDo_root l D cL cI cR F G (zq_Fself hF) (zq_Fself hG) T top Z C dg Y P n hTP hCP hI hV (xs (i + 1)) (xs (i + 2))
  refine zcallC (As := [.int (xs (i + 1)), .int (xs (i + 2))]) (rest := []) (k := 2) hx hb hml hown hts k2 gL_law_X2_root rfl (by decide +kernel) ⟨Nat.le_trans hf2 (by decide), Nat.le_trans (Nat.add_le_add_left hl2 _) (by decide)⟩ rfl hAm hP hPM hF hFG hS rfl hl.1 rfl (Nat.le_of_ble_eq_true rfl) dL_law_985 ⟨by decide, by decide⟩ (fun T2 top2 Z2 H locs hP hPM hT2 hZ2 hS => ?_)
  refine W.eq (g2 := F0 m 988 ls [.long r]) rfl ?_
  refine lv_aload_n hx hb dL_law_988 rfl (lv_at hl 1 rfl) ?_
  refine lv_aload_n hx hb dL_law_989 rfl (lv_at hl 3 rfl) ?_
  refine lv_iload_n hx hb dL_law_990 rfl (lv_at hl 0 rfl) ?_
  refine lv_iconst (v := nI 1) hx hb dL_law_991 (by decide +kernel) ?_
  refine ziadd (d := i + 1) hx hb rfl dL_law_992 ?_
  refine va_sld hx hb hX hbl hbA hS (vp_in_nI (by omega) (by omega)) dL_law_993 ?_
  refine W.eq (g2 := F0 m 994 ls [.int (xs (i + 1)), .ref (G 0), .long r]) (by rw [nI_clamp (by omega)]) ?_
  refine lv_aload_n hx hb dL_law_994 rfl (lv_at hl 3 rfl) ?_
  refine lv_iload_n hx hb dL_law_995 rfl (lv_at hl 0 rfl) ?_
  refine lv_iconst (v := nI 2) hx hb dL_law_996 (by decide +kernel) ?_
  refine ziadd (d := i + 2) hx hb rfl dL_law_997 ?_
  refine va_sld hx hb hX hbl hbA hS (vp_in_nI (by omega) (by omega)) dL_law_998 ?_
  refine W.eq (g2 := F0 m 999 ls [.int (xs (i + 2)), .int (xs (i + 1)), .ref (G 0), .long r]) (by rw [nI_clamp (by omega)]) ?_
  refine zcallD (As := [.int (xs (i + 1)), .int (xs (i + 2))]) (rest := [.long r]) (k := 2) hx hb hml hown hts k3 gL_law_X3_root rfl (by decide +kernel) ⟨Nat.le_trans hf3 (by decide), Nat.le_trans (Nat.add_le_add_left hl3 _) (by decide)⟩ rfl hAm hP hPM hG hFG hS rfl hl.1 rfl (Nat.le_of_ble_eq_true rfl) dL_law_999 ⟨by decide, by decide⟩ (fun C2 dg2 Y2 H locs hP hPM hC2 hY2 hS => ?_)
  refine W.eq (g2 := F0 m 1002 ls [.long r, .long r]) rfl ?_
  refine zl_eq (tgt := 1056) hx hb dL_law_1002 dL_law_1003 (by decide) (fun _ => ?_) (fun h9 => absurd rfl h9)
  exact kk H locs ⟨T2, top2, Z2, C2, dg2, Y2, P', n', hP, hPM, hT2, hC2, hI2, fun j hj => by rw [hZ2 j hj, hY2 j hj]; exact hV2 j hj⟩ hS
theorem lwo_intervals {p : Program} {l : Launch} {e : Env} {s : State} {m : MethodId} {below : List Frame} {meth : Method} {c : Code} {D : va_G} {cL cI cR : ClassId} {F G : Nat → Nat} {A0 : Nat → Prop} {b L i : Nat} {xs : Nat → Int32} {Q : State → Prop} {H : Heap} {locs : List Loc} {ls : Array Slot}
    (hx : p.tables.exec = Jvm.exec) (hb : c.code = cL_law) (hml : c.maxLocals = 4) (hown : s.vm.findClass RL = some m.cls) (hts : ∀ w ∈ wsL_law, w.before #[Value.ref b] s = true) (hX : va_X b L xs s s.heap) (hbl : b < s.heap.size) (hbA : ¬ A0 b) (hL : L ≤ 3072) (hi : i + 5 < L) (hAm : zAm D cL cI cR A0 s) (hF : zq_F A0 F 30) (hG : zq_F A0 G 7) (hFG : ∀ i j, i < 30 → j < 7 → F i ≠ G j) (hst : zSt D cL cI cR F G H) (hS : va_S A0 s.heap H locs)
    (hl : lv_has ls 4 [(3, .int (nI i)), (2, .ref (G 0)), (1, .ref (F 24)), (0, .ref b)])
    (kk : ∀ (H1 : Heap) (locs1 : List Loc), zSt D cL cI cR F G H1 → va_S A0 s.heap H1 locs1 → W p l e room_1 s m #[Value.ref b] below meth c H1 locs1 600000 7302250 Q (F0 m 1056 ls [])) : W p l e room_1 s m #[Value.ref b] below meth c H locs 600000 7302250 Q (F0 m 1008 ls []) := by
  obtain ⟨T, top, Z, C, dg, Y, P, n, hP, hPM, hTP, hCP, hI, hV⟩ := hst
  refine lv_aload_n hx hb dL_law_1008 rfl (lv_at hl 2 rfl) ?_
  refine lv_aload_n hx hb dL_law_1009 rfl (lv_at hl 3 rfl) ?_
  refine lv_iload_n hx hb dL_law_1010 rfl (lv_at hl 0 rfl) ?_
  refine lv_iconst (v := nI 1) hx hb dL_law_1011 (by decide +kernel) ?_
  refine ziadd (d := i + 1) hx hb rfl dL_law_1012 ?_
  refine va_sld hx hb hX hbl hbA hS (vp_in_nI (by omega) (by omega)) dL_law_1013 ?_
  refine W.eq (g2 := F0 m 1014 ls [.int (xs (i + 1)), .ref (F 24)]) (by rw [nI_clamp (by omega)]) ?_
  obtain ⟨r, P', n', pv', vals', ⟨fr2, lo2, k2, hf2, hl2⟩, ⟨fr3, lo3, k3, hf3, hl3⟩, hI2, hV2⟩ := zDo_intervals l D cL cI cR F G (zq_Fself hF) (zq_Fself hG) T top Z C dg Y P n hTP hCP hI hV (xs (i + 1))
  refine zcallC (As := [.int (xs (i + 1))]) (rest := []) (k := 1) hx hb hml hown hts k2 gL_law_X2_intervals rfl (by decide +kernel) ⟨Nat.le_trans hf2 (by decide), Nat.le_trans (Nat.add_le_add_left hl2 _) (by decide)⟩ rfl hAm hP hPM hF hFG hS rfl hl.1 rfl (Nat.le_of_ble_eq_true rfl) dL_law_1014 ⟨by decide, by decide⟩ (fun T2 top2 Z2 H locs hP hPM hT2 hZ2 hS => ?_)
  refine W.eq (g2 := F0 m 1017 ls [.long r]) rfl ?_
  refine lv_aload_n hx hb dL_law_1017 rfl (lv_at hl 1 rfl) ?_
  refine lv_aload_n hx hb dL_law_1018 rfl (lv_at hl 3 rfl) ?_
  refine lv_iload_n hx hb dL_law_1019 rfl (lv_at hl 0 rfl) ?_
  refine lv_iconst (v := nI 1) hx hb dL_law_1020 (by decide +kernel) ?_
  refine ziadd (d := i + 1) hx hb rfl dL_law_1021 ?_
  refine va_sld hx hb hX hbl hbA hS (vp_in_nI (by omega) (by omega)) dL_law_1022 ?_
  refine W.eq (g2 := F0 m 1023 ls [.int (xs (i + 1)), .ref (G 0), .long r]) (by rw [nI_clamp (by omega)]) ?_
  refine zcallD (As := [.int (xs (i + 1))]) (rest := [.long r]) (k := 1) hx hb hml hown hts k3 gL_law_X3_intervals rfl (by decide +kernel) ⟨Nat.le_trans hf3 (by decide), Nat.le_trans (Nat.add_le_add_left hl3 _) (by decide)⟩ rfl hAm hP hPM hG hFG hS rfl hl.1 rfl (Nat.le_of_ble_eq_true rfl) dL_law_1023 ⟨by decide, by decide⟩ (fun C2 dg2 Y2 H locs hP hPM hC2 hY2 hS => ?_)
  refine W.eq (g2 := F0 m 1026 ls [.long r, .long r]) rfl ?_
  refine zl_eq (tgt := 1056) hx hb dL_law_1026 dL_law_1027 (by decide) (fun _ => ?_) (fun h9 => absurd rfl h9)
  exact kk H locs ⟨T2, top2, Z2, C2, dg2, Y2, P', n', hP, hPM, hT2, hC2, hI2, fun j hj => by rw [hZ2 j hj, hY2 j hj]; exact hV2 j hj⟩ hS
theorem lwo_greatest {p : Program} {l : Launch} {e : Env} {s : State} {m : MethodId} {below : List Frame} {meth : Method} {c : Code} {D : va_G} {cL cI cR : ClassId} {F G : Nat → Nat} {A0 : Nat → Prop} {b L i : Nat} {xs : Nat → Int32} {Q : State → Prop} {H : Heap} {locs : List Loc} {ls : Array Slot}
    (hx : p.tables.exec = Jvm.exec) (hb : c.code = cL_law) (hml : c.maxLocals = 4) (hown : s.vm.findClass RL = some m.cls) (hts : ∀ w ∈ wsL_law, w.before #[Value.ref b] s = true) (hX : va_X b L xs s s.heap) (hbl : b < s.heap.size) (hbA : ¬ A0 b) (hL : L ≤ 3072) (hi : i + 5 < L) (hAm : zAm D cL cI cR A0 s) (hF : zq_F A0 F 30) (hG : zq_F A0 G 7) (hFG : ∀ i j, i < 30 → j < 7 → F i ≠ G j) (hst : zSt D cL cI cR F G H) (hS : va_S A0 s.heap H locs)
    (hl : lv_has ls 4 [(3, .int (nI i)), (2, .ref (G 0)), (1, .ref (F 24)), (0, .ref b)])
    (kk : ∀ (H1 : Heap) (locs1 : List Loc), zSt D cL cI cR F G H1 → va_S A0 s.heap H1 locs1 → W p l e room_1 s m #[Value.ref b] below meth c H1 locs1 600000 7302250 Q (F0 m 1056 ls [])) : W p l e room_1 s m #[Value.ref b] below meth c H locs 600000 7302250 Q (F0 m 1032 ls []) := by
  obtain ⟨T, top, Z, C, dg, Y, P, n, hP, hPM, hTP, hCP, hI, hV⟩ := hst
  refine lv_aload_n hx hb dL_law_1032 rfl (lv_at hl 2 rfl) ?_
  refine lv_aload_n hx hb dL_law_1033 rfl (lv_at hl 3 rfl) ?_
  refine lv_iload_n hx hb dL_law_1034 rfl (lv_at hl 0 rfl) ?_
  refine lv_iconst (v := nI 1) hx hb dL_law_1035 (by decide +kernel) ?_
  refine ziadd (d := i + 1) hx hb rfl dL_law_1036 ?_
  refine va_sld hx hb hX hbl hbA hS (vp_in_nI (by omega) (by omega)) dL_law_1037 ?_
  refine W.eq (g2 := F0 m 1038 ls [.int (xs (i + 1)), .ref (F 24)]) (by rw [nI_clamp (by omega)]) ?_
  obtain ⟨r, P', n', pv', vals', ⟨fr2, lo2, k2, hf2, hl2⟩, ⟨fr3, lo3, k3, hf3, hl3⟩, hI2, hV2⟩ := zDo_greatest l D cL cI cR F G (zq_Fself hF) (zq_Fself hG) T top Z C dg Y P n hTP hCP hI hV (xs (i + 1))
  refine zcallC (As := [.int (xs (i + 1))]) (rest := []) (k := 1) hx hb hml hown hts k2 gL_law_X2_greatest rfl (by decide +kernel) ⟨Nat.le_trans hf2 (by decide), Nat.le_trans (Nat.add_le_add_left hl2 _) (by decide)⟩ rfl hAm hP hPM hF hFG hS rfl hl.1 rfl (Nat.le_of_ble_eq_true rfl) dL_law_1038 ⟨by decide, by decide⟩ (fun T2 top2 Z2 H locs hP hPM hT2 hZ2 hS => ?_)
  refine W.eq (g2 := F0 m 1041 ls [.long r]) rfl ?_
  refine lv_aload_n hx hb dL_law_1041 rfl (lv_at hl 1 rfl) ?_
  refine lv_aload_n hx hb dL_law_1042 rfl (lv_at hl 3 rfl) ?_
  refine lv_iload_n hx hb dL_law_1043 rfl (lv_at hl 0 rfl) ?_
  refine lv_iconst (v := nI 1) hx hb dL_law_1044 (by decide +kernel) ?_
  refine ziadd (d := i + 1) hx hb rfl dL_law_1045 ?_
  refine va_sld hx hb hX hbl hbA hS (vp_in_nI (by omega) (by omega)) dL_law_1046 ?_
  refine W.eq (g2 := F0 m 1047 ls [.int (xs (i + 1)), .ref (G 0), .long r]) (by rw [nI_clamp (by omega)]) ?_
  refine zcallD (As := [.int (xs (i + 1))]) (rest := [.long r]) (k := 1) hx hb hml hown hts k3 gL_law_X3_greatest rfl (by decide +kernel) ⟨Nat.le_trans hf3 (by decide), Nat.le_trans (Nat.add_le_add_left hl3 _) (by decide)⟩ rfl hAm hP hPM hG hFG hS rfl hl.1 rfl (Nat.le_of_ble_eq_true rfl) dL_law_1047 ⟨by decide, by decide⟩ (fun C2 dg2 Y2 H locs hP hPM hC2 hY2 hS => ?_)
  refine W.eq (g2 := F0 m 1050 ls [.long r, .long r]) rfl ?_
  refine zl_eq (tgt := 1056) hx hb dL_law_1050 dL_law_1051 (by decide) (fun _ => ?_) (fun h9 => absurd rfl h9)
  exact kk H locs ⟨T2, top2, Z2, C2, dg2, Y2, P', n', hP, hPM, hT2, hC2, hI2, fun j hj => by rw [hZ2 j hj, hY2 j hj]; exact hV2 j hj⟩ hS
