section
-- ===== PART A: goes FIRST, ahead of the names: the tables' words, and 'selects' of the private methods out of them =====
/-- a private method of a class that the tables say can be made, by its rows of tables_1 -/
def lw_okq (q : MethodName × Nat) : Prop := (q.1.cls ≠ "java/lang/invoke/MethodHandle" ∧ q.1.cls ≠ "java/lang/invoke/VarHandle") ∧ Cond.instantiable q.1.cls q.2 ∈ tables_1 ∧ Cond.privateMethod q.1 ∈ tables_1 ∧ Cond.instanceMethod q.1 ∈ tables_1
theorem lw_p0 : lw_okq (⟨"CosineSeries", "find", "(I)LCosineSeries$Series;"⟩, 7) := ⟨⟨by decide +kernel, by decide +kernel⟩, List.mem_of_getElem? (i := 8) (by decide +kernel), List.mem_of_getElem? (i := 79) (by decide +kernel), List.mem_of_getElem? (i := 80) (by decide +kernel)⟩
theorem lw_p1 : lw_okq (⟨"CosineSeries", "keepMade", "(LCosineSeries$Series;)J"⟩, 7) := ⟨⟨by decide +kernel, by decide +kernel⟩, List.mem_of_getElem? (i := 8) (by decide +kernel), List.mem_of_getElem? (i := 150) (by decide +kernel), List.mem_of_getElem? (i := 151) (by decide +kernel)⟩
theorem lw_p2 : lw_okq (⟨"CosineSeries", "makeComposition", "(LCosineSeries$Series;LCosineSeries$Series;)J"⟩, 7) := ⟨⟨by decide +kernel, by decide +kernel⟩, List.mem_of_getElem? (i := 8) (by decide +kernel), List.mem_of_getElem? (i := 204) (by decide +kernel), List.mem_of_getElem? (i := 205) (by decide +kernel)⟩
theorem lw_p3 : lw_okq (⟨"CosineSeries", "makeStep", "(JILCosineSeries$Series;)J"⟩, 7) := ⟨⟨by decide +kernel, by decide +kernel⟩, List.mem_of_getElem? (i := 8) (by decide +kernel), List.mem_of_getElem? (i := 209) (by decide +kernel), List.mem_of_getElem? (i := 210) (by decide +kernel)⟩
theorem lw_p4 : lw_okq (⟨"CosineSeries", "cosineSum", "(II)J"⟩, 7) := ⟨⟨by decide +kernel, by decide +kernel⟩, List.mem_of_getElem? (i := 8) (by decide +kernel), List.mem_of_getElem? (i := 280) (by decide +kernel), List.mem_of_getElem? (i := 281) (by decide +kernel)⟩
theorem lw_p5 : lw_okq (⟨"CosineSeries$RootSearch", "push", "(J)V"⟩, 5) := ⟨⟨by decide +kernel, by decide +kernel⟩, List.mem_of_getElem? (i := 18) (by decide +kernel), List.mem_of_getElem? (i := 324) (by decide +kernel), List.mem_of_getElem? (i := 325) (by decide +kernel)⟩
theorem lw_p6 : lw_okq (⟨"CosineSeries$RootSearch", "nextEnd", "()J"⟩, 5) := ⟨⟨by decide +kernel, by decide +kernel⟩, List.mem_of_getElem? (i := 18) (by decide +kernel), List.mem_of_getElem? (i := 329) (by decide +kernel), List.mem_of_getElem? (i := 330) (by decide +kernel)⟩
theorem lw_p7 : lw_okq (⟨"CosineSeries$RootSearch", "note", "(JJ)V"⟩, 5) := ⟨⟨by decide +kernel, by decide +kernel⟩, List.mem_of_getElem? (i := 18) (by decide +kernel), List.mem_of_getElem? (i := 345) (by decide +kernel), List.mem_of_getElem? (i := 346) (by decide +kernel)⟩
theorem lw_p8 : lw_okq (⟨"CosineSeriesModel", "copies", "(II)V"⟩, 8) := ⟨⟨by decide +kernel, by decide +kernel⟩, List.mem_of_getElem? (i := 371) (by decide +kernel), List.mem_of_getElem? (i := 426) (by decide +kernel), List.mem_of_getElem? (i := 427) (by decide +kernel)⟩
theorem lw_p9 : lw_okq (⟨"CosineSeriesModel", "of", "(II)J"⟩, 8) := ⟨⟨by decide +kernel, by decide +kernel⟩, List.mem_of_getElem? (i := 371) (by decide +kernel), List.mem_of_getElem? (i := 430) (by decide +kernel), List.mem_of_getElem? (i := 431) (by decide +kernel)⟩
theorem lw_p10 : lw_okq (⟨"CosineSeriesModel", "sets", "(IIJ)V"⟩, 8) := ⟨⟨by decide +kernel, by decide +kernel⟩, List.mem_of_getElem? (i := 371) (by decide +kernel), List.mem_of_getElem? (i := 434) (by decide +kernel), List.mem_of_getElem? (i := 435) (by decide +kernel)⟩
theorem lw_p11 : lw_okq (⟨"CosineSeriesModel", "gives", "(I)J"⟩, 8) := ⟨⟨by decide +kernel, by decide +kernel⟩, List.mem_of_getElem? (i := 371) (by decide +kernel), List.mem_of_getElem? (i := 438) (by decide +kernel), List.mem_of_getElem? (i := 439) (by decide +kernel)⟩
theorem lw_p12 : lw_okq (⟨"CosineSeriesModel", "trims", "(I)J"⟩, 8) := ⟨⟨by decide +kernel, by decide +kernel⟩, List.mem_of_getElem? (i := 371) (by decide +kernel), List.mem_of_getElem? (i := 442) (by decide +kernel), List.mem_of_getElem? (i := 443) (by decide +kernel)⟩
theorem lw_p13 : lw_okq (⟨"CosineSeriesModel", "valueAt", "(IJ)J"⟩, 8) := ⟨⟨by decide +kernel, by decide +kernel⟩, List.mem_of_getElem? (i := 371) (by decide +kernel), List.mem_of_getElem? (i := 472) (by decide +kernel), List.mem_of_getElem? (i := 473) (by decide +kernel)⟩
theorem lw_p14 : lw_okq (⟨"CosineSeriesModel", "clears", "(II)V"⟩, 8) := ⟨⟨by decide +kernel, by decide +kernel⟩, List.mem_of_getElem? (i := 371) (by decide +kernel), List.mem_of_getElem? (i := 486) (by decide +kernel), List.mem_of_getElem? (i := 487) (by decide +kernel)⟩
theorem lw_p15 : lw_okq (⟨"CosineSeriesModel", "multiplies", "(II)J"⟩, 8) := ⟨⟨by decide +kernel, by decide +kernel⟩, List.mem_of_getElem? (i := 371) (by decide +kernel), List.mem_of_getElem? (i := 494) (by decide +kernel), List.mem_of_getElem? (i := 495) (by decide +kernel)⟩
def lw_privs_1 : List (MethodName × Nat) := [(⟨"CosineSeries", "find", "(I)LCosineSeries$Series;"⟩, 7), (⟨"CosineSeries", "keepMade", "(LCosineSeries$Series;)J"⟩, 7), (⟨"CosineSeries", "makeComposition", "(LCosineSeries$Series;LCosineSeries$Series;)J"⟩, 7), (⟨"CosineSeries", "makeStep", "(JILCosineSeries$Series;)J"⟩, 7), (⟨"CosineSeries", "cosineSum", "(II)J"⟩, 7), (⟨"CosineSeries$RootSearch", "push", "(J)V"⟩, 5), (⟨"CosineSeries$RootSearch", "nextEnd", "()J"⟩, 5), (⟨"CosineSeries$RootSearch", "note", "(JJ)V"⟩, 5), (⟨"CosineSeriesModel", "copies", "(II)V"⟩, 8), (⟨"CosineSeriesModel", "of", "(II)J"⟩, 8), (⟨"CosineSeriesModel", "sets", "(IIJ)V"⟩, 8), (⟨"CosineSeriesModel", "gives", "(I)J"⟩, 8), (⟨"CosineSeriesModel", "trims", "(I)J"⟩, 8), (⟨"CosineSeriesModel", "valueAt", "(IJ)J"⟩, 8), (⟨"CosineSeriesModel", "clears", "(II)V"⟩, 8), (⟨"CosineSeriesModel", "multiplies", "(II)J"⟩, 8)]
theorem lw_r1 : ∀ q ∈ lw_privs_1, lw_okq q := List.forall_mem_cons.mpr ⟨lw_p0, List.forall_mem_cons.mpr ⟨lw_p1, List.forall_mem_cons.mpr ⟨lw_p2, List.forall_mem_cons.mpr ⟨lw_p3, List.forall_mem_cons.mpr ⟨lw_p4, List.forall_mem_cons.mpr ⟨lw_p5, List.forall_mem_cons.mpr ⟨lw_p6, List.forall_mem_cons.mpr ⟨lw_p7, List.forall_mem_cons.mpr ⟨lw_p8, List.forall_mem_cons.mpr ⟨lw_p9, List.forall_mem_cons.mpr ⟨lw_p10, List.forall_mem_cons.mpr ⟨lw_p11, List.forall_mem_cons.mpr ⟨lw_p12, List.forall_mem_cons.mpr ⟨lw_p13, List.forall_mem_cons.mpr ⟨lw_p14, List.forall_mem_cons.mpr ⟨lw_p15, fun _ h => absurd h List.not_mem_nil⟩⟩⟩⟩⟩⟩⟩⟩⟩⟩⟩⟩⟩⟩⟩⟩
theorem lw_p16 : lw_okq (⟨"CosineSeriesModel", "derives", "(I)V"⟩, 8) := ⟨⟨by decide +kernel, by decide +kernel⟩, List.mem_of_getElem? (i := 371) (by decide +kernel), List.mem_of_getElem? (i := 503) (by decide +kernel), List.mem_of_getElem? (i := 504) (by decide +kernel)⟩
theorem lw_p17 : lw_okq (⟨"CosineSeriesModel", "goes", "(IIJ)J"⟩, 8) := ⟨⟨by decide +kernel, by decide +kernel⟩, List.mem_of_getElem? (i := 371) (by decide +kernel), List.mem_of_getElem? (i := 515) (by decide +kernel), List.mem_of_getElem? (i := 516) (by decide +kernel)⟩
theorem lw_p18 : lw_okq (⟨"CosineSeriesModel", "cutBy", "(IJ)I"⟩, 8) := ⟨⟨by decide +kernel, by decide +kernel⟩, List.mem_of_getElem? (i := 371) (by decide +kernel), List.mem_of_getElem? (i := 531) (by decide +kernel), List.mem_of_getElem? (i := 532) (by decide +kernel)⟩
theorem lw_p19 : lw_okq (⟨"CosineSeriesModel", "cosine", "(I)J"⟩, 8) := ⟨⟨by decide +kernel, by decide +kernel⟩, List.mem_of_getElem? (i := 371) (by decide +kernel), List.mem_of_getElem? (i := 576) (by decide +kernel), List.mem_of_getElem? (i := 577) (by decide +kernel)⟩
theorem lw_p20 : lw_okq (⟨"CosineSeriesModel", "pointAt", "(II)J"⟩, 8) := ⟨⟨by decide +kernel, by decide +kernel⟩, List.mem_of_getElem? (i := 371) (by decide +kernel), List.mem_of_getElem? (i := 584) (by decide +kernel), List.mem_of_getElem? (i := 585) (by decide +kernel)⟩
theorem lw_p21 : lw_okq (⟨"CosineSeriesModel", "searches", "(I)V"⟩, 8) := ⟨⟨by decide +kernel, by decide +kernel⟩, List.mem_of_getElem? (i := 371) (by decide +kernel), List.mem_of_getElem? (i := 600) (by decide +kernel), List.mem_of_getElem? (i := 601) (by decide +kernel)⟩
theorem lw_p22 : lw_okq (⟨"CosineSeriesModel", "isFree", "(III)Z"⟩, 8) := ⟨⟨by decide +kernel, by decide +kernel⟩, List.mem_of_getElem? (i := 371) (by decide +kernel), List.mem_of_getElem? (i := 605) (by decide +kernel), List.mem_of_getElem? (i := 606) (by decide +kernel)⟩
def lw_privs_2 : List (MethodName × Nat) := [(⟨"CosineSeriesModel", "derives", "(I)V"⟩, 8), (⟨"CosineSeriesModel", "goes", "(IIJ)J"⟩, 8), (⟨"CosineSeriesModel", "cutBy", "(IJ)I"⟩, 8), (⟨"CosineSeriesModel", "cosine", "(I)J"⟩, 8), (⟨"CosineSeriesModel", "pointAt", "(II)J"⟩, 8), (⟨"CosineSeriesModel", "searches", "(I)V"⟩, 8), (⟨"CosineSeriesModel", "isFree", "(III)Z"⟩, 8)]
theorem lw_r2 : ∀ q ∈ lw_privs_2, lw_okq q := List.forall_mem_cons.mpr ⟨lw_p16, List.forall_mem_cons.mpr ⟨lw_p17, List.forall_mem_cons.mpr ⟨lw_p18, List.forall_mem_cons.mpr ⟨lw_p19, List.forall_mem_cons.mpr ⟨lw_p20, List.forall_mem_cons.mpr ⟨lw_p21, List.forall_mem_cons.mpr ⟨lw_p22, fun _ h => absurd h List.not_mem_nil⟩⟩⟩⟩⟩⟩⟩
def lw_privs : List (MethodName × Nat) := lw_privs_1 ++ (lw_privs_2)
def lw_tbl : List Cond := k2_sels lw_privs ++ tables_1
theorem lw_privs_ok : ∀ q ∈ lw_privs, lw_okq q := by
  show ∀ q ∈ lw_privs_1 ++ (lw_privs_2), lw_okq q
  exact List.forall_mem_append.mpr ⟨lw_r1, lw_r2⟩
end
section
/-! ===== BEGIN words of one list among another's, by their places ===== -/
theorem goodIn_r {big : List Cond} (ws : List Cond) (ps : List Nat) (hp : ws = ps.filterMap (fun i => big[i]?)) (h : ws.all goodWord = true) : GoodIn big ws := by
  intro w hw
  have h1 := List.all_eq_true.mp h w hw
  rw [hp] at hw
  obtain ⟨i, -, hi⟩ := List.mem_filterMap.mp hw
  have hm : w ∈ big := by first | exact List.mem_of_getElem? hi | exact List.getElem?_mem hi
  exact ⟨hm, good_of_word h1⟩
theorem goodIn_app {big a b : List Cond} (ha : GoodIn big a) (hb : GoodIn big b) : GoodIn big (a ++ b) := fun w h => (List.mem_append.mp h).elim (ha w) (hb w)
theorem goodIn_ca {big a b : List Cond} {c : Cond} (ha : GoodIn big (c :: a)) (hb : GoodIn big b) : GoodIn big (c :: (a ++ b)) := fun w h => (List.mem_cons.mp h).elim (fun e => ha w (List.mem_cons.mpr (Or.inl e))) (fun h => (List.mem_append.mp h).elim (fun h => ha w (List.mem_cons.mpr (Or.inr h))) (hb w))
theorem goodIn_sub {big ws : List Cond} (hm : ∀ w ∈ ws, w ∈ big) (h : ws.all goodWord = true) : GoodIn big ws := fun w hw => ⟨hm w hw, good_of_word (List.all_eq_true.mp h w hw)⟩
/-! ===== END ===== -/

/-! ===== BEGIN printed: names, fields, word lists, decode rows ===== -/
def RX0 : String := "CosineSeries$RootSearch"
def TX0 : u_T := fun k => match k with
  | 0 => ("CosineSeries$RootSearch", "roots", "[J", true)
  | 1 => ("CosineSeries$RootSearch", "ends", "[J", true)
  | 2 => ("CosineSeries$RootSearch", "waiting", "I", false)
  | 3 => ("CosineSeries$RootSearch", "count", "I", false)
  | _ => ("CosineSeries$RootSearch", "lookedAt", "I", false)
def tyX0 : Nat → FieldType := fun k => match k with
  | 0 => .array .long
  | 1 => .array .long
  | 2 => .int
  | 3 => .int
  | _ => .int
abbrev wsX00 : List Cond := u_ws RX0 TX0 5
theorem nmX0 : ∀ a, a < 5 → ∀ b, b < 5 → a ≠ b → (TX0 a).2.1 ≠ (TX0 b).2.1 := by decide +kernel
theorem tyX0_ok : ∀ k, k < 5 → parseFieldDescriptor (TX0 k).2.2.1 = some (tyX0 k) := by decide +kernel
abbrev cX0_init : ByteArray := prog_2_method_1_code
def yX0_init : MethodName := ⟨RX0, "<init>", "()V"⟩
abbrev cX0_count : ByteArray := prog_2_method_2_code
def yX0_count : MethodName := ⟨RX0, "count", "()I"⟩
abbrev cX0_lookedAt : ByteArray := prog_2_method_3_code
def yX0_lookedAt : MethodName := ⟨RX0, "lookedAt", "()I"⟩
abbrev cX0_found : ByteArray := prog_2_method_4_code
def yX0_found : MethodName := ⟨RX0, "found", "(I)J"⟩
abbrev cX0_run : ByteArray := prog_2_method_5_code
def yX0_run : MethodName := ⟨RX0, "run", "(LCosineSeries$Series;)V"⟩
abbrev cX0_steepnessOf : ByteArray := prog_2_method_6_code
def yX0_steepnessOf : MethodName := ⟨RX0, "steepnessOf", "(LCosineSeries$Series;)J"⟩
abbrev cX0_isFree : ByteArray := prog_2_method_7_code
def yX0_isFree : MethodName := ⟨RX0, "isFree", "(LCosineSeries$Series;JJJ)Z"⟩
abbrev cX0_push : ByteArray := prog_2_method_8_code
def yX0_push : MethodName := ⟨RX0, "push", "(J)V"⟩
abbrev cX0_nextEnd : ByteArray := prog_2_method_9_code
def yX0_nextEnd : MethodName := ⟨RX0, "nextEnd", "()J"⟩
abbrev cX0_note : ByteArray := prog_2_method_10_code
def yX0_note : MethodName := ⟨RX0, "note", "(JJ)V"⟩
def RX1 : String := "CosineSeries$Series"
def TX1 : u_T := fun k => match k with
  | 0 => ("CosineSeries$Series", "terms", "[J", true)
  | _ => ("CosineSeries$Series", "top", "I", false)
def tyX1 : Nat → FieldType := fun k => match k with
  | 0 => .array .long
  | _ => .int
abbrev wsX10 : List Cond := u_ws RX1 TX1 2
theorem nmX1 : ∀ a, a < 2 → ∀ b, b < 2 → a ≠ b → (TX1 a).2.1 ≠ (TX1 b).2.1 := by decide +kernel
theorem tyX1_ok : ∀ k, k < 2 → parseFieldDescriptor (TX1 k).2.2.1 = some (tyX1 k) := by decide +kernel
abbrev cX1_init : ByteArray := prog_3_method_1_code
def yX1_init : MethodName := ⟨RX1, "<init>", "()V"⟩
abbrev cX1_top : ByteArray := prog_3_method_2_code
def yX1_top : MethodName := ⟨RX1, "top", "()I"⟩
abbrev cX1_at : ByteArray := prog_3_method_3_code
def yX1_at : MethodName := ⟨RX1, "at", "(I)J"⟩
abbrev cX1_put : ByteArray := prog_3_method_4_code
def yX1_put : MethodName := ⟨RX1, "put", "(IJ)V"⟩
abbrev cX1_clear : ByteArray := prog_3_method_5_code
def yX1_clear : MethodName := ⟨RX1, "clear", "()V"⟩
abbrev cX1_take : ByteArray := prog_3_method_6_code
def yX1_take : MethodName := ⟨RX1, "take", "(LCosineSeries$Series;)V"⟩
abbrev cX1_trim : ByteArray := prog_3_method_7_code
def yX1_trim : MethodName := ⟨RX1, "trim", "()V"⟩
abbrev cX1_error : ByteArray := prog_3_method_8_code
def yX1_error : MethodName := ⟨RX1, "error", "()J"⟩
abbrev cX1_valueAt : ByteArray := prog_3_method_9_code
def yX1_valueAt : MethodName := ⟨RX1, "valueAt", "(J)J"⟩
abbrev cX1_topWithin : ByteArray := prog_3_method_10_code
def yX1_topWithin : MethodName := ⟨RX1, "topWithin", "(I)I"⟩
abbrev cX1_dropAbove : ByteArray := prog_3_method_11_code
def yX1_dropAbove : MethodName := ⟨RX1, "dropAbove", "(I)V"⟩
abbrev cX1_placeOf : ByteArray := prog_3_method_12_code
def yX1_placeOf : MethodName := ⟨RX1, "placeOf", "(I)I"⟩
abbrev cX1_becomeSum : ByteArray := prog_3_method_13_code
def yX1_becomeSum : MethodName := ⟨RX1, "becomeSum", "(LCosineSeries$Series;ILCosineSeries$Series;I)V"⟩
abbrev cX1_becomeProduct : ByteArray := prog_3_method_14_code
def yX1_becomeProduct : MethodName := ⟨RX1, "becomeProduct", "(LCosineSeries$Series;LCosineSeries$Series;)V"⟩
abbrev cX1_becomeDerivative : ByteArray := prog_3_method_15_code
def yX1_becomeDerivative : MethodName := ⟨RX1, "becomeDerivative", "(LCosineSeries$Series;)V"⟩
abbrev cX1_becomeAntiderivative : ByteArray := prog_3_method_16_code
def yX1_becomeAntiderivative : MethodName := ⟨RX1, "becomeAntiderivative", "(LCosineSeries$Series;)V"⟩
abbrev cX1_becomeQuotient : ByteArray := prog_3_method_17_code
def yX1_becomeQuotient : MethodName := ⟨RX1, "becomeQuotient", "(LCosineSeries$Series;J)V"⟩
def RX2 : String := "CosineSeries"
def TX2 : u_T := fun k => match k with
  | 0 => ("CosineSeries", "stored", "[LCosineSeries$Series;", true)
  | 1 => ("CosineSeries", "pointValues", "[J", true)
  | 2 => ("CosineSeries", "search", "LCosineSeries$RootSearch;", true)
  | 3 => ("CosineSeries", "made", "LCosineSeries$Series;", true)
  | 4 => ("CosineSeries", "product", "LCosineSeries$Series;", true)
  | 5 => ("CosineSeries", "last", "LCosineSeries$Series;", true)
  | _ => ("CosineSeries", "lastButOne", "LCosineSeries$Series;", true)
def tyX2 : Nat → FieldType := fun k => match k with
  | 0 => .array (.object "CosineSeries$Series")
  | 1 => .array .long
  | 2 => .object "CosineSeries$RootSearch"
  | 3 => .object "CosineSeries$Series"
  | 4 => .object "CosineSeries$Series"
  | 5 => .object "CosineSeries$Series"
  | _ => .object "CosineSeries$Series"
abbrev wsX20 : List Cond := u_ws RX2 TX2 7
theorem nmX2 : ∀ a, a < 7 → ∀ b, b < 7 → a ≠ b → (TX2 a).2.1 ≠ (TX2 b).2.1 := by decide +kernel
theorem tyX2_ok : ∀ k, k < 7 → parseFieldDescriptor (TX2 k).2.2.1 = some (tyX2 k) := by decide +kernel
abbrev cX2_init : ByteArray := prog_1_method_1_code
def yX2_init : MethodName := ⟨RX2, "<init>", "()V"⟩
abbrev cX2_setCoefficient : ByteArray := prog_1_method_2_code
def yX2_setCoefficient : MethodName := ⟨RX2, "setCoefficient", "(III)J"⟩
abbrev cX2_coefficient : ByteArray := prog_1_method_3_code
def yX2_coefficient : MethodName := ⟨RX2, "coefficient", "(II)J"⟩
abbrev cX2_degree : ByteArray := prog_1_method_4_code
def yX2_degree : MethodName := ⟨RX2, "degree", "(I)J"⟩
abbrev cX2_copy : ByteArray := prog_1_method_5_code
def yX2_copy : MethodName := ⟨RX2, "copy", "(II)J"⟩
abbrev cX2_value : ByteArray := prog_1_method_6_code
def yX2_value : MethodName := ⟨RX2, "value", "(II)J"⟩
abbrev cX2_add : ByteArray := prog_1_method_7_code
def yX2_add : MethodName := ⟨RX2, "add", "(IIIII)J"⟩
abbrev cX2_multiply : ByteArray := prog_1_method_8_code
def yX2_multiply : MethodName := ⟨RX2, "multiply", "(III)J"⟩
abbrev cX2_differentiate : ByteArray := prog_1_method_9_code
def yX2_differentiate : MethodName := ⟨RX2, "differentiate", "(II)J"⟩
abbrev cX2_antidifferentiate : ByteArray := prog_1_method_10_code
def yX2_antidifferentiate : MethodName := ⟨RX2, "antidifferentiate", "(II)J"⟩
abbrev cX2_compose : ByteArray := prog_1_method_11_code
def yX2_compose : MethodName := ⟨RX2, "compose", "(III)J"⟩
abbrev cX2_divide : ByteArray := prog_1_method_12_code
def yX2_divide : MethodName := ⟨RX2, "divide", "(III)J"⟩
abbrev cX2_cut : ByteArray := prog_1_method_13_code
def yX2_cut : MethodName := ⟨RX2, "cut", "(II)J"⟩
abbrev cX2_basis : ByteArray := prog_1_method_14_code
def yX2_basis : MethodName := ⟨RX2, "basis", "(II)J"⟩
abbrev cX2_integral : ByteArray := prog_1_method_15_code
def yX2_integral : MethodName := ⟨RX2, "integral", "(I)J"⟩
abbrev cX2_inner : ByteArray := prog_1_method_16_code
def yX2_inner : MethodName := ⟨RX2, "inner", "(II)J"⟩
abbrev cX2_bound : ByteArray := prog_1_method_17_code
def yX2_bound : MethodName := ⟨RX2, "bound", "(I)J"⟩
abbrev cX2_degreeWith : ByteArray := prog_1_method_18_code
def yX2_degreeWith : MethodName := ⟨RX2, "degreeWith", "(II)J"⟩
abbrev cX2_byValue : ByteArray := prog_1_method_19_code
def yX2_byValue : MethodName := ⟨RX2, "byValue", "(II)J"⟩
abbrev cX2_setValue : ByteArray := prog_1_method_20_code
def yX2_setValue : MethodName := ⟨RX2, "setValue", "(II)J"⟩
abbrev cX2_interpolate : ByteArray := prog_1_method_21_code
def yX2_interpolate : MethodName := ⟨RX2, "interpolate", "(II)J"⟩
abbrev cX2_sample : ByteArray := prog_1_method_22_code
def yX2_sample : MethodName := ⟨RX2, "sample", "(II)J"⟩
abbrev cX2_misfit : ByteArray := prog_1_method_23_code
def yX2_misfit : MethodName := ⟨RX2, "misfit", "(II)J"⟩
abbrev cX2_extremePoint : ByteArray := prog_1_method_24_code
def yX2_extremePoint : MethodName := ⟨RX2, "extremePoint", "(II)J"⟩
abbrev cX2_root : ByteArray := prog_1_method_25_code
def yX2_root : MethodName := ⟨RX2, "root", "(II)J"⟩
abbrev cX2_intervals : ByteArray := prog_1_method_26_code
def yX2_intervals : MethodName := ⟨RX2, "intervals", "(I)J"⟩
abbrev cX2_greatest : ByteArray := prog_1_method_27_code
def yX2_greatest : MethodName := ⟨RX2, "greatest", "(I)J"⟩
abbrev cX2_find : ByteArray := prog_1_method_28_code
def yX2_find : MethodName := ⟨RX2, "find", "(I)LCosineSeries$Series;"⟩
abbrev cX2_isOutside : ByteArray := prog_1_method_29_code
def yX2_isOutside : MethodName := ⟨RX2, "isOutside", "(III)Z"⟩
abbrev cX2_rounded : ByteArray := prog_1_method_30_code
def yX2_rounded : MethodName := ⟨RX2, "rounded", "(JJ)J"⟩
abbrev cX2_cosine : ByteArray := prog_1_method_31_code
def yX2_cosine : MethodName := ⟨RX2, "cosine", "(I)I"⟩
abbrev cX2_pointAt : ByteArray := prog_1_method_32_code
def yX2_pointAt : MethodName := ⟨RX2, "pointAt", "(II)I"⟩
abbrev cX2_cosineSum : ByteArray := prog_1_method_33_code
def yX2_cosineSum : MethodName := ⟨RX2, "cosineSum", "(II)J"⟩
abbrev cX2_keepMade : ByteArray := prog_1_method_34_code
def yX2_keepMade : MethodName := ⟨RX2, "keepMade", "(LCosineSeries$Series;)J"⟩
abbrev cX2_makeComposition : ByteArray := prog_1_method_35_code
def yX2_makeComposition : MethodName := ⟨RX2, "makeComposition", "(LCosineSeries$Series;LCosineSeries$Series;)J"⟩
abbrev cX2_makeStep : ByteArray := prog_1_method_36_code
def yX2_makeStep : MethodName := ⟨RX2, "makeStep", "(JILCosineSeries$Series;)J"⟩
def RX3 : String := "CosineSeriesModel"
def TX3 : u_T := fun k => match k with
  | 0 => ("CosineSeriesModel", "c", "[J", true)
  | 1 => ("CosineSeriesModel", "degrees", "[I", true)
  | 2 => ("CosineSeriesModel", "values", "[I", true)
  | 3 => ("CosineSeriesModel", "cosines", "[I", true)
  | 4 => ("CosineSeriesModel", "roots", "I", false)
  | 5 => ("CosineSeriesModel", "found", "[I", true)
  | 6 => ("CosineSeriesModel", "looks", "I", false)
  | _ => ("CosineSeriesModel", "waits", "[I", true)
def tyX3 : Nat → FieldType := fun k => match k with
  | 0 => .array .long
  | 1 => .array .int
  | 2 => .array .int
  | 3 => .array .int
  | 4 => .int
  | 5 => .array .int
  | 6 => .int
  | _ => .array .int
abbrev wsX30 : List Cond := u_ws RX3 TX3 8
theorem nmX3 : ∀ a, a < 8 → ∀ b, b < 8 → a ≠ b → (TX3 a).2.1 ≠ (TX3 b).2.1 := by decide +kernel
theorem tyX3_ok : ∀ k, k < 8 → parseFieldDescriptor (TX3 k).2.2.1 = some (tyX3 k) := by decide +kernel
abbrev cX3_init : ByteArray := prog_5_method_1_code
def yX3_init : MethodName := ⟨RX3, "<init>", "()V"⟩
abbrev cX3_in : ByteArray := prog_5_method_2_code
def yX3_in : MethodName := ⟨RX3, "in", "(JJJ)Z"⟩
abbrev cX3_isSeries : ByteArray := prog_5_method_3_code
def yX3_isSeries : MethodName := ⟨RX3, "isSeries", "(I)Z"⟩
abbrev cX3_isPoint : ByteArray := prog_5_method_4_code
def yX3_isPoint : MethodName := ⟨RX3, "isPoint", "(I)Z"⟩
abbrev cX3_size : ByteArray := prog_5_method_5_code
def yX3_size : MethodName := ⟨RX3, "size", "(J)J"⟩
abbrev cX3_rounded : ByteArray := prog_5_method_6_code
def yX3_rounded : MethodName := ⟨RX3, "rounded", "(JJ)J"⟩
abbrev cX3_of : ByteArray := prog_5_method_7_code
def yX3_of : MethodName := ⟨RX3, "of", "(II)J"⟩
abbrev cX3_sets : ByteArray := prog_5_method_8_code
def yX3_sets : MethodName := ⟨RX3, "sets", "(IIJ)V"⟩
abbrev cX3_clears : ByteArray := prog_5_method_9_code
def yX3_clears : MethodName := ⟨RX3, "clears", "(II)V"⟩
abbrev cX3_copies : ByteArray := prog_5_method_10_code
def yX3_copies : MethodName := ⟨RX3, "copies", "(II)V"⟩
abbrev cX3_trims : ByteArray := prog_5_method_11_code
def yX3_trims : MethodName := ⟨RX3, "trims", "(I)J"⟩
abbrev cX3_gives : ByteArray := prog_5_method_12_code
def yX3_gives : MethodName := ⟨RX3, "gives", "(I)J"⟩
abbrev cX3_setCoefficient : ByteArray := prog_5_method_13_code
def yX3_setCoefficient : MethodName := ⟨RX3, "setCoefficient", "(III)J"⟩
abbrev cX3_coefficient : ByteArray := prog_5_method_14_code
def yX3_coefficient : MethodName := ⟨RX3, "coefficient", "(II)J"⟩
abbrev cX3_degree : ByteArray := prog_5_method_15_code
def yX3_degree : MethodName := ⟨RX3, "degree", "(I)J"⟩
abbrev cX3_copy : ByteArray := prog_5_method_16_code
def yX3_copy : MethodName := ⟨RX3, "copy", "(II)J"⟩
abbrev cX3_valueAt : ByteArray := prog_5_method_17_code
def yX3_valueAt : MethodName := ⟨RX3, "valueAt", "(IJ)J"⟩
abbrev cX3_value : ByteArray := prog_5_method_18_code
def yX3_value : MethodName := ⟨RX3, "value", "(II)J"⟩
abbrev cX3_add : ByteArray := prog_5_method_19_code
def yX3_add : MethodName := ⟨RX3, "add", "(IIIII)J"⟩
abbrev cX3_multiplies : ByteArray := prog_5_method_20_code
def yX3_multiplies : MethodName := ⟨RX3, "multiplies", "(II)J"⟩
abbrev cX3_multiply : ByteArray := prog_5_method_21_code
def yX3_multiply : MethodName := ⟨RX3, "multiply", "(III)J"⟩
abbrev cX3_derives : ByteArray := prog_5_method_22_code
def yX3_derives : MethodName := ⟨RX3, "derives", "(I)V"⟩
abbrev cX3_differentiate : ByteArray := prog_5_method_23_code
def yX3_differentiate : MethodName := ⟨RX3, "differentiate", "(II)J"⟩
abbrev cX3_antidifferentiate : ByteArray := prog_5_method_24_code
def yX3_antidifferentiate : MethodName := ⟨RX3, "antidifferentiate", "(II)J"⟩
abbrev cX3_goes : ByteArray := prog_5_method_25_code
def yX3_goes : MethodName := ⟨RX3, "goes", "(IIJ)J"⟩
abbrev cX3_compose : ByteArray := prog_5_method_26_code
def yX3_compose : MethodName := ⟨RX3, "compose", "(III)J"⟩
abbrev cX3_divide : ByteArray := prog_5_method_27_code
def yX3_divide : MethodName := ⟨RX3, "divide", "(III)J"⟩
abbrev cX3_cutBy : ByteArray := prog_5_method_28_code
def yX3_cutBy : MethodName := ⟨RX3, "cutBy", "(IJ)I"⟩
abbrev cX3_isTolerance : ByteArray := prog_5_method_29_code
def yX3_isTolerance : MethodName := ⟨RX3, "isTolerance", "(I)Z"⟩
abbrev cX3_cut : ByteArray := prog_5_method_30_code
def yX3_cut : MethodName := ⟨RX3, "cut", "(II)J"⟩
abbrev cX3_basis : ByteArray := prog_5_method_31_code
def yX3_basis : MethodName := ⟨RX3, "basis", "(II)J"⟩
abbrev cX3_integral : ByteArray := prog_5_method_32_code
def yX3_integral : MethodName := ⟨RX3, "integral", "(I)J"⟩
abbrev cX3_inner : ByteArray := prog_5_method_33_code
def yX3_inner : MethodName := ⟨RX3, "inner", "(II)J"⟩
abbrev cX3_bound : ByteArray := prog_5_method_34_code
def yX3_bound : MethodName := ⟨RX3, "bound", "(I)J"⟩
abbrev cX3_degreeWith : ByteArray := prog_5_method_35_code
def yX3_degreeWith : MethodName := ⟨RX3, "degreeWith", "(II)J"⟩
abbrev cX3_byValue : ByteArray := prog_5_method_36_code
def yX3_byValue : MethodName := ⟨RX3, "byValue", "(II)J"⟩
abbrev cX3_cosine : ByteArray := prog_5_method_37_code
def yX3_cosine : MethodName := ⟨RX3, "cosine", "(I)J"⟩
abbrev cX3_isPower : ByteArray := prog_5_method_38_code
def yX3_isPower : MethodName := ⟨RX3, "isPower", "(I)Z"⟩
abbrev cX3_setValue : ByteArray := prog_5_method_39_code
def yX3_setValue : MethodName := ⟨RX3, "setValue", "(II)J"⟩
abbrev cX3_interpolate : ByteArray := prog_5_method_40_code
def yX3_interpolate : MethodName := ⟨RX3, "interpolate", "(II)J"⟩
abbrev cX3_pointAt : ByteArray := prog_5_method_41_code
def yX3_pointAt : MethodName := ⟨RX3, "pointAt", "(II)J"⟩
abbrev cX3_sample : ByteArray := prog_5_method_42_code
def yX3_sample : MethodName := ⟨RX3, "sample", "(II)J"⟩
abbrev cX3_misfit : ByteArray := prog_5_method_43_code
def yX3_misfit : MethodName := ⟨RX3, "misfit", "(II)J"⟩
abbrev cX3_extremePoint : ByteArray := prog_5_method_44_code
def yX3_extremePoint : MethodName := ⟨RX3, "extremePoint", "(II)J"⟩
abbrev cX3_middle : ByteArray := prog_5_method_45_code
def yX3_middle : MethodName := ⟨RX3, "middle", "(II)I"⟩
abbrev cX3_isFree : ByteArray := prog_5_method_46_code
def yX3_isFree : MethodName := ⟨RX3, "isFree", "(III)Z"⟩
abbrev cX3_searches : ByteArray := prog_5_method_47_code
def yX3_searches : MethodName := ⟨RX3, "searches", "(I)V"⟩
abbrev cX3_root : ByteArray := prog_5_method_48_code
def yX3_root : MethodName := ⟨RX3, "root", "(II)J"⟩
abbrev cX3_intervals : ByteArray := prog_5_method_49_code
def yX3_intervals : MethodName := ⟨RX3, "intervals", "(I)J"⟩
abbrev cX3_greatest : ByteArray := prog_5_method_50_code
def yX3_greatest : MethodName := ⟨RX3, "greatest", "(I)J"⟩
def RJ9 : String := "java/lang/Math"
def TJ9 : u_T := fun k => match k with
  | _ => ("", "", "", false)
def tyJ9 : Nat → FieldType := fun k => match k with
  | _ => .int
abbrev wsJ90 : List Cond := u_ws RJ9 TJ9 0
theorem nmJ9 : ∀ a, a < 0 → ∀ b, b < 0 → a ≠ b → (TJ9 a).2.1 ≠ (TJ9 b).2.1 := by decide +kernel
theorem tyJ9_ok : ∀ k, k < 0 → parseFieldDescriptor (TJ9 k).2.2.1 = some (tyJ9 k) := by decide +kernel
abbrev cJ9_floorDiv_b2ac5 : ByteArray := prog_6_method_48_code
def yJ9_floorDiv_b2ac5 : MethodName := ⟨RJ9, "floorDiv", "(JI)J"⟩
abbrev cJ9_floorDiv_f86c9 : ByteArray := prog_6_method_49_code
def yJ9_floorDiv_f86c9 : MethodName := ⟨RJ9, "floorDiv", "(JJ)J"⟩
abbrev cJ9_abs_0f7a4 : ByteArray := prog_6_method_59_code
def yJ9_abs_0f7a4 : MethodName := ⟨RJ9, "abs", "(I)I"⟩
abbrev cJ9_abs_067f4 : ByteArray := prog_6_method_61_code
def yJ9_abs_067f4 : MethodName := ⟨RJ9, "abs", "(J)J"⟩
abbrev cJ9_max_7cf53 : ByteArray := prog_6_method_65_code
def yJ9_max_7cf53 : MethodName := ⟨RJ9, "max", "(II)I"⟩
abbrev cJ9_max_f86c9 : ByteArray := prog_6_method_66_code
def yJ9_max_f86c9 : MethodName := ⟨RJ9, "max", "(JJ)J"⟩
def RJ7 : String := "java/util/Arrays"
def TJ7 : u_T := fun k => match k with
  | _ => ("", "", "", false)
def tyJ7 : Nat → FieldType := fun k => match k with
  | _ => .int
abbrev wsJ70 : List Cond := u_ws RJ7 TJ7 0
theorem nmJ7 : ∀ a, a < 0 → ∀ b, b < 0 → a ≠ b → (TJ7 a).2.1 ≠ (TJ7 b).2.1 := by decide +kernel
theorem tyJ7_ok : ∀ k, k < 0 → parseFieldDescriptor (TJ7 k).2.2.1 = some (tyJ7 k) := by decide +kernel
abbrev cJ7_fill_d0a16 : ByteArray := prog_7_method_101_code
def yJ7_fill_d0a16 : MethodName := ⟨RJ7, "fill", "([JJ)V"⟩
def RL : String := "CosineSeriesLaw"
abbrev cL_law : ByteArray := code
def yL_law : MethodName := ⟨RL, "law", "([I)Z"⟩
def wsX0_init : List Cond := .code yX0_init cX0_init 1 none :: ([.methodLink RX0 3 objectInit, .instanceMethod objectInit, .code objectInit ⟨#[0xb1]⟩ 1 none, .arrayClass .long, .fieldLink RX0 11 "CosineSeries$RootSearch" "roots" "[J", .fieldLink RX0 15 "CosineSeries$RootSearch" "ends" "[J"] ++ wsX00)
def wsX0_count : List Cond := .code yX0_count cX0_count 1 (some .int) :: ([.fieldLink RX0 18 "CosineSeries$RootSearch" "count" "I"] ++ wsX00)
def wsX0_lookedAt : List Cond := .code yX0_lookedAt cX0_lookedAt 1 (some .int) :: ([.fieldLink RX0 22 "CosineSeries$RootSearch" "lookedAt" "I"] ++ wsX00)
def wsX0_found : List Cond := .code yX0_found cX0_found 2 (some .long) :: ([.fieldLink RX0 11 "CosineSeries$RootSearch" "roots" "[J"] ++ wsX00)
def wsX1_top : List Cond := .code yX1_top cX1_top 1 (some .int) :: ([.fieldLink RX1 15 "CosineSeries$Series" "top" "I"] ++ wsX10)
def wsX1_at : List Cond := .code yX1_at cX1_at 2 (some .long) :: ([.fieldLink RX1 9 "CosineSeries$Series" "terms" "[J"] ++ wsX10)
def wsX0_steepnessOf : List Cond := .code yX0_steepnessOf cX0_steepnessOf 4 (some .long) :: ([.methodLink RX0 74 Lib.MathLoose.abs_long.x, .static Lib.MathLoose.abs_long.x, .initialized "java/lang/Math", .code Lib.MathLoose.abs_long.x Lib.MathLoose.abs_long.code 2 (some .long), .methodLink RX0 64 yX1_top, .instanceMethod yX1_top, .selects RX1 yX1_top yX1_top, .initialized RX1, .code yX1_top cX1_top 1 (some .int), .fieldLink RX1 15 "CosineSeries$Series" "top" "I", .methodLink RX0 70 yX1_at, .instanceMethod yX1_at, .selects RX1 yX1_at yX1_at, .code yX1_at cX1_at 2 (some .long), .fieldLink RX1 9 "CosineSeries$Series" "terms" "[J"] ++ wsX10)
def wsX0_push : List Cond := .code yX0_push cX0_push 3 none :: ([.fieldLink RX0 29 "CosineSeries$RootSearch" "waiting" "I", .fieldLink RX0 15 "CosineSeries$RootSearch" "ends" "[J"] ++ wsX00)
def wsX0_nextEnd : List Cond := .code yX0_nextEnd cX0_nextEnd 2 (some .long) :: ([.fieldLink RX0 29 "CosineSeries$RootSearch" "waiting" "I", .fieldLink RX0 15 "CosineSeries$RootSearch" "ends" "[J"] ++ wsX00)
def wsJ9_floorDiv_f86c9 : List Cond := .code yJ9_floorDiv_f86c9 cJ9_floorDiv_f86c9 6 (some .long) :: ([])
def wsJ9_floorDiv_b2ac5 : List Cond := .code yJ9_floorDiv_b2ac5 cJ9_floorDiv_b2ac5 3 (some .long) :: ([.methodLink RJ9 143 yJ9_floorDiv_f86c9, .static yJ9_floorDiv_f86c9, .initialized RJ9, .code yJ9_floorDiv_f86c9 cJ9_floorDiv_f86c9 6 (some .long)])
def wsX2_rounded : List Cond := .code yX2_rounded cX2_rounded 8 (some .long) :: ([.constantLong RX2 117 (2), .methodLink RX2 170 yJ9_floorDiv_f86c9, .static yJ9_floorDiv_f86c9, .initialized RJ9, .code yJ9_floorDiv_f86c9 cJ9_floorDiv_f86c9 6 (some .long)])
def wsX1_valueAt : List Cond := .code yX1_valueAt cX1_valueAt 10 (some .long) :: ([.fieldLink RX1 15 "CosineSeries$Series" "top" "I", .constantLong RX1 41 (2), .constantLong RX1 43 (1048576), .methodLink RX1 25 yX1_at, .instanceMethod yX1_at, .selects RX1 yX1_at yX1_at, .initialized RX1, .code yX1_at cX1_at 2 (some .long), .fieldLink RX1 9 "CosineSeries$Series" "terms" "[J", .static yX2_rounded, .initialized RX2, .code yX2_rounded cX2_rounded 8 (some .long), .constantLong RX2 117 (2), .methodLink RX2 170 yJ9_floorDiv_f86c9, .static yJ9_floorDiv_f86c9, .initialized RJ9, .code yJ9_floorDiv_f86c9 cJ9_floorDiv_f86c9 6 (some .long)] ++ wsX10)
def wsX0_isFree_r1 : List Cond := [Cond.constantLong RX0 78 (8), Cond.methodLink RX0 74 Lib.MathLoose.abs_long.x, Cond.static Lib.MathLoose.abs_long.x, Cond.initialized "java/lang/Math", Cond.code Lib.MathLoose.abs_long.x Lib.MathLoose.abs_long.code 2 (some .long), Cond.constantLong RX0 32 (1048576), Cond.methodLink RX0 64 yX1_top, Cond.instanceMethod yX1_top, Cond.selects RX1 yX1_top yX1_top, Cond.initialized RX1, Cond.code yX1_top cX1_top 1 (some .int), Cond.fieldLink RX1 15 "CosineSeries$Series" "top" "I", Cond.methodLink RX0 80 yX1_valueAt, Cond.instanceMethod yX1_valueAt, Cond.selects RX1 yX1_valueAt yX1_valueAt, Cond.code yX1_valueAt cX1_valueAt 10 (some .long), Cond.constantLong RX1 41 (2), Cond.constantLong RX1 43 (1048576), Cond.methodLink RX1 25 yX1_at, Cond.instanceMethod yX1_at, Cond.selects RX1 yX1_at yX1_at, Cond.code yX1_at cX1_at 2 (some .long), Cond.fieldLink RX1 9 "CosineSeries$Series" "terms" "[J", Cond.static yX2_rounded]
def wsX0_isFree_r2 : List Cond := [Cond.initialized RX2, Cond.code yX2_rounded cX2_rounded 8 (some .long), Cond.constantLong RX2 117 (2), Cond.methodLink RX2 170 yJ9_floorDiv_f86c9, Cond.static yJ9_floorDiv_f86c9, Cond.initialized RJ9, Cond.code yJ9_floorDiv_f86c9 cJ9_floorDiv_f86c9 6 (some .long)]
def wsX0_isFree : List Cond := .code yX0_isFree cX0_isFree 9 (some .boolean) :: ((wsX0_isFree_r1 ++ wsX0_isFree_r2) ++ wsX10)
def wsX0_note : List Cond := .code yX0_note cX0_note 5 none :: ([.fieldLink RX0 18 "CosineSeries$RootSearch" "count" "I", .constantLong RX0 58 (16), .fieldLink RX0 11 "CosineSeries$RootSearch" "roots" "[J", .methodLink RX0 86 yX0_found, .instanceMethod yX0_found, .selects RX0 yX0_found yX0_found, .initialized RX0, .code yX0_found cX0_found 2 (some .long)] ++ wsX00)
def wsX0_run_r1 : List Cond := [Cond.fieldLink RX0 18 "CosineSeries$RootSearch" "count" "I", Cond.fieldLink RX0 22 "CosineSeries$RootSearch" "lookedAt" "I", Cond.fieldLink RX0 29 "CosineSeries$RootSearch" "waiting" "I", Cond.constantLong RX0 32 (1048576), Cond.constantLong RX0 38 (-1048576), Cond.methodLink RX0 50 Lib.MathLoose.max_long.x, Cond.static Lib.MathLoose.max_long.x, Cond.initialized "java/lang/Math", Cond.code Lib.MathLoose.max_long.x Lib.MathLoose.max_long.code 4 (some .long), Cond.constantLong RX0 58 (16), Cond.methodLink RX0 25 yX0_steepnessOf, Cond.static yX0_steepnessOf, Cond.initialized RX0, Cond.code yX0_steepnessOf cX0_steepnessOf 4 (some .long), Cond.methodLink RX0 74 Lib.MathLoose.abs_long.x, Cond.static Lib.MathLoose.abs_long.x, Cond.code Lib.MathLoose.abs_long.x Lib.MathLoose.abs_long.code 2 (some .long), Cond.methodLink RX0 64 yX1_top, Cond.instanceMethod yX1_top, Cond.selects RX1 yX1_top yX1_top, Cond.initialized RX1, Cond.code yX1_top cX1_top 1 (some .int), Cond.fieldLink RX1 15 "CosineSeries$Series" "top" "I", Cond.methodLink RX0 70 yX1_at]
def wsX0_run_r2 : List Cond := [Cond.instanceMethod yX1_at, Cond.selects RX1 yX1_at yX1_at, Cond.code yX1_at cX1_at 2 (some .long), Cond.fieldLink RX1 9 "CosineSeries$Series" "terms" "[J", Cond.methodLink RX0 34 yX0_push, Cond.instanceMethod yX0_push, Cond.selects RX0 yX0_push yX0_push, Cond.code yX0_push cX0_push 3 none, Cond.fieldLink RX0 15 "CosineSeries$RootSearch" "ends" "[J", Cond.methodLink RX0 40 yX0_nextEnd, Cond.instanceMethod yX0_nextEnd, Cond.selects RX0 yX0_nextEnd yX0_nextEnd, Cond.code yX0_nextEnd cX0_nextEnd 2 (some .long), Cond.methodLink RX0 44 yJ9_floorDiv_b2ac5, Cond.static yJ9_floorDiv_b2ac5, Cond.initialized RJ9, Cond.code yJ9_floorDiv_b2ac5 cJ9_floorDiv_b2ac5 3 (some .long), Cond.methodLink RJ9 143 yJ9_floorDiv_f86c9, Cond.static yJ9_floorDiv_f86c9, Cond.code yJ9_floorDiv_f86c9 cJ9_floorDiv_f86c9 6 (some .long), Cond.methodLink RX0 54 yX0_isFree, Cond.static yX0_isFree, Cond.code yX0_isFree cX0_isFree 9 (some .boolean), Cond.constantLong RX0 78 (8)]
def wsX0_run_r3 : List Cond := [Cond.methodLink RX0 80 yX1_valueAt, Cond.instanceMethod yX1_valueAt, Cond.selects RX1 yX1_valueAt yX1_valueAt, Cond.code yX1_valueAt cX1_valueAt 10 (some .long), Cond.constantLong RX1 41 (2), Cond.constantLong RX1 43 (1048576), Cond.methodLink RX1 25 yX1_at, Cond.static yX2_rounded, Cond.initialized RX2, Cond.code yX2_rounded cX2_rounded 8 (some .long), Cond.constantLong RX2 117 (2), Cond.methodLink RX2 170 yJ9_floorDiv_f86c9, Cond.methodLink RX0 60 yX0_note, Cond.instanceMethod yX0_note, Cond.selects RX0 yX0_note yX0_note, Cond.code yX0_note cX0_note 5 none, Cond.fieldLink RX0 11 "CosineSeries$RootSearch" "roots" "[J", Cond.methodLink RX0 86 yX0_found, Cond.instanceMethod yX0_found, Cond.selects RX0 yX0_found yX0_found, Cond.code yX0_found cX0_found 2 (some .long)]
def wsX0_run : List Cond := .code yX0_run cX0_run 11 none :: ((wsX0_run_r1 ++ (wsX0_run_r2 ++ wsX0_run_r3)) ++ wsX00 ++ wsX10)
def wsX1_init : List Cond := .code yX1_init cX1_init 1 none :: ([.methodLink RX1 3 objectInit, .instanceMethod objectInit, .code objectInit ⟨#[0xb1]⟩ 1 none, .arrayClass .long, .fieldLink RX1 9 "CosineSeries$Series" "terms" "[J"] ++ wsX10)
def wsX1_put : List Cond := .code yX1_put cX1_put 4 none :: ([.fieldLink RX1 9 "CosineSeries$Series" "terms" "[J"] ++ wsX10)
def wsJ7_fill_d0a16 : List Cond := .code yJ7_fill_d0a16 cJ7_fill_d0a16 5 none :: ([])
def wsX1_clear : List Cond := .code yX1_clear cX1_clear 1 none :: ([.fieldLink RX1 9 "CosineSeries$Series" "terms" "[J", .fieldLink RX1 15 "CosineSeries$Series" "top" "I", .methodLink RX1 19 yJ7_fill_d0a16, .static yJ7_fill_d0a16, .initialized RJ7, .code yJ7_fill_d0a16 cJ7_fill_d0a16 5 none] ++ wsX10)
def wsX1_take : List Cond := .code yX1_take cX1_take 3 none :: ([.fieldLink RX1 9 "CosineSeries$Series" "terms" "[J", .fieldLink RX1 15 "CosineSeries$Series" "top" "I", .methodLink RX1 25 yX1_at, .instanceMethod yX1_at, .selects RX1 yX1_at yX1_at, .initialized RX1, .code yX1_at cX1_at 2 (some .long)] ++ wsX10)
def wsX1_trim : List Cond := .code yX1_trim cX1_trim 2 none :: ([.fieldLink RX1 15 "CosineSeries$Series" "top" "I", .fieldLink RX1 9 "CosineSeries$Series" "terms" "[J"] ++ wsX10)
def wsX1_error : List Cond := .code yX1_error cX1_error 6 (some .long) :: ([.fieldLink RX1 15 "CosineSeries$Series" "top" "I", .constantLong RX1 29 (-9000000000000000002), .fieldLink RX1 9 "CosineSeries$Series" "terms" "[J", .methodLink RX1 31 Lib.MathLoose.abs_long.x, .static Lib.MathLoose.abs_long.x, .initialized "java/lang/Math", .code Lib.MathLoose.abs_long.x Lib.MathLoose.abs_long.code 2 (some .long), .constantLong RX1 37 (268435456), .constantLong RX1 39 (-9000000000000000003)] ++ wsX10)
def wsX1_topWithin : List Cond := .code yX1_topWithin cX1_topWithin 5 (some .int) :: ([.fieldLink RX1 15 "CosineSeries$Series" "top" "I", .methodLink RX1 31 Lib.MathLoose.abs_long.x, .static Lib.MathLoose.abs_long.x, .initialized "java/lang/Math", .code Lib.MathLoose.abs_long.x Lib.MathLoose.abs_long.code 2 (some .long), .methodLink RX1 25 yX1_at, .instanceMethod yX1_at, .selects RX1 yX1_at yX1_at, .initialized RX1, .code yX1_at cX1_at 2 (some .long), .fieldLink RX1 9 "CosineSeries$Series" "terms" "[J"] ++ wsX10)
def wsX1_dropAbove : List Cond := .code yX1_dropAbove cX1_dropAbove 3 none :: ([.methodLink RX1 49 Lib.Math.max.name, .static Lib.Math.max.name, .initialized "java/lang/Math", .code Lib.Math.max.name Lib.Math.max.code 2 (some .int), .fieldLink RX1 9 "CosineSeries$Series" "terms" "[J", .methodLink RX1 53 yX1_trim, .instanceMethod yX1_trim, .selects RX1 yX1_trim yX1_trim, .initialized RX1, .code yX1_trim cX1_trim 2 none, .fieldLink RX1 15 "CosineSeries$Series" "top" "I"] ++ wsX10)
def wsX1_placeOf : List Cond := .code yX1_placeOf cX1_placeOf 8 (some .int) :: ([.methodLink RX1 31 Lib.MathLoose.abs_long.x, .static Lib.MathLoose.abs_long.x, .initialized "java/lang/Math", .code Lib.MathLoose.abs_long.x Lib.MathLoose.abs_long.code 2 (some .long), .fieldLink RX1 15 "CosineSeries$Series" "top" "I", .methodLink RX1 25 yX1_at, .instanceMethod yX1_at, .selects RX1 yX1_at yX1_at, .initialized RX1, .code yX1_at cX1_at 2 (some .long), .fieldLink RX1 9 "CosineSeries$Series" "terms" "[J"] ++ wsX10)
def wsX1_becomeSum : List Cond := .code yX1_becomeSum cX1_becomeSum 6 none :: ([.fieldLink RX1 9 "CosineSeries$Series" "terms" "[J", .methodLink RX1 25 yX1_at, .instanceMethod yX1_at, .selects RX1 yX1_at yX1_at, .initialized RX1, .code yX1_at cX1_at 2 (some .long), .methodLink RX1 53 yX1_trim, .instanceMethod yX1_trim, .selects RX1 yX1_trim yX1_trim, .code yX1_trim cX1_trim 2 none, .fieldLink RX1 15 "CosineSeries$Series" "top" "I"] ++ wsX10)
def wsX1_becomeProduct_r1 : List Cond := [Cond.fieldLink RX1 15 "CosineSeries$Series" "top" "I", Cond.methodLink RX1 63 Lib.Math.abs.name, Cond.static Lib.Math.abs.name, Cond.initialized "java/lang/Math", Cond.code Lib.Math.abs.name Lib.Math.abs.code 1 (some .int), Cond.fieldLink RX1 9 "CosineSeries$Series" "terms" "[J", Cond.constantLong RX1 66 (2097152), Cond.methodLink RX1 56 yX1_clear, Cond.instanceMethod yX1_clear, Cond.selects RX1 yX1_clear yX1_clear, Cond.initialized RX1, Cond.code yX1_clear cX1_clear 1 none, Cond.methodLink RX1 19 yJ7_fill_d0a16, Cond.static yJ7_fill_d0a16, Cond.initialized RJ7, Cond.code yJ7_fill_d0a16 cJ7_fill_d0a16 5 none, Cond.methodLink RX1 25 yX1_at, Cond.instanceMethod yX1_at, Cond.selects RX1 yX1_at yX1_at, Cond.code yX1_at cX1_at 2 (some .long), Cond.methodLink RX1 59 yX1_put, Cond.instanceMethod yX1_put, Cond.selects RX1 yX1_put yX1_put, Cond.code yX1_put cX1_put 4 none]
def wsX1_becomeProduct_r2 : List Cond := [Cond.static yX2_rounded, Cond.initialized RX2, Cond.code yX2_rounded cX2_rounded 8 (some .long), Cond.constantLong RX2 117 (2), Cond.methodLink RX2 170 yJ9_floorDiv_f86c9, Cond.static yJ9_floorDiv_f86c9, Cond.initialized RJ9, Cond.code yJ9_floorDiv_f86c9 cJ9_floorDiv_f86c9 6 (some .long), Cond.methodLink RX1 53 yX1_trim, Cond.instanceMethod yX1_trim, Cond.selects RX1 yX1_trim yX1_trim, Cond.code yX1_trim cX1_trim 2 none]
def wsX1_becomeProduct : List Cond := .code yX1_becomeProduct cX1_becomeProduct 8 none :: ((wsX1_becomeProduct_r1 ++ wsX1_becomeProduct_r2) ++ wsX10)
def wsX1_becomeDerivative_r1 : List Cond := [Cond.fieldLink RX1 15 "CosineSeries$Series" "top" "I", Cond.constantLong RX1 41 (2), Cond.methodLink RX1 56 yX1_clear, Cond.instanceMethod yX1_clear, Cond.selects RX1 yX1_clear yX1_clear, Cond.initialized RX1, Cond.code yX1_clear cX1_clear 1 none, Cond.fieldLink RX1 9 "CosineSeries$Series" "terms" "[J", Cond.methodLink RX1 19 yJ7_fill_d0a16, Cond.static yJ7_fill_d0a16, Cond.initialized RJ7, Cond.code yJ7_fill_d0a16 cJ7_fill_d0a16 5 none, Cond.methodLink RX1 25 yX1_at, Cond.instanceMethod yX1_at, Cond.selects RX1 yX1_at yX1_at, Cond.code yX1_at cX1_at 2 (some .long), Cond.methodLink RX1 59 yX1_put, Cond.instanceMethod yX1_put, Cond.selects RX1 yX1_put yX1_put, Cond.code yX1_put cX1_put 4 none, Cond.static yX2_rounded, Cond.initialized RX2, Cond.code yX2_rounded cX2_rounded 8 (some .long), Cond.constantLong RX2 117 (2)]
def wsX1_becomeDerivative_r2 : List Cond := [Cond.methodLink RX2 170 yJ9_floorDiv_f86c9, Cond.static yJ9_floorDiv_f86c9, Cond.initialized RJ9, Cond.code yJ9_floorDiv_f86c9 cJ9_floorDiv_f86c9 6 (some .long), Cond.methodLink RX1 53 yX1_trim, Cond.instanceMethod yX1_trim, Cond.selects RX1 yX1_trim yX1_trim, Cond.code yX1_trim cX1_trim 2 none]
def wsX1_becomeDerivative : List Cond := .code yX1_becomeDerivative cX1_becomeDerivative 3 none :: ((wsX1_becomeDerivative_r1 ++ wsX1_becomeDerivative_r2) ++ wsX10)
def wsX1_becomeAntiderivative_r1 : List Cond := [Cond.fieldLink RX1 15 "CosineSeries$Series" "top" "I", Cond.constantLong RX1 41 (2), Cond.methodLink RX1 56 yX1_clear, Cond.instanceMethod yX1_clear, Cond.selects RX1 yX1_clear yX1_clear, Cond.initialized RX1, Cond.code yX1_clear cX1_clear 1 none, Cond.fieldLink RX1 9 "CosineSeries$Series" "terms" "[J", Cond.methodLink RX1 19 yJ7_fill_d0a16, Cond.static yJ7_fill_d0a16, Cond.initialized RJ7, Cond.code yJ7_fill_d0a16 cJ7_fill_d0a16 5 none, Cond.methodLink RX1 25 yX1_at, Cond.instanceMethod yX1_at, Cond.selects RX1 yX1_at yX1_at, Cond.code yX1_at cX1_at 2 (some .long), Cond.static yX2_rounded, Cond.initialized RX2, Cond.code yX2_rounded cX2_rounded 8 (some .long), Cond.constantLong RX2 117 (2), Cond.methodLink RX2 170 yJ9_floorDiv_f86c9, Cond.static yJ9_floorDiv_f86c9, Cond.initialized RJ9, Cond.code yJ9_floorDiv_f86c9 cJ9_floorDiv_f86c9 6 (some .long)]
def wsX1_becomeAntiderivative_r2 : List Cond := [Cond.methodLink RX1 59 yX1_put, Cond.instanceMethod yX1_put, Cond.selects RX1 yX1_put yX1_put, Cond.code yX1_put cX1_put 4 none, Cond.methodLink RX1 53 yX1_trim, Cond.instanceMethod yX1_trim, Cond.selects RX1 yX1_trim yX1_trim, Cond.code yX1_trim cX1_trim 2 none]
def wsX1_becomeAntiderivative : List Cond := .code yX1_becomeAntiderivative cX1_becomeAntiderivative 9 none :: ((wsX1_becomeAntiderivative_r1 ++ wsX1_becomeAntiderivative_r2) ++ wsX10)
def wsX1_becomeQuotient_r1 : List Cond := [Cond.fieldLink RX1 15 "CosineSeries$Series" "top" "I", Cond.constantLong RX1 41 (2), Cond.constantLong RX1 43 (1048576), Cond.methodLink RX1 56 yX1_clear, Cond.instanceMethod yX1_clear, Cond.selects RX1 yX1_clear yX1_clear, Cond.initialized RX1, Cond.code yX1_clear cX1_clear 1 none, Cond.fieldLink RX1 9 "CosineSeries$Series" "terms" "[J", Cond.methodLink RX1 19 yJ7_fill_d0a16, Cond.static yJ7_fill_d0a16, Cond.initialized RJ7, Cond.code yJ7_fill_d0a16 cJ7_fill_d0a16 5 none, Cond.methodLink RX1 25 yX1_at, Cond.instanceMethod yX1_at, Cond.selects RX1 yX1_at yX1_at, Cond.code yX1_at cX1_at 2 (some .long), Cond.static yX2_rounded, Cond.initialized RX2, Cond.code yX2_rounded cX2_rounded 8 (some .long), Cond.constantLong RX2 117 (2), Cond.methodLink RX2 170 yJ9_floorDiv_f86c9, Cond.static yJ9_floorDiv_f86c9, Cond.initialized RJ9]
def wsX1_becomeQuotient_r2 : List Cond := [Cond.code yJ9_floorDiv_f86c9 cJ9_floorDiv_f86c9 6 (some .long), Cond.methodLink RX1 59 yX1_put, Cond.instanceMethod yX1_put, Cond.selects RX1 yX1_put yX1_put, Cond.code yX1_put cX1_put 4 none, Cond.methodLink RX1 53 yX1_trim, Cond.instanceMethod yX1_trim, Cond.selects RX1 yX1_trim yX1_trim, Cond.code yX1_trim cX1_trim 2 none]
def wsX1_becomeQuotient : List Cond := .code yX1_becomeQuotient cX1_becomeQuotient 5 none :: ((wsX1_becomeQuotient_r1 ++ wsX1_becomeQuotient_r2) ++ wsX10)
def wsX2_init_r1 : List Cond := [Cond.methodLink RX2 1 objectInit, Cond.instanceMethod objectInit, Cond.code objectInit ⟨#[0xb1]⟩ 1 none, Cond.classLink RX2 9 RX1, Cond.fieldLink RX2 11 "CosineSeries" "stored" "[LCosineSeries$Series;", Cond.arrayClass .long, Cond.fieldLink RX2 15 "CosineSeries" "pointValues" "[J", Cond.classLink RX2 19 RX0, Cond.instantiable RX0 5, Cond.initialized RX0, Cond.fieldLink RX2 22 "CosineSeries" "search" "LCosineSeries$RootSearch;", Cond.instantiable RX1 2, Cond.initialized RX1, Cond.fieldLink RX2 27 "CosineSeries" "made" "LCosineSeries$Series;", Cond.fieldLink RX2 31 "CosineSeries" "product" "LCosineSeries$Series;", Cond.fieldLink RX2 34 "CosineSeries" "last" "LCosineSeries$Series;", Cond.fieldLink RX2 37 "CosineSeries" "lastButOne" "LCosineSeries$Series;", Cond.instanceMethod yX0_init, Cond.code yX0_init cX0_init 1 none, Cond.methodLink RX0 3 objectInit, Cond.fieldLink RX0 11 "CosineSeries$RootSearch" "roots" "[J", Cond.fieldLink RX0 15 "CosineSeries$RootSearch" "ends" "[J", Cond.instanceMethod yX1_init, Cond.code yX1_init cX1_init 1 none]
def wsX2_init_r2 : List Cond := [Cond.methodLink RX1 3 objectInit, Cond.fieldLink RX1 9 "CosineSeries$Series" "terms" "[J"]
def wsX2_init : List Cond := .code yX2_init cX2_init 2 none :: ((wsX2_init_r1 ++ wsX2_init_r2) ++ wsX20 ++ wsX00 ++ wsX10)
def wsX2_find : List Cond := .code yX2_find cX2_find 2 (some (.object "CosineSeries$Series")) :: ([.fieldLink RX2 11 "CosineSeries" "stored" "[LCosineSeries$Series;"] ++ wsX20)
def wsX2_isOutside : List Cond := .code yX2_isOutside cX2_isOutside 3 (some .boolean) :: ([])
def wsX2_setCoefficient_r1 : List Cond := [Cond.constant RX2 48 (-268435456), Cond.constant RX2 49 (268435456), Cond.constantLong RX2 50 (-9000000000000000001), Cond.methodLink RX2 40 yX2_find, Cond.instanceMethod yX2_find, Cond.selects RX2 yX2_find yX2_find, Cond.initialized RX2, Cond.code yX2_find cX2_find 2 (some (.object "CosineSeries$Series")), Cond.fieldLink RX2 11 "CosineSeries" "stored" "[LCosineSeries$Series;", Cond.methodLink RX2 44 yX2_isOutside, Cond.static yX2_isOutside, Cond.code yX2_isOutside cX2_isOutside 3 (some .boolean), Cond.methodLink RX2 52 yX1_put, Cond.instanceMethod yX1_put, Cond.selects RX1 yX1_put yX1_put, Cond.initialized RX1, Cond.code yX1_put cX1_put 4 none, Cond.fieldLink RX1 9 "CosineSeries$Series" "terms" "[J", Cond.methodLink RX2 56 yX1_trim, Cond.instanceMethod yX1_trim, Cond.selects RX1 yX1_trim yX1_trim, Cond.code yX1_trim cX1_trim 2 none, Cond.fieldLink RX1 15 "CosineSeries$Series" "top" "I", Cond.methodLink RX2 59 yX1_top]
def wsX2_setCoefficient_r2 : List Cond := [Cond.instanceMethod yX1_top, Cond.selects RX1 yX1_top yX1_top, Cond.code yX1_top cX1_top 1 (some .int)]
def wsX2_setCoefficient : List Cond := .code yX2_setCoefficient cX2_setCoefficient 5 (some .long) :: ((wsX2_setCoefficient_r1 ++ wsX2_setCoefficient_r2) ++ wsX20 ++ wsX10)
def wsX2_coefficient : List Cond := .code yX2_coefficient cX2_coefficient 4 (some .long) :: ([.constantLong RX2 50 (-9000000000000000001), .methodLink RX2 40 yX2_find, .instanceMethod yX2_find, .selects RX2 yX2_find yX2_find, .initialized RX2, .code yX2_find cX2_find 2 (some (.object "CosineSeries$Series")), .fieldLink RX2 11 "CosineSeries" "stored" "[LCosineSeries$Series;", .methodLink RX2 44 yX2_isOutside, .static yX2_isOutside, .code yX2_isOutside cX2_isOutside 3 (some .boolean), .methodLink RX2 63 yX1_at, .instanceMethod yX1_at, .selects RX1 yX1_at yX1_at, .initialized RX1, .code yX1_at cX1_at 2 (some .long), .fieldLink RX1 9 "CosineSeries$Series" "terms" "[J"] ++ wsX20 ++ wsX10)
def wsX2_degree : List Cond := .code yX2_degree cX2_degree 3 (some .long) :: ([.constantLong RX2 50 (-9000000000000000001), .methodLink RX2 40 yX2_find, .instanceMethod yX2_find, .selects RX2 yX2_find yX2_find, .initialized RX2, .code yX2_find cX2_find 2 (some (.object "CosineSeries$Series")), .fieldLink RX2 11 "CosineSeries" "stored" "[LCosineSeries$Series;", .methodLink RX2 59 yX1_top, .instanceMethod yX1_top, .selects RX1 yX1_top yX1_top, .initialized RX1, .code yX1_top cX1_top 1 (some .int), .fieldLink RX1 15 "CosineSeries$Series" "top" "I"] ++ wsX20 ++ wsX10)
def wsX2_copy : List Cond := .code yX2_copy cX2_copy 5 (some .long) :: ([.constantLong RX2 50 (-9000000000000000001), .methodLink RX2 40 yX2_find, .instanceMethod yX2_find, .selects RX2 yX2_find yX2_find, .initialized RX2, .code yX2_find cX2_find 2 (some (.object "CosineSeries$Series")), .fieldLink RX2 11 "CosineSeries" "stored" "[LCosineSeries$Series;", .methodLink RX2 67 yX1_take, .instanceMethod yX1_take, .selects RX1 yX1_take yX1_take, .initialized RX1, .code yX1_take cX1_take 3 none, .fieldLink RX1 9 "CosineSeries$Series" "terms" "[J", .fieldLink RX1 15 "CosineSeries$Series" "top" "I", .methodLink RX1 25 yX1_at, .instanceMethod yX1_at, .selects RX1 yX1_at yX1_at, .code yX1_at cX1_at 2 (some .long), .methodLink RX2 59 yX1_top, .instanceMethod yX1_top, .selects RX1 yX1_top yX1_top, .code yX1_top cX1_top 1 (some .int)] ++ wsX20 ++ wsX10)
def wsX2_value_r1 : List Cond := [Cond.constant RX2 71 (-1048576), Cond.constant RX2 72 (1048576), Cond.constantLong RX2 50 (-9000000000000000001), Cond.methodLink RX2 40 yX2_find, Cond.instanceMethod yX2_find, Cond.selects RX2 yX2_find yX2_find, Cond.initialized RX2, Cond.code yX2_find cX2_find 2 (some (.object "CosineSeries$Series")), Cond.fieldLink RX2 11 "CosineSeries" "stored" "[LCosineSeries$Series;", Cond.methodLink RX2 44 yX2_isOutside, Cond.static yX2_isOutside, Cond.code yX2_isOutside cX2_isOutside 3 (some .boolean), Cond.methodLink RX2 73 yX1_valueAt, Cond.instanceMethod yX1_valueAt, Cond.selects RX1 yX1_valueAt yX1_valueAt, Cond.initialized RX1, Cond.code yX1_valueAt cX1_valueAt 10 (some .long), Cond.fieldLink RX1 15 "CosineSeries$Series" "top" "I", Cond.constantLong RX1 41 (2), Cond.constantLong RX1 43 (1048576), Cond.methodLink RX1 25 yX1_at, Cond.instanceMethod yX1_at, Cond.selects RX1 yX1_at yX1_at, Cond.code yX1_at cX1_at 2 (some .long)]
def wsX2_value_r2 : List Cond := [Cond.fieldLink RX1 9 "CosineSeries$Series" "terms" "[J", Cond.static yX2_rounded, Cond.code yX2_rounded cX2_rounded 8 (some .long), Cond.constantLong RX2 117 (2), Cond.methodLink RX2 170 yJ9_floorDiv_f86c9, Cond.static yJ9_floorDiv_f86c9, Cond.initialized RJ9, Cond.code yJ9_floorDiv_f86c9 cJ9_floorDiv_f86c9 6 (some .long)]
def wsX2_value : List Cond := .code yX2_value cX2_value 4 (some .long) :: ((wsX2_value_r1 ++ wsX2_value_r2) ++ wsX20 ++ wsX10)
def wsX2_keepMade_r1 : List Cond := [Cond.fieldLink RX2 27 "CosineSeries" "made" "LCosineSeries$Series;", Cond.methodLink RX2 164 yX1_error, Cond.instanceMethod yX1_error, Cond.selects RX1 yX1_error yX1_error, Cond.initialized RX1, Cond.code yX1_error cX1_error 6 (some .long), Cond.fieldLink RX1 15 "CosineSeries$Series" "top" "I", Cond.constantLong RX1 29 (-9000000000000000002), Cond.fieldLink RX1 9 "CosineSeries$Series" "terms" "[J", Cond.methodLink RX1 31 Lib.MathLoose.abs_long.x, Cond.static Lib.MathLoose.abs_long.x, Cond.initialized "java/lang/Math", Cond.code Lib.MathLoose.abs_long.x Lib.MathLoose.abs_long.code 2 (some .long), Cond.constantLong RX1 37 (268435456), Cond.constantLong RX1 39 (-9000000000000000003), Cond.methodLink RX2 67 yX1_take, Cond.instanceMethod yX1_take, Cond.selects RX1 yX1_take yX1_take, Cond.code yX1_take cX1_take 3 none, Cond.methodLink RX1 25 yX1_at, Cond.instanceMethod yX1_at, Cond.selects RX1 yX1_at yX1_at, Cond.code yX1_at cX1_at 2 (some .long), Cond.methodLink RX2 59 yX1_top]
def wsX2_keepMade_r2 : List Cond := [Cond.instanceMethod yX1_top, Cond.selects RX1 yX1_top yX1_top, Cond.code yX1_top cX1_top 1 (some .int)]
def wsX2_keepMade : List Cond := .code yX2_keepMade cX2_keepMade 4 (some .long) :: ((wsX2_keepMade_r1 ++ wsX2_keepMade_r2) ++ wsX20 ++ wsX10)
def wsX2_add_r1 : List Cond := [Cond.constantLong RX2 50 (-9000000000000000001), Cond.fieldLink RX2 27 "CosineSeries" "made" "LCosineSeries$Series;", Cond.methodLink RX2 40 yX2_find, Cond.instanceMethod yX2_find, Cond.selects RX2 yX2_find yX2_find, Cond.initialized RX2, Cond.code yX2_find cX2_find 2 (some (.object "CosineSeries$Series")), Cond.fieldLink RX2 11 "CosineSeries" "stored" "[LCosineSeries$Series;", Cond.methodLink RX2 44 yX2_isOutside, Cond.static yX2_isOutside, Cond.code yX2_isOutside cX2_isOutside 3 (some .boolean), Cond.methodLink RX2 77 yX1_becomeSum, Cond.instanceMethod yX1_becomeSum, Cond.selects RX1 yX1_becomeSum yX1_becomeSum, Cond.initialized RX1, Cond.code yX1_becomeSum cX1_becomeSum 6 none, Cond.fieldLink RX1 9 "CosineSeries$Series" "terms" "[J", Cond.methodLink RX1 25 yX1_at, Cond.instanceMethod yX1_at, Cond.selects RX1 yX1_at yX1_at, Cond.code yX1_at cX1_at 2 (some .long), Cond.methodLink RX1 53 yX1_trim, Cond.instanceMethod yX1_trim, Cond.selects RX1 yX1_trim yX1_trim]
def wsX2_add_r2 : List Cond := [Cond.code yX1_trim cX1_trim 2 none, Cond.fieldLink RX1 15 "CosineSeries$Series" "top" "I", Cond.methodLink RX2 81 yX2_keepMade, Cond.instanceMethod yX2_keepMade, Cond.selects RX2 yX2_keepMade yX2_keepMade, Cond.code yX2_keepMade cX2_keepMade 4 (some .long), Cond.methodLink RX2 164 yX1_error, Cond.instanceMethod yX1_error, Cond.selects RX1 yX1_error yX1_error, Cond.code yX1_error cX1_error 6 (some .long), Cond.constantLong RX1 29 (-9000000000000000002), Cond.methodLink RX1 31 Lib.MathLoose.abs_long.x, Cond.static Lib.MathLoose.abs_long.x, Cond.initialized "java/lang/Math", Cond.code Lib.MathLoose.abs_long.x Lib.MathLoose.abs_long.code 2 (some .long), Cond.constantLong RX1 37 (268435456), Cond.constantLong RX1 39 (-9000000000000000003), Cond.methodLink RX2 67 yX1_take, Cond.instanceMethod yX1_take, Cond.selects RX1 yX1_take yX1_take, Cond.code yX1_take cX1_take 3 none, Cond.methodLink RX2 59 yX1_top, Cond.instanceMethod yX1_top, Cond.selects RX1 yX1_top yX1_top]
def wsX2_add_r3 : List Cond := [Cond.code yX1_top cX1_top 1 (some .int)]
def wsX2_add : List Cond := .code yX2_add cX2_add 9 (some .long) :: ((wsX2_add_r1 ++ (wsX2_add_r2 ++ wsX2_add_r3)) ++ wsX20 ++ wsX10)
def wsX2_multiply_r1 : List Cond := [Cond.constantLong RX2 50 (-9000000000000000001), Cond.fieldLink RX2 27 "CosineSeries" "made" "LCosineSeries$Series;", Cond.methodLink RX2 40 yX2_find, Cond.instanceMethod yX2_find, Cond.selects RX2 yX2_find yX2_find, Cond.initialized RX2, Cond.code yX2_find cX2_find 2 (some (.object "CosineSeries$Series")), Cond.fieldLink RX2 11 "CosineSeries" "stored" "[LCosineSeries$Series;", Cond.methodLink RX2 85 yX1_becomeProduct, Cond.instanceMethod yX1_becomeProduct, Cond.selects RX1 yX1_becomeProduct yX1_becomeProduct, Cond.initialized RX1, Cond.code yX1_becomeProduct cX1_becomeProduct 8 none, Cond.fieldLink RX1 15 "CosineSeries$Series" "top" "I", Cond.methodLink RX1 63 Lib.Math.abs.name, Cond.static Lib.Math.abs.name, Cond.initialized "java/lang/Math", Cond.code Lib.Math.abs.name Lib.Math.abs.code 1 (some .int), Cond.fieldLink RX1 9 "CosineSeries$Series" "terms" "[J", Cond.constantLong RX1 66 (2097152), Cond.methodLink RX1 56 yX1_clear, Cond.instanceMethod yX1_clear, Cond.selects RX1 yX1_clear yX1_clear, Cond.code yX1_clear cX1_clear 1 none]
def wsX2_multiply_r2 : List Cond := [Cond.methodLink RX1 19 yJ7_fill_d0a16, Cond.static yJ7_fill_d0a16, Cond.initialized RJ7, Cond.code yJ7_fill_d0a16 cJ7_fill_d0a16 5 none, Cond.methodLink RX1 25 yX1_at, Cond.instanceMethod yX1_at, Cond.selects RX1 yX1_at yX1_at, Cond.code yX1_at cX1_at 2 (some .long), Cond.methodLink RX1 59 yX1_put, Cond.instanceMethod yX1_put, Cond.selects RX1 yX1_put yX1_put, Cond.code yX1_put cX1_put 4 none, Cond.static yX2_rounded, Cond.code yX2_rounded cX2_rounded 8 (some .long), Cond.constantLong RX2 117 (2), Cond.methodLink RX2 170 yJ9_floorDiv_f86c9, Cond.static yJ9_floorDiv_f86c9, Cond.initialized RJ9, Cond.code yJ9_floorDiv_f86c9 cJ9_floorDiv_f86c9 6 (some .long), Cond.methodLink RX1 53 yX1_trim, Cond.instanceMethod yX1_trim, Cond.selects RX1 yX1_trim yX1_trim, Cond.code yX1_trim cX1_trim 2 none, Cond.methodLink RX2 81 yX2_keepMade]
def wsX2_multiply_r3 : List Cond := [Cond.instanceMethod yX2_keepMade, Cond.selects RX2 yX2_keepMade yX2_keepMade, Cond.code yX2_keepMade cX2_keepMade 4 (some .long), Cond.methodLink RX2 164 yX1_error, Cond.instanceMethod yX1_error, Cond.selects RX1 yX1_error yX1_error, Cond.code yX1_error cX1_error 6 (some .long), Cond.constantLong RX1 29 (-9000000000000000002), Cond.methodLink RX1 31 Lib.MathLoose.abs_long.x, Cond.static Lib.MathLoose.abs_long.x, Cond.code Lib.MathLoose.abs_long.x Lib.MathLoose.abs_long.code 2 (some .long), Cond.constantLong RX1 37 (268435456), Cond.constantLong RX1 39 (-9000000000000000003), Cond.methodLink RX2 67 yX1_take, Cond.instanceMethod yX1_take, Cond.selects RX1 yX1_take yX1_take, Cond.code yX1_take cX1_take 3 none, Cond.methodLink RX2 59 yX1_top, Cond.instanceMethod yX1_top, Cond.selects RX1 yX1_top yX1_top, Cond.code yX1_top cX1_top 1 (some .int)]
def wsX2_multiply : List Cond := .code yX2_multiply cX2_multiply 7 (some .long) :: ((wsX2_multiply_r1 ++ (wsX2_multiply_r2 ++ wsX2_multiply_r3)) ++ wsX20 ++ wsX10)
def wsX2_differentiate_r1 : List Cond := [Cond.constantLong RX2 50 (-9000000000000000001), Cond.fieldLink RX2 27 "CosineSeries" "made" "LCosineSeries$Series;", Cond.methodLink RX2 40 yX2_find, Cond.instanceMethod yX2_find, Cond.selects RX2 yX2_find yX2_find, Cond.initialized RX2, Cond.code yX2_find cX2_find 2 (some (.object "CosineSeries$Series")), Cond.fieldLink RX2 11 "CosineSeries" "stored" "[LCosineSeries$Series;", Cond.methodLink RX2 89 yX1_becomeDerivative, Cond.instanceMethod yX1_becomeDerivative, Cond.selects RX1 yX1_becomeDerivative yX1_becomeDerivative, Cond.initialized RX1, Cond.code yX1_becomeDerivative cX1_becomeDerivative 3 none, Cond.fieldLink RX1 15 "CosineSeries$Series" "top" "I", Cond.constantLong RX1 41 (2), Cond.methodLink RX1 56 yX1_clear, Cond.instanceMethod yX1_clear, Cond.selects RX1 yX1_clear yX1_clear, Cond.code yX1_clear cX1_clear 1 none, Cond.fieldLink RX1 9 "CosineSeries$Series" "terms" "[J", Cond.methodLink RX1 19 yJ7_fill_d0a16, Cond.static yJ7_fill_d0a16, Cond.initialized RJ7, Cond.code yJ7_fill_d0a16 cJ7_fill_d0a16 5 none]
def wsX2_differentiate_r2 : List Cond := [Cond.methodLink RX1 25 yX1_at, Cond.instanceMethod yX1_at, Cond.selects RX1 yX1_at yX1_at, Cond.code yX1_at cX1_at 2 (some .long), Cond.methodLink RX1 59 yX1_put, Cond.instanceMethod yX1_put, Cond.selects RX1 yX1_put yX1_put, Cond.code yX1_put cX1_put 4 none, Cond.static yX2_rounded, Cond.code yX2_rounded cX2_rounded 8 (some .long), Cond.constantLong RX2 117 (2), Cond.methodLink RX2 170 yJ9_floorDiv_f86c9, Cond.static yJ9_floorDiv_f86c9, Cond.initialized RJ9, Cond.code yJ9_floorDiv_f86c9 cJ9_floorDiv_f86c9 6 (some .long), Cond.methodLink RX1 53 yX1_trim, Cond.instanceMethod yX1_trim, Cond.selects RX1 yX1_trim yX1_trim, Cond.code yX1_trim cX1_trim 2 none, Cond.methodLink RX2 81 yX2_keepMade, Cond.instanceMethod yX2_keepMade, Cond.selects RX2 yX2_keepMade yX2_keepMade, Cond.code yX2_keepMade cX2_keepMade 4 (some .long), Cond.methodLink RX2 164 yX1_error]
def wsX2_differentiate_r3 : List Cond := [Cond.instanceMethod yX1_error, Cond.selects RX1 yX1_error yX1_error, Cond.code yX1_error cX1_error 6 (some .long), Cond.constantLong RX1 29 (-9000000000000000002), Cond.methodLink RX1 31 Lib.MathLoose.abs_long.x, Cond.static Lib.MathLoose.abs_long.x, Cond.initialized "java/lang/Math", Cond.code Lib.MathLoose.abs_long.x Lib.MathLoose.abs_long.code 2 (some .long), Cond.constantLong RX1 37 (268435456), Cond.constantLong RX1 39 (-9000000000000000003), Cond.methodLink RX2 67 yX1_take, Cond.instanceMethod yX1_take, Cond.selects RX1 yX1_take yX1_take, Cond.code yX1_take cX1_take 3 none, Cond.methodLink RX2 59 yX1_top, Cond.instanceMethod yX1_top, Cond.selects RX1 yX1_top yX1_top, Cond.code yX1_top cX1_top 1 (some .int)]
def wsX2_differentiate : List Cond := .code yX2_differentiate cX2_differentiate 5 (some .long) :: ((wsX2_differentiate_r1 ++ (wsX2_differentiate_r2 ++ wsX2_differentiate_r3)) ++ wsX20 ++ wsX10)
def wsX2_antidifferentiate_r1 : List Cond := [Cond.constantLong RX2 50 (-9000000000000000001), Cond.fieldLink RX2 27 "CosineSeries" "made" "LCosineSeries$Series;", Cond.methodLink RX2 40 yX2_find, Cond.instanceMethod yX2_find, Cond.selects RX2 yX2_find yX2_find, Cond.initialized RX2, Cond.code yX2_find cX2_find 2 (some (.object "CosineSeries$Series")), Cond.fieldLink RX2 11 "CosineSeries" "stored" "[LCosineSeries$Series;", Cond.methodLink RX2 92 yX1_becomeAntiderivative, Cond.instanceMethod yX1_becomeAntiderivative, Cond.selects RX1 yX1_becomeAntiderivative yX1_becomeAntiderivative, Cond.initialized RX1, Cond.code yX1_becomeAntiderivative cX1_becomeAntiderivative 9 none, Cond.fieldLink RX1 15 "CosineSeries$Series" "top" "I", Cond.constantLong RX1 41 (2), Cond.methodLink RX1 56 yX1_clear, Cond.instanceMethod yX1_clear, Cond.selects RX1 yX1_clear yX1_clear, Cond.code yX1_clear cX1_clear 1 none, Cond.fieldLink RX1 9 "CosineSeries$Series" "terms" "[J", Cond.methodLink RX1 19 yJ7_fill_d0a16, Cond.static yJ7_fill_d0a16, Cond.initialized RJ7, Cond.code yJ7_fill_d0a16 cJ7_fill_d0a16 5 none]
def wsX2_antidifferentiate_r2 : List Cond := [Cond.methodLink RX1 25 yX1_at, Cond.instanceMethod yX1_at, Cond.selects RX1 yX1_at yX1_at, Cond.code yX1_at cX1_at 2 (some .long), Cond.static yX2_rounded, Cond.code yX2_rounded cX2_rounded 8 (some .long), Cond.constantLong RX2 117 (2), Cond.methodLink RX2 170 yJ9_floorDiv_f86c9, Cond.static yJ9_floorDiv_f86c9, Cond.initialized RJ9, Cond.code yJ9_floorDiv_f86c9 cJ9_floorDiv_f86c9 6 (some .long), Cond.methodLink RX1 59 yX1_put, Cond.instanceMethod yX1_put, Cond.selects RX1 yX1_put yX1_put, Cond.code yX1_put cX1_put 4 none, Cond.methodLink RX1 53 yX1_trim, Cond.instanceMethod yX1_trim, Cond.selects RX1 yX1_trim yX1_trim, Cond.code yX1_trim cX1_trim 2 none, Cond.methodLink RX2 81 yX2_keepMade, Cond.instanceMethod yX2_keepMade, Cond.selects RX2 yX2_keepMade yX2_keepMade, Cond.code yX2_keepMade cX2_keepMade 4 (some .long), Cond.methodLink RX2 164 yX1_error]
def wsX2_antidifferentiate_r3 : List Cond := [Cond.instanceMethod yX1_error, Cond.selects RX1 yX1_error yX1_error, Cond.code yX1_error cX1_error 6 (some .long), Cond.constantLong RX1 29 (-9000000000000000002), Cond.methodLink RX1 31 Lib.MathLoose.abs_long.x, Cond.static Lib.MathLoose.abs_long.x, Cond.initialized "java/lang/Math", Cond.code Lib.MathLoose.abs_long.x Lib.MathLoose.abs_long.code 2 (some .long), Cond.constantLong RX1 37 (268435456), Cond.constantLong RX1 39 (-9000000000000000003), Cond.methodLink RX2 67 yX1_take, Cond.instanceMethod yX1_take, Cond.selects RX1 yX1_take yX1_take, Cond.code yX1_take cX1_take 3 none, Cond.methodLink RX2 59 yX1_top, Cond.instanceMethod yX1_top, Cond.selects RX1 yX1_top yX1_top, Cond.code yX1_top cX1_top 1 (some .int)]
def wsX2_antidifferentiate : List Cond := .code yX2_antidifferentiate cX2_antidifferentiate 5 (some .long) :: ((wsX2_antidifferentiate_r1 ++ (wsX2_antidifferentiate_r2 ++ wsX2_antidifferentiate_r3)) ++ wsX20 ++ wsX10)
def wsX2_makeStep_r1 : List Cond := [Cond.fieldLink RX2 31 "CosineSeries" "product" "LCosineSeries$Series;", Cond.fieldLink RX2 34 "CosineSeries" "last" "LCosineSeries$Series;", Cond.fieldLink RX2 27 "CosineSeries" "made" "LCosineSeries$Series;", Cond.fieldLink RX2 37 "CosineSeries" "lastButOne" "LCosineSeries$Series;", Cond.methodLink RX2 85 yX1_becomeProduct, Cond.instanceMethod yX1_becomeProduct, Cond.selects RX1 yX1_becomeProduct yX1_becomeProduct, Cond.initialized RX1, Cond.code yX1_becomeProduct cX1_becomeProduct 8 none, Cond.fieldLink RX1 15 "CosineSeries$Series" "top" "I", Cond.methodLink RX1 63 Lib.Math.abs.name, Cond.static Lib.Math.abs.name, Cond.initialized "java/lang/Math", Cond.code Lib.Math.abs.name Lib.Math.abs.code 1 (some .int), Cond.fieldLink RX1 9 "CosineSeries$Series" "terms" "[J", Cond.constantLong RX1 66 (2097152), Cond.methodLink RX1 56 yX1_clear, Cond.instanceMethod yX1_clear, Cond.selects RX1 yX1_clear yX1_clear, Cond.code yX1_clear cX1_clear 1 none, Cond.methodLink RX1 19 yJ7_fill_d0a16, Cond.static yJ7_fill_d0a16, Cond.initialized RJ7, Cond.code yJ7_fill_d0a16 cJ7_fill_d0a16 5 none]
def wsX2_makeStep_r2 : List Cond := [Cond.methodLink RX1 25 yX1_at, Cond.instanceMethod yX1_at, Cond.selects RX1 yX1_at yX1_at, Cond.code yX1_at cX1_at 2 (some .long), Cond.methodLink RX1 59 yX1_put, Cond.instanceMethod yX1_put, Cond.selects RX1 yX1_put yX1_put, Cond.code yX1_put cX1_put 4 none, Cond.static yX2_rounded, Cond.initialized RX2, Cond.code yX2_rounded cX2_rounded 8 (some .long), Cond.constantLong RX2 117 (2), Cond.methodLink RX2 170 yJ9_floorDiv_f86c9, Cond.static yJ9_floorDiv_f86c9, Cond.initialized RJ9, Cond.code yJ9_floorDiv_f86c9 cJ9_floorDiv_f86c9 6 (some .long), Cond.methodLink RX1 53 yX1_trim, Cond.instanceMethod yX1_trim, Cond.selects RX1 yX1_trim yX1_trim, Cond.code yX1_trim cX1_trim 2 none, Cond.methodLink RX2 164 yX1_error, Cond.instanceMethod yX1_error, Cond.selects RX1 yX1_error yX1_error, Cond.code yX1_error cX1_error 6 (some .long)]
def wsX2_makeStep_r3 : List Cond := [Cond.constantLong RX1 29 (-9000000000000000002), Cond.methodLink RX1 31 Lib.MathLoose.abs_long.x, Cond.static Lib.MathLoose.abs_long.x, Cond.code Lib.MathLoose.abs_long.x Lib.MathLoose.abs_long.code 2 (some .long), Cond.constantLong RX1 37 (268435456), Cond.constantLong RX1 39 (-9000000000000000003), Cond.methodLink RX2 77 yX1_becomeSum, Cond.instanceMethod yX1_becomeSum, Cond.selects RX1 yX1_becomeSum yX1_becomeSum, Cond.code yX1_becomeSum cX1_becomeSum 6 none, Cond.methodLink RX2 63 yX1_at, Cond.methodLink RX2 52 yX1_put, Cond.methodLink RX2 56 yX1_trim]
def wsX2_makeStep : List Cond := .code yX2_makeStep cX2_makeStep 7 (some .long) :: ((wsX2_makeStep_r1 ++ (wsX2_makeStep_r2 ++ wsX2_makeStep_r3)) ++ wsX20 ++ wsX10)
def wsX2_makeComposition_r1 : List Cond := [Cond.fieldLink RX2 34 "CosineSeries" "last" "LCosineSeries$Series;", Cond.fieldLink RX2 37 "CosineSeries" "lastButOne" "LCosineSeries$Series;", Cond.fieldLink RX2 27 "CosineSeries" "made" "LCosineSeries$Series;", Cond.methodLink RX2 112 yX1_clear, Cond.instanceMethod yX1_clear, Cond.selects RX1 yX1_clear yX1_clear, Cond.initialized RX1, Cond.code yX1_clear cX1_clear 1 none, Cond.fieldLink RX1 9 "CosineSeries$Series" "terms" "[J", Cond.fieldLink RX1 15 "CosineSeries$Series" "top" "I", Cond.methodLink RX1 19 yJ7_fill_d0a16, Cond.static yJ7_fill_d0a16, Cond.initialized RJ7, Cond.code yJ7_fill_d0a16 cJ7_fill_d0a16 5 none, Cond.methodLink RX2 59 yX1_top, Cond.instanceMethod yX1_top, Cond.selects RX1 yX1_top yX1_top, Cond.code yX1_top cX1_top 1 (some .int), Cond.methodLink RX2 63 yX1_at, Cond.instanceMethod yX1_at, Cond.selects RX1 yX1_at yX1_at, Cond.code yX1_at cX1_at 2 (some .long), Cond.methodLink RX2 180 yX2_makeStep, Cond.instanceMethod yX2_makeStep]
def wsX2_makeComposition_r2 : List Cond := [Cond.selects RX2 yX2_makeStep yX2_makeStep, Cond.initialized RX2, Cond.code yX2_makeStep cX2_makeStep 7 (some .long), Cond.fieldLink RX2 31 "CosineSeries" "product" "LCosineSeries$Series;", Cond.methodLink RX2 85 yX1_becomeProduct, Cond.instanceMethod yX1_becomeProduct, Cond.selects RX1 yX1_becomeProduct yX1_becomeProduct, Cond.code yX1_becomeProduct cX1_becomeProduct 8 none, Cond.methodLink RX1 63 Lib.Math.abs.name, Cond.static Lib.Math.abs.name, Cond.initialized "java/lang/Math", Cond.code Lib.Math.abs.name Lib.Math.abs.code 1 (some .int), Cond.constantLong RX1 66 (2097152), Cond.methodLink RX1 56 yX1_clear, Cond.methodLink RX1 25 yX1_at, Cond.methodLink RX1 59 yX1_put, Cond.instanceMethod yX1_put, Cond.selects RX1 yX1_put yX1_put, Cond.code yX1_put cX1_put 4 none, Cond.static yX2_rounded, Cond.code yX2_rounded cX2_rounded 8 (some .long), Cond.constantLong RX2 117 (2), Cond.methodLink RX2 170 yJ9_floorDiv_f86c9, Cond.static yJ9_floorDiv_f86c9]
def wsX2_makeComposition_r3 : List Cond := [Cond.initialized RJ9, Cond.code yJ9_floorDiv_f86c9 cJ9_floorDiv_f86c9 6 (some .long), Cond.methodLink RX1 53 yX1_trim, Cond.instanceMethod yX1_trim, Cond.selects RX1 yX1_trim yX1_trim, Cond.code yX1_trim cX1_trim 2 none, Cond.methodLink RX2 164 yX1_error, Cond.instanceMethod yX1_error, Cond.selects RX1 yX1_error yX1_error, Cond.code yX1_error cX1_error 6 (some .long), Cond.constantLong RX1 29 (-9000000000000000002), Cond.methodLink RX1 31 Lib.MathLoose.abs_long.x, Cond.static Lib.MathLoose.abs_long.x, Cond.code Lib.MathLoose.abs_long.x Lib.MathLoose.abs_long.code 2 (some .long), Cond.constantLong RX1 37 (268435456), Cond.constantLong RX1 39 (-9000000000000000003), Cond.methodLink RX2 77 yX1_becomeSum, Cond.instanceMethod yX1_becomeSum, Cond.selects RX1 yX1_becomeSum yX1_becomeSum, Cond.code yX1_becomeSum cX1_becomeSum 6 none, Cond.methodLink RX2 52 yX1_put, Cond.methodLink RX2 56 yX1_trim, Cond.methodLink RX2 67 yX1_take, Cond.instanceMethod yX1_take]
def wsX2_makeComposition_r4 : List Cond := [Cond.selects RX1 yX1_take yX1_take, Cond.code yX1_take cX1_take 3 none]
def wsX2_makeComposition : List Cond := .code yX2_makeComposition cX2_makeComposition 6 (some .long) :: ((wsX2_makeComposition_r1 ++ (wsX2_makeComposition_r2 ++ (wsX2_makeComposition_r3 ++ wsX2_makeComposition_r4))) ++ wsX20 ++ wsX10)
def wsX2_compose_r1 : List Cond := [Cond.constantLong RX2 50 (-9000000000000000001), Cond.methodLink RX2 40 yX2_find, Cond.instanceMethod yX2_find, Cond.selects RX2 yX2_find yX2_find, Cond.initialized RX2, Cond.code yX2_find cX2_find 2 (some (.object "CosineSeries$Series")), Cond.fieldLink RX2 11 "CosineSeries" "stored" "[LCosineSeries$Series;", Cond.methodLink RX2 95 yX2_makeComposition, Cond.instanceMethod yX2_makeComposition, Cond.selects RX2 yX2_makeComposition yX2_makeComposition, Cond.code yX2_makeComposition cX2_makeComposition 6 (some .long), Cond.fieldLink RX2 34 "CosineSeries" "last" "LCosineSeries$Series;", Cond.fieldLink RX2 37 "CosineSeries" "lastButOne" "LCosineSeries$Series;", Cond.fieldLink RX2 27 "CosineSeries" "made" "LCosineSeries$Series;", Cond.methodLink RX2 112 yX1_clear, Cond.instanceMethod yX1_clear, Cond.selects RX1 yX1_clear yX1_clear, Cond.initialized RX1, Cond.code yX1_clear cX1_clear 1 none, Cond.fieldLink RX1 9 "CosineSeries$Series" "terms" "[J", Cond.fieldLink RX1 15 "CosineSeries$Series" "top" "I", Cond.methodLink RX1 19 yJ7_fill_d0a16, Cond.static yJ7_fill_d0a16, Cond.initialized RJ7]
def wsX2_compose_r2 : List Cond := [Cond.code yJ7_fill_d0a16 cJ7_fill_d0a16 5 none, Cond.methodLink RX2 59 yX1_top, Cond.instanceMethod yX1_top, Cond.selects RX1 yX1_top yX1_top, Cond.code yX1_top cX1_top 1 (some .int), Cond.methodLink RX2 63 yX1_at, Cond.instanceMethod yX1_at, Cond.selects RX1 yX1_at yX1_at, Cond.code yX1_at cX1_at 2 (some .long), Cond.methodLink RX2 180 yX2_makeStep, Cond.instanceMethod yX2_makeStep, Cond.selects RX2 yX2_makeStep yX2_makeStep, Cond.code yX2_makeStep cX2_makeStep 7 (some .long), Cond.fieldLink RX2 31 "CosineSeries" "product" "LCosineSeries$Series;", Cond.methodLink RX2 85 yX1_becomeProduct, Cond.instanceMethod yX1_becomeProduct, Cond.selects RX1 yX1_becomeProduct yX1_becomeProduct, Cond.code yX1_becomeProduct cX1_becomeProduct 8 none, Cond.methodLink RX1 63 Lib.Math.abs.name, Cond.static Lib.Math.abs.name, Cond.initialized "java/lang/Math", Cond.code Lib.Math.abs.name Lib.Math.abs.code 1 (some .int), Cond.constantLong RX1 66 (2097152), Cond.methodLink RX1 56 yX1_clear]
def wsX2_compose_r3 : List Cond := [Cond.methodLink RX1 25 yX1_at, Cond.methodLink RX1 59 yX1_put, Cond.instanceMethod yX1_put, Cond.selects RX1 yX1_put yX1_put, Cond.code yX1_put cX1_put 4 none, Cond.static yX2_rounded, Cond.code yX2_rounded cX2_rounded 8 (some .long), Cond.constantLong RX2 117 (2), Cond.methodLink RX2 170 yJ9_floorDiv_f86c9, Cond.static yJ9_floorDiv_f86c9, Cond.initialized RJ9, Cond.code yJ9_floorDiv_f86c9 cJ9_floorDiv_f86c9 6 (some .long), Cond.methodLink RX1 53 yX1_trim, Cond.instanceMethod yX1_trim, Cond.selects RX1 yX1_trim yX1_trim, Cond.code yX1_trim cX1_trim 2 none, Cond.methodLink RX2 164 yX1_error, Cond.instanceMethod yX1_error, Cond.selects RX1 yX1_error yX1_error, Cond.code yX1_error cX1_error 6 (some .long), Cond.constantLong RX1 29 (-9000000000000000002), Cond.methodLink RX1 31 Lib.MathLoose.abs_long.x, Cond.static Lib.MathLoose.abs_long.x, Cond.code Lib.MathLoose.abs_long.x Lib.MathLoose.abs_long.code 2 (some .long)]
def wsX2_compose_r4 : List Cond := [Cond.constantLong RX1 37 (268435456), Cond.constantLong RX1 39 (-9000000000000000003), Cond.methodLink RX2 77 yX1_becomeSum, Cond.instanceMethod yX1_becomeSum, Cond.selects RX1 yX1_becomeSum yX1_becomeSum, Cond.code yX1_becomeSum cX1_becomeSum 6 none, Cond.methodLink RX2 52 yX1_put, Cond.methodLink RX2 56 yX1_trim, Cond.methodLink RX2 67 yX1_take, Cond.instanceMethod yX1_take, Cond.selects RX1 yX1_take yX1_take, Cond.code yX1_take cX1_take 3 none, Cond.methodLink RX2 81 yX2_keepMade, Cond.instanceMethod yX2_keepMade, Cond.selects RX2 yX2_keepMade yX2_keepMade, Cond.code yX2_keepMade cX2_keepMade 4 (some .long)]
def wsX2_compose : List Cond := .code yX2_compose cX2_compose 9 (some .long) :: ((wsX2_compose_r1 ++ (wsX2_compose_r2 ++ (wsX2_compose_r3 ++ wsX2_compose_r4))) ++ wsX20 ++ wsX10)
def wsX2_divide_r1 : List Cond := [Cond.constant RX2 71 (-1048576), Cond.constant RX2 72 (1048576), Cond.constantLong RX2 50 (-9000000000000000001), Cond.fieldLink RX2 27 "CosineSeries" "made" "LCosineSeries$Series;", Cond.methodLink RX2 40 yX2_find, Cond.instanceMethod yX2_find, Cond.selects RX2 yX2_find yX2_find, Cond.initialized RX2, Cond.code yX2_find cX2_find 2 (some (.object "CosineSeries$Series")), Cond.fieldLink RX2 11 "CosineSeries" "stored" "[LCosineSeries$Series;", Cond.methodLink RX2 44 yX2_isOutside, Cond.static yX2_isOutside, Cond.code yX2_isOutside cX2_isOutside 3 (some .boolean), Cond.methodLink RX2 73 yX1_valueAt, Cond.instanceMethod yX1_valueAt, Cond.selects RX1 yX1_valueAt yX1_valueAt, Cond.initialized RX1, Cond.code yX1_valueAt cX1_valueAt 10 (some .long), Cond.fieldLink RX1 15 "CosineSeries$Series" "top" "I", Cond.constantLong RX1 41 (2), Cond.constantLong RX1 43 (1048576), Cond.methodLink RX1 25 yX1_at, Cond.instanceMethod yX1_at, Cond.selects RX1 yX1_at yX1_at]
def wsX2_divide_r2 : List Cond := [Cond.code yX1_at cX1_at 2 (some .long), Cond.fieldLink RX1 9 "CosineSeries$Series" "terms" "[J", Cond.static yX2_rounded, Cond.code yX2_rounded cX2_rounded 8 (some .long), Cond.constantLong RX2 117 (2), Cond.methodLink RX2 170 yJ9_floorDiv_f86c9, Cond.static yJ9_floorDiv_f86c9, Cond.initialized RJ9, Cond.code yJ9_floorDiv_f86c9 cJ9_floorDiv_f86c9 6 (some .long), Cond.methodLink RX2 99 yX1_becomeQuotient, Cond.instanceMethod yX1_becomeQuotient, Cond.selects RX1 yX1_becomeQuotient yX1_becomeQuotient, Cond.code yX1_becomeQuotient cX1_becomeQuotient 5 none, Cond.methodLink RX1 56 yX1_clear, Cond.instanceMethod yX1_clear, Cond.selects RX1 yX1_clear yX1_clear, Cond.code yX1_clear cX1_clear 1 none, Cond.methodLink RX1 19 yJ7_fill_d0a16, Cond.static yJ7_fill_d0a16, Cond.initialized RJ7, Cond.code yJ7_fill_d0a16 cJ7_fill_d0a16 5 none, Cond.methodLink RX1 59 yX1_put, Cond.instanceMethod yX1_put, Cond.selects RX1 yX1_put yX1_put]
def wsX2_divide_r3 : List Cond := [Cond.code yX1_put cX1_put 4 none, Cond.methodLink RX1 53 yX1_trim, Cond.instanceMethod yX1_trim, Cond.selects RX1 yX1_trim yX1_trim, Cond.code yX1_trim cX1_trim 2 none, Cond.methodLink RX2 81 yX2_keepMade, Cond.instanceMethod yX2_keepMade, Cond.selects RX2 yX2_keepMade yX2_keepMade, Cond.code yX2_keepMade cX2_keepMade 4 (some .long), Cond.methodLink RX2 164 yX1_error, Cond.instanceMethod yX1_error, Cond.selects RX1 yX1_error yX1_error, Cond.code yX1_error cX1_error 6 (some .long), Cond.constantLong RX1 29 (-9000000000000000002), Cond.methodLink RX1 31 Lib.MathLoose.abs_long.x, Cond.static Lib.MathLoose.abs_long.x, Cond.initialized "java/lang/Math", Cond.code Lib.MathLoose.abs_long.x Lib.MathLoose.abs_long.code 2 (some .long), Cond.constantLong RX1 37 (268435456), Cond.constantLong RX1 39 (-9000000000000000003), Cond.methodLink RX2 67 yX1_take, Cond.instanceMethod yX1_take, Cond.selects RX1 yX1_take yX1_take, Cond.code yX1_take cX1_take 3 none]
def wsX2_divide_r4 : List Cond := [Cond.methodLink RX2 59 yX1_top, Cond.instanceMethod yX1_top, Cond.selects RX1 yX1_top yX1_top, Cond.code yX1_top cX1_top 1 (some .int)]
def wsX2_divide : List Cond := .code yX2_divide cX2_divide 10 (some .long) :: ((wsX2_divide_r1 ++ (wsX2_divide_r2 ++ (wsX2_divide_r3 ++ wsX2_divide_r4))) ++ wsX20 ++ wsX10)
def wsX2_cut_r1 : List Cond := [Cond.constant RX2 103 (1000000000), Cond.constantLong RX2 50 (-9000000000000000001), Cond.methodLink RX2 40 yX2_find, Cond.instanceMethod yX2_find, Cond.selects RX2 yX2_find yX2_find, Cond.initialized RX2, Cond.code yX2_find cX2_find 2 (some (.object "CosineSeries$Series")), Cond.fieldLink RX2 11 "CosineSeries" "stored" "[LCosineSeries$Series;", Cond.methodLink RX2 44 yX2_isOutside, Cond.static yX2_isOutside, Cond.code yX2_isOutside cX2_isOutside 3 (some .boolean), Cond.methodLink RX2 59 yX1_top, Cond.instanceMethod yX1_top, Cond.selects RX1 yX1_top yX1_top, Cond.initialized RX1, Cond.code yX1_top cX1_top 1 (some .int), Cond.fieldLink RX1 15 "CosineSeries$Series" "top" "I", Cond.methodLink RX2 104 yX1_topWithin, Cond.instanceMethod yX1_topWithin, Cond.selects RX1 yX1_topWithin yX1_topWithin, Cond.code yX1_topWithin cX1_topWithin 5 (some .int), Cond.methodLink RX1 31 Lib.MathLoose.abs_long.x, Cond.static Lib.MathLoose.abs_long.x, Cond.initialized "java/lang/Math"]
def wsX2_cut_r2 : List Cond := [Cond.code Lib.MathLoose.abs_long.x Lib.MathLoose.abs_long.code 2 (some .long), Cond.methodLink RX1 25 yX1_at, Cond.instanceMethod yX1_at, Cond.selects RX1 yX1_at yX1_at, Cond.code yX1_at cX1_at 2 (some .long), Cond.fieldLink RX1 9 "CosineSeries$Series" "terms" "[J", Cond.methodLink RX2 108 yX1_dropAbove, Cond.instanceMethod yX1_dropAbove, Cond.selects RX1 yX1_dropAbove yX1_dropAbove, Cond.code yX1_dropAbove cX1_dropAbove 3 none, Cond.methodLink RX1 49 Lib.Math.max.name, Cond.static Lib.Math.max.name, Cond.code Lib.Math.max.name Lib.Math.max.code 2 (some .int), Cond.methodLink RX1 53 yX1_trim, Cond.instanceMethod yX1_trim, Cond.selects RX1 yX1_trim yX1_trim, Cond.code yX1_trim cX1_trim 2 none]
def wsX2_cut : List Cond := .code yX2_cut cX2_cut 5 (some .long) :: ((wsX2_cut_r1 ++ wsX2_cut_r2) ++ wsX20 ++ wsX10)
def wsX2_basis_r1 : List Cond := [Cond.constantLong RX2 50 (-9000000000000000001), Cond.constantLong RX2 115 (1048576), Cond.methodLink RX2 40 yX2_find, Cond.instanceMethod yX2_find, Cond.selects RX2 yX2_find yX2_find, Cond.initialized RX2, Cond.code yX2_find cX2_find 2 (some (.object "CosineSeries$Series")), Cond.fieldLink RX2 11 "CosineSeries" "stored" "[LCosineSeries$Series;", Cond.methodLink RX2 44 yX2_isOutside, Cond.static yX2_isOutside, Cond.code yX2_isOutside cX2_isOutside 3 (some .boolean), Cond.methodLink RX2 112 yX1_clear, Cond.instanceMethod yX1_clear, Cond.selects RX1 yX1_clear yX1_clear, Cond.initialized RX1, Cond.code yX1_clear cX1_clear 1 none, Cond.fieldLink RX1 9 "CosineSeries$Series" "terms" "[J", Cond.fieldLink RX1 15 "CosineSeries$Series" "top" "I", Cond.methodLink RX1 19 yJ7_fill_d0a16, Cond.static yJ7_fill_d0a16, Cond.initialized RJ7, Cond.code yJ7_fill_d0a16 cJ7_fill_d0a16 5 none, Cond.methodLink RX2 52 yX1_put, Cond.instanceMethod yX1_put]
def wsX2_basis_r2 : List Cond := [Cond.selects RX1 yX1_put yX1_put, Cond.code yX1_put cX1_put 4 none, Cond.methodLink RX2 56 yX1_trim, Cond.instanceMethod yX1_trim, Cond.selects RX1 yX1_trim yX1_trim, Cond.code yX1_trim cX1_trim 2 none]
def wsX2_basis : List Cond := .code yX2_basis cX2_basis 4 (some .long) :: ((wsX2_basis_r1 ++ wsX2_basis_r2) ++ wsX20 ++ wsX10)
def wsX2_integral_r1 : List Cond := [Cond.constantLong RX2 50 (-9000000000000000001), Cond.constantLong RX2 117 (2), Cond.constantLong RX2 119 (-2), Cond.methodLink RX2 40 yX2_find, Cond.instanceMethod yX2_find, Cond.selects RX2 yX2_find yX2_find, Cond.initialized RX2, Cond.code yX2_find cX2_find 2 (some (.object "CosineSeries$Series")), Cond.fieldLink RX2 11 "CosineSeries" "stored" "[LCosineSeries$Series;", Cond.methodLink RX2 63 yX1_at, Cond.instanceMethod yX1_at, Cond.selects RX1 yX1_at yX1_at, Cond.initialized RX1, Cond.code yX1_at cX1_at 2 (some .long), Cond.fieldLink RX1 9 "CosineSeries$Series" "terms" "[J", Cond.methodLink RX2 59 yX1_top, Cond.instanceMethod yX1_top, Cond.selects RX1 yX1_top yX1_top, Cond.code yX1_top cX1_top 1 (some .int), Cond.fieldLink RX1 15 "CosineSeries$Series" "top" "I", Cond.methodLink RX2 121 yX2_rounded, Cond.static yX2_rounded, Cond.code yX2_rounded cX2_rounded 8 (some .long), Cond.methodLink RX2 170 yJ9_floorDiv_f86c9]
def wsX2_integral_r2 : List Cond := [Cond.static yJ9_floorDiv_f86c9, Cond.initialized RJ9, Cond.code yJ9_floorDiv_f86c9 cJ9_floorDiv_f86c9 6 (some .long)]
def wsX2_integral : List Cond := .code yX2_integral cX2_integral 6 (some .long) :: ((wsX2_integral_r1 ++ wsX2_integral_r2) ++ wsX20 ++ wsX10)
def wsX2_inner : List Cond := .code yX2_inner cX2_inner 8 (some .long) :: ([.constantLong RX2 50 (-9000000000000000001), .constantLong RX2 117 (2), .constantLong RX2 115 (1048576), .methodLink RX2 40 yX2_find, .instanceMethod yX2_find, .selects RX2 yX2_find yX2_find, .initialized RX2, .code yX2_find cX2_find 2 (some (.object "CosineSeries$Series")), .fieldLink RX2 11 "CosineSeries" "stored" "[LCosineSeries$Series;", .methodLink RX2 63 yX1_at, .instanceMethod yX1_at, .selects RX1 yX1_at yX1_at, .initialized RX1, .code yX1_at cX1_at 2 (some .long), .fieldLink RX1 9 "CosineSeries$Series" "terms" "[J", .methodLink RX2 121 yX2_rounded, .static yX2_rounded, .code yX2_rounded cX2_rounded 8 (some .long), .methodLink RX2 170 yJ9_floorDiv_f86c9, .static yJ9_floorDiv_f86c9, .initialized RJ9, .code yJ9_floorDiv_f86c9 cJ9_floorDiv_f86c9 6 (some .long)] ++ wsX20 ++ wsX10)
def wsX2_bound : List Cond := .code yX2_bound cX2_bound 6 (some .long) :: ([.constantLong RX2 50 (-9000000000000000001), .methodLink RX2 125 Lib.MathLoose.abs_long.x, .static Lib.MathLoose.abs_long.x, .initialized "java/lang/Math", .code Lib.MathLoose.abs_long.x Lib.MathLoose.abs_long.code 2 (some .long), .methodLink RX2 40 yX2_find, .instanceMethod yX2_find, .selects RX2 yX2_find yX2_find, .initialized RX2, .code yX2_find cX2_find 2 (some (.object "CosineSeries$Series")), .fieldLink RX2 11 "CosineSeries" "stored" "[LCosineSeries$Series;", .methodLink RX2 63 yX1_at, .instanceMethod yX1_at, .selects RX1 yX1_at yX1_at, .initialized RX1, .code yX1_at cX1_at 2 (some .long), .fieldLink RX1 9 "CosineSeries$Series" "terms" "[J"] ++ wsX20 ++ wsX10)
def wsX2_degreeWith_r1 : List Cond := [Cond.constant RX2 103 (1000000000), Cond.constantLong RX2 50 (-9000000000000000001), Cond.methodLink RX2 40 yX2_find, Cond.instanceMethod yX2_find, Cond.selects RX2 yX2_find yX2_find, Cond.initialized RX2, Cond.code yX2_find cX2_find 2 (some (.object "CosineSeries$Series")), Cond.fieldLink RX2 11 "CosineSeries" "stored" "[LCosineSeries$Series;", Cond.methodLink RX2 44 yX2_isOutside, Cond.static yX2_isOutside, Cond.code yX2_isOutside cX2_isOutside 3 (some .boolean), Cond.methodLink RX2 104 yX1_topWithin, Cond.instanceMethod yX1_topWithin, Cond.selects RX1 yX1_topWithin yX1_topWithin, Cond.initialized RX1, Cond.code yX1_topWithin cX1_topWithin 5 (some .int), Cond.fieldLink RX1 15 "CosineSeries$Series" "top" "I", Cond.methodLink RX1 31 Lib.MathLoose.abs_long.x, Cond.static Lib.MathLoose.abs_long.x, Cond.initialized "java/lang/Math", Cond.code Lib.MathLoose.abs_long.x Lib.MathLoose.abs_long.code 2 (some .long), Cond.methodLink RX1 25 yX1_at, Cond.instanceMethod yX1_at, Cond.selects RX1 yX1_at yX1_at]
def wsX2_degreeWith_r2 : List Cond := [Cond.code yX1_at cX1_at 2 (some .long), Cond.fieldLink RX1 9 "CosineSeries$Series" "terms" "[J"]
def wsX2_degreeWith : List Cond := .code yX2_degreeWith cX2_degreeWith 4 (some .long) :: ((wsX2_degreeWith_r1 ++ wsX2_degreeWith_r2) ++ wsX20 ++ wsX10)
def wsX2_byValue_r1 : List Cond := [Cond.constantLong RX2 50 (-9000000000000000001), Cond.constantLong RX2 133 (-9000000000000000004), Cond.methodLink RX2 40 yX2_find, Cond.instanceMethod yX2_find, Cond.selects RX2 yX2_find yX2_find, Cond.initialized RX2, Cond.code yX2_find cX2_find 2 (some (.object "CosineSeries$Series")), Cond.fieldLink RX2 11 "CosineSeries" "stored" "[LCosineSeries$Series;", Cond.methodLink RX2 44 yX2_isOutside, Cond.static yX2_isOutside, Cond.code yX2_isOutside cX2_isOutside 3 (some .boolean), Cond.methodLink RX2 59 yX1_top, Cond.instanceMethod yX1_top, Cond.selects RX1 yX1_top yX1_top, Cond.initialized RX1, Cond.code yX1_top cX1_top 1 (some .int), Cond.fieldLink RX1 15 "CosineSeries$Series" "top" "I", Cond.methodLink RX2 130 yX1_placeOf, Cond.instanceMethod yX1_placeOf, Cond.selects RX1 yX1_placeOf yX1_placeOf, Cond.code yX1_placeOf cX1_placeOf 8 (some .int), Cond.methodLink RX1 31 Lib.MathLoose.abs_long.x, Cond.static Lib.MathLoose.abs_long.x, Cond.initialized "java/lang/Math"]
def wsX2_byValue_r2 : List Cond := [Cond.code Lib.MathLoose.abs_long.x Lib.MathLoose.abs_long.code 2 (some .long), Cond.methodLink RX1 25 yX1_at, Cond.instanceMethod yX1_at, Cond.selects RX1 yX1_at yX1_at, Cond.code yX1_at cX1_at 2 (some .long), Cond.fieldLink RX1 9 "CosineSeries$Series" "terms" "[J"]
def wsX2_byValue : List Cond := .code yX2_byValue cX2_byValue 5 (some .long) :: ((wsX2_byValue_r1 ++ wsX2_byValue_r2) ++ wsX20 ++ wsX10)
def wsX2_setValue : List Cond := .code yX2_setValue cX2_setValue 5 (some .long) :: ([.constant RX2 135 (-134217728), .constant RX2 136 (134217728), .constantLong RX2 50 (-9000000000000000001), .fieldLink RX2 15 "CosineSeries" "pointValues" "[J", .methodLink RX2 44 yX2_isOutside, .static yX2_isOutside, .initialized RX2, .code yX2_isOutside cX2_isOutside 3 (some .boolean)] ++ wsX20)
def wsX2_cosine : List Cond := .code yX2_cosine cX2_cosine 3 (some .int) :: ([.fieldLink RX2 173 "CosineSeries" "COSINES" "[I", .methodLink RX2 44 yX2_isOutside, .static yX2_isOutside, .initialized RX2, .code yX2_isOutside cX2_isOutside 3 (some .boolean)])
def wsX2_pointAt : List Cond := .code yX2_pointAt cX2_pointAt 2 (some .int) :: ([.methodLink RX2 177 yX2_cosine, .static yX2_cosine, .initialized RX2, .code yX2_cosine cX2_cosine 3 (some .int), .fieldLink RX2 173 "CosineSeries" "COSINES" "[I", .methodLink RX2 44 yX2_isOutside, .static yX2_isOutside, .code yX2_isOutside cX2_isOutside 3 (some .boolean)])
def wsX2_cosineSum : List Cond := .code yX2_cosineSum cX2_cosineSum 8 (some .long) :: ([.fieldLink RX2 15 "CosineSeries" "pointValues" "[J", .methodLink RX2 141 yX2_pointAt, .static yX2_pointAt, .initialized RX2, .code yX2_pointAt cX2_pointAt 2 (some .int), .methodLink RX2 177 yX2_cosine, .static yX2_cosine, .code yX2_cosine cX2_cosine 3 (some .int), .fieldLink RX2 173 "CosineSeries" "COSINES" "[I", .methodLink RX2 44 yX2_isOutside, .static yX2_isOutside, .code yX2_isOutside cX2_isOutside 3 (some .boolean)] ++ wsX20)
def wsX2_interpolate_r1 : List Cond := [Cond.constantLong RX2 50 (-9000000000000000001), Cond.fieldLink RX2 27 "CosineSeries" "made" "LCosineSeries$Series;", Cond.constantLong RX2 117 (2), Cond.constantLong RX2 115 (1048576), Cond.methodLink RX2 40 yX2_find, Cond.instanceMethod yX2_find, Cond.selects RX2 yX2_find yX2_find, Cond.initialized RX2, Cond.code yX2_find cX2_find 2 (some (.object "CosineSeries$Series")), Cond.fieldLink RX2 11 "CosineSeries" "stored" "[LCosineSeries$Series;", Cond.methodLink RX2 44 yX2_isOutside, Cond.static yX2_isOutside, Cond.code yX2_isOutside cX2_isOutside 3 (some .boolean), Cond.methodLink RX2 112 yX1_clear, Cond.instanceMethod yX1_clear, Cond.selects RX1 yX1_clear yX1_clear, Cond.initialized RX1, Cond.code yX1_clear cX1_clear 1 none, Cond.fieldLink RX1 9 "CosineSeries$Series" "terms" "[J", Cond.fieldLink RX1 15 "CosineSeries$Series" "top" "I", Cond.methodLink RX1 19 yJ7_fill_d0a16, Cond.static yJ7_fill_d0a16, Cond.initialized RJ7, Cond.code yJ7_fill_d0a16 cJ7_fill_d0a16 5 none]
def wsX2_interpolate_r2 : List Cond := [Cond.methodLink RX2 137 yX2_cosineSum, Cond.instanceMethod yX2_cosineSum, Cond.selects RX2 yX2_cosineSum yX2_cosineSum, Cond.code yX2_cosineSum cX2_cosineSum 8 (some .long), Cond.fieldLink RX2 15 "CosineSeries" "pointValues" "[J", Cond.methodLink RX2 141 yX2_pointAt, Cond.static yX2_pointAt, Cond.code yX2_pointAt cX2_pointAt 2 (some .int), Cond.methodLink RX2 177 yX2_cosine, Cond.static yX2_cosine, Cond.code yX2_cosine cX2_cosine 3 (some .int), Cond.fieldLink RX2 173 "CosineSeries" "COSINES" "[I", Cond.methodLink RX2 121 yX2_rounded, Cond.static yX2_rounded, Cond.code yX2_rounded cX2_rounded 8 (some .long), Cond.methodLink RX2 170 yJ9_floorDiv_f86c9, Cond.static yJ9_floorDiv_f86c9, Cond.initialized RJ9, Cond.code yJ9_floorDiv_f86c9 cJ9_floorDiv_f86c9 6 (some .long), Cond.methodLink RX2 52 yX1_put, Cond.instanceMethod yX1_put, Cond.selects RX1 yX1_put yX1_put, Cond.code yX1_put cX1_put 4 none, Cond.methodLink RX2 56 yX1_trim]
def wsX2_interpolate_r3 : List Cond := [Cond.instanceMethod yX1_trim, Cond.selects RX1 yX1_trim yX1_trim, Cond.code yX1_trim cX1_trim 2 none, Cond.methodLink RX2 81 yX2_keepMade, Cond.instanceMethod yX2_keepMade, Cond.selects RX2 yX2_keepMade yX2_keepMade, Cond.code yX2_keepMade cX2_keepMade 4 (some .long), Cond.methodLink RX2 164 yX1_error, Cond.instanceMethod yX1_error, Cond.selects RX1 yX1_error yX1_error, Cond.code yX1_error cX1_error 6 (some .long), Cond.constantLong RX1 29 (-9000000000000000002), Cond.methodLink RX1 31 Lib.MathLoose.abs_long.x, Cond.static Lib.MathLoose.abs_long.x, Cond.initialized "java/lang/Math", Cond.code Lib.MathLoose.abs_long.x Lib.MathLoose.abs_long.code 2 (some .long), Cond.constantLong RX1 37 (268435456), Cond.constantLong RX1 39 (-9000000000000000003), Cond.methodLink RX2 67 yX1_take, Cond.instanceMethod yX1_take, Cond.selects RX1 yX1_take yX1_take, Cond.code yX1_take cX1_take 3 none, Cond.methodLink RX1 25 yX1_at, Cond.instanceMethod yX1_at]
def wsX2_interpolate_r4 : List Cond := [Cond.selects RX1 yX1_at yX1_at, Cond.code yX1_at cX1_at 2 (some .long), Cond.methodLink RX2 59 yX1_top, Cond.instanceMethod yX1_top, Cond.selects RX1 yX1_top yX1_top, Cond.code yX1_top cX1_top 1 (some .int)]
def wsX2_interpolate : List Cond := .code yX2_interpolate cX2_interpolate 7 (some .long) :: ((wsX2_interpolate_r1 ++ (wsX2_interpolate_r2 ++ (wsX2_interpolate_r3 ++ wsX2_interpolate_r4))) ++ wsX20 ++ wsX10)
def wsX2_sample_r1 : List Cond := [Cond.constantLong RX2 50 (-9000000000000000001), Cond.methodLink RX2 125 Lib.MathLoose.abs_long.x, Cond.static Lib.MathLoose.abs_long.x, Cond.initialized "java/lang/Math", Cond.code Lib.MathLoose.abs_long.x Lib.MathLoose.abs_long.code 2 (some .long), Cond.constantLong RX2 145 (134217728), Cond.constantLong RX2 147 (-9000000000000000003), Cond.fieldLink RX2 15 "CosineSeries" "pointValues" "[J", Cond.methodLink RX2 40 yX2_find, Cond.instanceMethod yX2_find, Cond.selects RX2 yX2_find yX2_find, Cond.initialized RX2, Cond.code yX2_find cX2_find 2 (some (.object "CosineSeries$Series")), Cond.fieldLink RX2 11 "CosineSeries" "stored" "[LCosineSeries$Series;", Cond.methodLink RX2 44 yX2_isOutside, Cond.static yX2_isOutside, Cond.code yX2_isOutside cX2_isOutside 3 (some .boolean), Cond.methodLink RX2 141 yX2_pointAt, Cond.static yX2_pointAt, Cond.code yX2_pointAt cX2_pointAt 2 (some .int), Cond.methodLink RX2 177 yX2_cosine, Cond.static yX2_cosine, Cond.code yX2_cosine cX2_cosine 3 (some .int), Cond.fieldLink RX2 173 "CosineSeries" "COSINES" "[I"]
def wsX2_sample_r2 : List Cond := [Cond.methodLink RX2 73 yX1_valueAt, Cond.instanceMethod yX1_valueAt, Cond.selects RX1 yX1_valueAt yX1_valueAt, Cond.initialized RX1, Cond.code yX1_valueAt cX1_valueAt 10 (some .long), Cond.fieldLink RX1 15 "CosineSeries$Series" "top" "I", Cond.constantLong RX1 41 (2), Cond.constantLong RX1 43 (1048576), Cond.methodLink RX1 25 yX1_at, Cond.instanceMethod yX1_at, Cond.selects RX1 yX1_at yX1_at, Cond.code yX1_at cX1_at 2 (some .long), Cond.fieldLink RX1 9 "CosineSeries$Series" "terms" "[J", Cond.static yX2_rounded, Cond.code yX2_rounded cX2_rounded 8 (some .long), Cond.constantLong RX2 117 (2), Cond.methodLink RX2 170 yJ9_floorDiv_f86c9, Cond.static yJ9_floorDiv_f86c9, Cond.initialized RJ9, Cond.code yJ9_floorDiv_f86c9 cJ9_floorDiv_f86c9 6 (some .long)]
def wsX2_sample : List Cond := .code yX2_sample cX2_sample 6 (some .long) :: ((wsX2_sample_r1 ++ wsX2_sample_r2) ++ wsX20 ++ wsX10)
def wsX2_misfit_r1 : List Cond := [Cond.constantLong RX2 50 (-9000000000000000001), Cond.fieldLink RX2 15 "CosineSeries" "pointValues" "[J", Cond.methodLink RX2 125 Lib.MathLoose.abs_long.x, Cond.static Lib.MathLoose.abs_long.x, Cond.initialized "java/lang/Math", Cond.code Lib.MathLoose.abs_long.x Lib.MathLoose.abs_long.code 2 (some .long), Cond.methodLink RX2 149 Lib.MathLoose.max_long.x, Cond.static Lib.MathLoose.max_long.x, Cond.code Lib.MathLoose.max_long.x Lib.MathLoose.max_long.code 4 (some .long), Cond.methodLink RX2 40 yX2_find, Cond.instanceMethod yX2_find, Cond.selects RX2 yX2_find yX2_find, Cond.initialized RX2, Cond.code yX2_find cX2_find 2 (some (.object "CosineSeries$Series")), Cond.fieldLink RX2 11 "CosineSeries" "stored" "[LCosineSeries$Series;", Cond.methodLink RX2 44 yX2_isOutside, Cond.static yX2_isOutside, Cond.code yX2_isOutside cX2_isOutside 3 (some .boolean), Cond.methodLink RX2 141 yX2_pointAt, Cond.static yX2_pointAt, Cond.code yX2_pointAt cX2_pointAt 2 (some .int), Cond.methodLink RX2 177 yX2_cosine, Cond.static yX2_cosine, Cond.code yX2_cosine cX2_cosine 3 (some .int)]
def wsX2_misfit_r2 : List Cond := [Cond.fieldLink RX2 173 "CosineSeries" "COSINES" "[I", Cond.methodLink RX2 73 yX1_valueAt, Cond.instanceMethod yX1_valueAt, Cond.selects RX1 yX1_valueAt yX1_valueAt, Cond.initialized RX1, Cond.code yX1_valueAt cX1_valueAt 10 (some .long), Cond.fieldLink RX1 15 "CosineSeries$Series" "top" "I", Cond.constantLong RX1 41 (2), Cond.constantLong RX1 43 (1048576), Cond.methodLink RX1 25 yX1_at, Cond.instanceMethod yX1_at, Cond.selects RX1 yX1_at yX1_at, Cond.code yX1_at cX1_at 2 (some .long), Cond.fieldLink RX1 9 "CosineSeries$Series" "terms" "[J", Cond.static yX2_rounded, Cond.code yX2_rounded cX2_rounded 8 (some .long), Cond.constantLong RX2 117 (2), Cond.methodLink RX2 170 yJ9_floorDiv_f86c9, Cond.static yJ9_floorDiv_f86c9, Cond.initialized RJ9, Cond.code yJ9_floorDiv_f86c9 cJ9_floorDiv_f86c9 6 (some .long)]
def wsX2_misfit : List Cond := .code yX2_misfit cX2_misfit 8 (some .long) :: ((wsX2_misfit_r1 ++ wsX2_misfit_r2) ++ wsX20 ++ wsX10)
def wsX2_extremePoint : List Cond := .code yX2_extremePoint cX2_extremePoint 3 (some .long) :: ([.constantLong RX2 50 (-9000000000000000001), .methodLink RX2 44 yX2_isOutside, .static yX2_isOutside, .initialized RX2, .code yX2_isOutside cX2_isOutside 3 (some .boolean), .methodLink RX2 141 yX2_pointAt, .static yX2_pointAt, .code yX2_pointAt cX2_pointAt 2 (some .int), .methodLink RX2 177 yX2_cosine, .static yX2_cosine, .code yX2_cosine cX2_cosine 3 (some .int), .fieldLink RX2 173 "CosineSeries" "COSINES" "[I"])
def wsX2_root_r1 : List Cond := [Cond.constantLong RX2 50 (-9000000000000000001), Cond.fieldLink RX2 22 "CosineSeries" "search" "LCosineSeries$RootSearch;", Cond.constantLong RX2 133 (-9000000000000000004), Cond.methodLink RX2 40 yX2_find, Cond.instanceMethod yX2_find, Cond.selects RX2 yX2_find yX2_find, Cond.initialized RX2, Cond.code yX2_find cX2_find 2 (some (.object "CosineSeries$Series")), Cond.fieldLink RX2 11 "CosineSeries" "stored" "[LCosineSeries$Series;", Cond.methodLink RX2 152 yX0_run, Cond.instanceMethod yX0_run, Cond.selects RX0 yX0_run yX0_run, Cond.initialized RX0, Cond.code yX0_run cX0_run 11 none, Cond.fieldLink RX0 18 "CosineSeries$RootSearch" "count" "I", Cond.fieldLink RX0 22 "CosineSeries$RootSearch" "lookedAt" "I", Cond.fieldLink RX0 29 "CosineSeries$RootSearch" "waiting" "I", Cond.constantLong RX0 32 (1048576), Cond.constantLong RX0 38 (-1048576), Cond.methodLink RX0 50 Lib.MathLoose.max_long.x, Cond.static Lib.MathLoose.max_long.x, Cond.initialized "java/lang/Math", Cond.code Lib.MathLoose.max_long.x Lib.MathLoose.max_long.code 4 (some .long), Cond.constantLong RX0 58 (16)]
def wsX2_root_r2 : List Cond := [Cond.methodLink RX0 25 yX0_steepnessOf, Cond.static yX0_steepnessOf, Cond.code yX0_steepnessOf cX0_steepnessOf 4 (some .long), Cond.methodLink RX0 74 Lib.MathLoose.abs_long.x, Cond.static Lib.MathLoose.abs_long.x, Cond.code Lib.MathLoose.abs_long.x Lib.MathLoose.abs_long.code 2 (some .long), Cond.methodLink RX0 64 yX1_top, Cond.instanceMethod yX1_top, Cond.selects RX1 yX1_top yX1_top, Cond.initialized RX1, Cond.code yX1_top cX1_top 1 (some .int), Cond.fieldLink RX1 15 "CosineSeries$Series" "top" "I", Cond.methodLink RX0 70 yX1_at, Cond.instanceMethod yX1_at, Cond.selects RX1 yX1_at yX1_at, Cond.code yX1_at cX1_at 2 (some .long), Cond.fieldLink RX1 9 "CosineSeries$Series" "terms" "[J", Cond.methodLink RX0 34 yX0_push, Cond.instanceMethod yX0_push, Cond.selects RX0 yX0_push yX0_push, Cond.code yX0_push cX0_push 3 none, Cond.fieldLink RX0 15 "CosineSeries$RootSearch" "ends" "[J", Cond.methodLink RX0 40 yX0_nextEnd, Cond.instanceMethod yX0_nextEnd]
def wsX2_root_r3 : List Cond := [Cond.selects RX0 yX0_nextEnd yX0_nextEnd, Cond.code yX0_nextEnd cX0_nextEnd 2 (some .long), Cond.methodLink RX0 44 yJ9_floorDiv_b2ac5, Cond.static yJ9_floorDiv_b2ac5, Cond.initialized RJ9, Cond.code yJ9_floorDiv_b2ac5 cJ9_floorDiv_b2ac5 3 (some .long), Cond.methodLink RJ9 143 yJ9_floorDiv_f86c9, Cond.static yJ9_floorDiv_f86c9, Cond.code yJ9_floorDiv_f86c9 cJ9_floorDiv_f86c9 6 (some .long), Cond.methodLink RX0 54 yX0_isFree, Cond.static yX0_isFree, Cond.code yX0_isFree cX0_isFree 9 (some .boolean), Cond.constantLong RX0 78 (8), Cond.methodLink RX0 80 yX1_valueAt, Cond.instanceMethod yX1_valueAt, Cond.selects RX1 yX1_valueAt yX1_valueAt, Cond.code yX1_valueAt cX1_valueAt 10 (some .long), Cond.constantLong RX1 41 (2), Cond.constantLong RX1 43 (1048576), Cond.methodLink RX1 25 yX1_at, Cond.static yX2_rounded, Cond.code yX2_rounded cX2_rounded 8 (some .long), Cond.constantLong RX2 117 (2), Cond.methodLink RX2 170 yJ9_floorDiv_f86c9]
def wsX2_root_r4 : List Cond := [Cond.methodLink RX0 60 yX0_note, Cond.instanceMethod yX0_note, Cond.selects RX0 yX0_note yX0_note, Cond.code yX0_note cX0_note 5 none, Cond.fieldLink RX0 11 "CosineSeries$RootSearch" "roots" "[J", Cond.methodLink RX0 86 yX0_found, Cond.instanceMethod yX0_found, Cond.selects RX0 yX0_found yX0_found, Cond.code yX0_found cX0_found 2 (some .long), Cond.methodLink RX2 155 yX0_count, Cond.instanceMethod yX0_count, Cond.selects RX0 yX0_count yX0_count, Cond.code yX0_count cX0_count 1 (some .int), Cond.methodLink RX2 158 yX0_found]
def wsX2_root : List Cond := .code yX2_root cX2_root 4 (some .long) :: ((wsX2_root_r1 ++ (wsX2_root_r2 ++ (wsX2_root_r3 ++ wsX2_root_r4))) ++ wsX20 ++ wsX00 ++ wsX10)
def wsX2_intervals_r1 : List Cond := [Cond.constantLong RX2 50 (-9000000000000000001), Cond.fieldLink RX2 22 "CosineSeries" "search" "LCosineSeries$RootSearch;", Cond.methodLink RX2 40 yX2_find, Cond.instanceMethod yX2_find, Cond.selects RX2 yX2_find yX2_find, Cond.initialized RX2, Cond.code yX2_find cX2_find 2 (some (.object "CosineSeries$Series")), Cond.fieldLink RX2 11 "CosineSeries" "stored" "[LCosineSeries$Series;", Cond.methodLink RX2 152 yX0_run, Cond.instanceMethod yX0_run, Cond.selects RX0 yX0_run yX0_run, Cond.initialized RX0, Cond.code yX0_run cX0_run 11 none, Cond.fieldLink RX0 18 "CosineSeries$RootSearch" "count" "I", Cond.fieldLink RX0 22 "CosineSeries$RootSearch" "lookedAt" "I", Cond.fieldLink RX0 29 "CosineSeries$RootSearch" "waiting" "I", Cond.constantLong RX0 32 (1048576), Cond.constantLong RX0 38 (-1048576), Cond.methodLink RX0 50 Lib.MathLoose.max_long.x, Cond.static Lib.MathLoose.max_long.x, Cond.initialized "java/lang/Math", Cond.code Lib.MathLoose.max_long.x Lib.MathLoose.max_long.code 4 (some .long), Cond.constantLong RX0 58 (16), Cond.methodLink RX0 25 yX0_steepnessOf]
def wsX2_intervals_r2 : List Cond := [Cond.static yX0_steepnessOf, Cond.code yX0_steepnessOf cX0_steepnessOf 4 (some .long), Cond.methodLink RX0 74 Lib.MathLoose.abs_long.x, Cond.static Lib.MathLoose.abs_long.x, Cond.code Lib.MathLoose.abs_long.x Lib.MathLoose.abs_long.code 2 (some .long), Cond.methodLink RX0 64 yX1_top, Cond.instanceMethod yX1_top, Cond.selects RX1 yX1_top yX1_top, Cond.initialized RX1, Cond.code yX1_top cX1_top 1 (some .int), Cond.fieldLink RX1 15 "CosineSeries$Series" "top" "I", Cond.methodLink RX0 70 yX1_at, Cond.instanceMethod yX1_at, Cond.selects RX1 yX1_at yX1_at, Cond.code yX1_at cX1_at 2 (some .long), Cond.fieldLink RX1 9 "CosineSeries$Series" "terms" "[J", Cond.methodLink RX0 34 yX0_push, Cond.instanceMethod yX0_push, Cond.selects RX0 yX0_push yX0_push, Cond.code yX0_push cX0_push 3 none, Cond.fieldLink RX0 15 "CosineSeries$RootSearch" "ends" "[J", Cond.methodLink RX0 40 yX0_nextEnd, Cond.instanceMethod yX0_nextEnd, Cond.selects RX0 yX0_nextEnd yX0_nextEnd]
def wsX2_intervals_r3 : List Cond := [Cond.code yX0_nextEnd cX0_nextEnd 2 (some .long), Cond.methodLink RX0 44 yJ9_floorDiv_b2ac5, Cond.static yJ9_floorDiv_b2ac5, Cond.initialized RJ9, Cond.code yJ9_floorDiv_b2ac5 cJ9_floorDiv_b2ac5 3 (some .long), Cond.methodLink RJ9 143 yJ9_floorDiv_f86c9, Cond.static yJ9_floorDiv_f86c9, Cond.code yJ9_floorDiv_f86c9 cJ9_floorDiv_f86c9 6 (some .long), Cond.methodLink RX0 54 yX0_isFree, Cond.static yX0_isFree, Cond.code yX0_isFree cX0_isFree 9 (some .boolean), Cond.constantLong RX0 78 (8), Cond.methodLink RX0 80 yX1_valueAt, Cond.instanceMethod yX1_valueAt, Cond.selects RX1 yX1_valueAt yX1_valueAt, Cond.code yX1_valueAt cX1_valueAt 10 (some .long), Cond.constantLong RX1 41 (2), Cond.constantLong RX1 43 (1048576), Cond.methodLink RX1 25 yX1_at, Cond.static yX2_rounded, Cond.code yX2_rounded cX2_rounded 8 (some .long), Cond.constantLong RX2 117 (2), Cond.methodLink RX2 170 yJ9_floorDiv_f86c9, Cond.methodLink RX0 60 yX0_note]
def wsX2_intervals_r4 : List Cond := [Cond.instanceMethod yX0_note, Cond.selects RX0 yX0_note yX0_note, Cond.code yX0_note cX0_note 5 none, Cond.fieldLink RX0 11 "CosineSeries$RootSearch" "roots" "[J", Cond.methodLink RX0 86 yX0_found, Cond.instanceMethod yX0_found, Cond.selects RX0 yX0_found yX0_found, Cond.code yX0_found cX0_found 2 (some .long), Cond.methodLink RX2 161 yX0_lookedAt, Cond.instanceMethod yX0_lookedAt, Cond.selects RX0 yX0_lookedAt yX0_lookedAt, Cond.code yX0_lookedAt cX0_lookedAt 1 (some .int)]
def wsX2_intervals : List Cond := .code yX2_intervals cX2_intervals 3 (some .long) :: ((wsX2_intervals_r1 ++ (wsX2_intervals_r2 ++ (wsX2_intervals_r3 ++ wsX2_intervals_r4))) ++ wsX20 ++ wsX00 ++ wsX10)
def wsX2_greatest_r1 : List Cond := [Cond.constantLong RX2 50 (-9000000000000000001), Cond.fieldLink RX2 27 "CosineSeries" "made" "LCosineSeries$Series;", Cond.fieldLink RX2 22 "CosineSeries" "search" "LCosineSeries$RootSearch;", Cond.constantLong RX2 168 (-1048576), Cond.constantLong RX2 115 (1048576), Cond.methodLink RX2 149 Lib.MathLoose.max_long.x, Cond.static Lib.MathLoose.max_long.x, Cond.initialized "java/lang/Math", Cond.code Lib.MathLoose.max_long.x Lib.MathLoose.max_long.code 4 (some .long), Cond.methodLink RX2 40 yX2_find, Cond.instanceMethod yX2_find, Cond.selects RX2 yX2_find yX2_find, Cond.initialized RX2, Cond.code yX2_find cX2_find 2 (some (.object "CosineSeries$Series")), Cond.fieldLink RX2 11 "CosineSeries" "stored" "[LCosineSeries$Series;", Cond.methodLink RX2 89 yX1_becomeDerivative, Cond.instanceMethod yX1_becomeDerivative, Cond.selects RX1 yX1_becomeDerivative yX1_becomeDerivative, Cond.initialized RX1, Cond.code yX1_becomeDerivative cX1_becomeDerivative 3 none, Cond.fieldLink RX1 15 "CosineSeries$Series" "top" "I", Cond.constantLong RX1 41 (2), Cond.methodLink RX1 56 yX1_clear, Cond.instanceMethod yX1_clear]
def wsX2_greatest_r2 : List Cond := [Cond.selects RX1 yX1_clear yX1_clear, Cond.code yX1_clear cX1_clear 1 none, Cond.fieldLink RX1 9 "CosineSeries$Series" "terms" "[J", Cond.methodLink RX1 19 yJ7_fill_d0a16, Cond.static yJ7_fill_d0a16, Cond.initialized RJ7, Cond.code yJ7_fill_d0a16 cJ7_fill_d0a16 5 none, Cond.methodLink RX1 25 yX1_at, Cond.instanceMethod yX1_at, Cond.selects RX1 yX1_at yX1_at, Cond.code yX1_at cX1_at 2 (some .long), Cond.methodLink RX1 59 yX1_put, Cond.instanceMethod yX1_put, Cond.selects RX1 yX1_put yX1_put, Cond.code yX1_put cX1_put 4 none, Cond.static yX2_rounded, Cond.code yX2_rounded cX2_rounded 8 (some .long), Cond.constantLong RX2 117 (2), Cond.methodLink RX2 170 yJ9_floorDiv_f86c9, Cond.static yJ9_floorDiv_f86c9, Cond.initialized RJ9, Cond.code yJ9_floorDiv_f86c9 cJ9_floorDiv_f86c9 6 (some .long), Cond.methodLink RX1 53 yX1_trim, Cond.instanceMethod yX1_trim]
def wsX2_greatest_r3 : List Cond := [Cond.selects RX1 yX1_trim yX1_trim, Cond.code yX1_trim cX1_trim 2 none, Cond.methodLink RX2 164 yX1_error, Cond.instanceMethod yX1_error, Cond.selects RX1 yX1_error yX1_error, Cond.code yX1_error cX1_error 6 (some .long), Cond.constantLong RX1 29 (-9000000000000000002), Cond.methodLink RX1 31 Lib.MathLoose.abs_long.x, Cond.static Lib.MathLoose.abs_long.x, Cond.code Lib.MathLoose.abs_long.x Lib.MathLoose.abs_long.code 2 (some .long), Cond.constantLong RX1 37 (268435456), Cond.constantLong RX1 39 (-9000000000000000003), Cond.methodLink RX2 152 yX0_run, Cond.instanceMethod yX0_run, Cond.selects RX0 yX0_run yX0_run, Cond.initialized RX0, Cond.code yX0_run cX0_run 11 none, Cond.fieldLink RX0 18 "CosineSeries$RootSearch" "count" "I", Cond.fieldLink RX0 22 "CosineSeries$RootSearch" "lookedAt" "I", Cond.fieldLink RX0 29 "CosineSeries$RootSearch" "waiting" "I", Cond.constantLong RX0 32 (1048576), Cond.constantLong RX0 38 (-1048576), Cond.methodLink RX0 50 Lib.MathLoose.max_long.x, Cond.constantLong RX0 58 (16)]
def wsX2_greatest_r4 : List Cond := [Cond.methodLink RX0 25 yX0_steepnessOf, Cond.static yX0_steepnessOf, Cond.code yX0_steepnessOf cX0_steepnessOf 4 (some .long), Cond.methodLink RX0 74 Lib.MathLoose.abs_long.x, Cond.methodLink RX0 64 yX1_top, Cond.instanceMethod yX1_top, Cond.selects RX1 yX1_top yX1_top, Cond.code yX1_top cX1_top 1 (some .int), Cond.methodLink RX0 70 yX1_at, Cond.methodLink RX0 34 yX0_push, Cond.instanceMethod yX0_push, Cond.selects RX0 yX0_push yX0_push, Cond.code yX0_push cX0_push 3 none, Cond.fieldLink RX0 15 "CosineSeries$RootSearch" "ends" "[J", Cond.methodLink RX0 40 yX0_nextEnd, Cond.instanceMethod yX0_nextEnd, Cond.selects RX0 yX0_nextEnd yX0_nextEnd, Cond.code yX0_nextEnd cX0_nextEnd 2 (some .long), Cond.methodLink RX0 44 yJ9_floorDiv_b2ac5, Cond.static yJ9_floorDiv_b2ac5, Cond.code yJ9_floorDiv_b2ac5 cJ9_floorDiv_b2ac5 3 (some .long), Cond.methodLink RJ9 143 yJ9_floorDiv_f86c9, Cond.methodLink RX0 54 yX0_isFree, Cond.static yX0_isFree]
def wsX2_greatest_r5 : List Cond := [Cond.code yX0_isFree cX0_isFree 9 (some .boolean), Cond.constantLong RX0 78 (8), Cond.methodLink RX0 80 yX1_valueAt, Cond.instanceMethod yX1_valueAt, Cond.selects RX1 yX1_valueAt yX1_valueAt, Cond.code yX1_valueAt cX1_valueAt 10 (some .long), Cond.constantLong RX1 43 (1048576), Cond.methodLink RX0 60 yX0_note, Cond.instanceMethod yX0_note, Cond.selects RX0 yX0_note yX0_note, Cond.code yX0_note cX0_note 5 none, Cond.fieldLink RX0 11 "CosineSeries$RootSearch" "roots" "[J", Cond.methodLink RX0 86 yX0_found, Cond.instanceMethod yX0_found, Cond.selects RX0 yX0_found yX0_found, Cond.code yX0_found cX0_found 2 (some .long), Cond.methodLink RX2 73 yX1_valueAt, Cond.methodLink RX2 155 yX0_count, Cond.instanceMethod yX0_count, Cond.selects RX0 yX0_count yX0_count, Cond.code yX0_count cX0_count 1 (some .int), Cond.methodLink RX2 158 yX0_found]
def wsX2_greatest : List Cond := .code yX2_greatest cX2_greatest 8 (some .long) :: ((wsX2_greatest_r1 ++ (wsX2_greatest_r2 ++ (wsX2_greatest_r3 ++ (wsX2_greatest_r4 ++ wsX2_greatest_r5)))) ++ wsX20 ++ wsX10 ++ wsX00)
def wsX3_init : List Cond := .code yX3_init cX3_init 1 none :: ([.methodLink RX3 1 objectInit, .instanceMethod objectInit, .code objectInit ⟨#[0xb1]⟩ 1 none, .arrayClass .long, .fieldLink RX3 7 "CosineSeriesModel" "c" "[J", .arrayClass .int, .fieldLink RX3 13 "CosineSeriesModel" "degrees" "[I", .fieldLink RX3 17 "CosineSeriesModel" "values" "[I", .constant RX3 20 (1048576), .constant RX3 21 (1028428), .constant RX3 22 (968758), .constant RX3 23 (871859), .constant RX3 24 (741455), .constant RX3 25 (582558), .constant RX3 26 (401273), .constant RX3 27 (204567), .fieldLink RX3 28 "CosineSeriesModel" "cosines" "[I", .fieldLink RX3 31 "CosineSeriesModel" "found" "[I", .fieldLink RX3 34 "CosineSeriesModel" "waits" "[I"] ++ wsX30)
def wsX3_in : List Cond := .code yX3_in cX3_in 6 (some .boolean) :: ([])
def wsX3_isSeries : List Cond := .code yX3_isSeries cX3_isSeries 1 (some .boolean) :: ([.constantLong RX3 37 (7), .methodLink RX3 39 yX3_in, .static yX3_in, .initialized RX3, .code yX3_in cX3_in 6 (some .boolean)])
def wsX3_isPoint : List Cond := .code yX3_isPoint cX3_isPoint 1 (some .boolean) :: ([.constantLong RX3 43 (-1048576), .constantLong RX3 45 (1048576), .methodLink RX3 39 yX3_in, .static yX3_in, .initialized RX3, .code yX3_in cX3_in 6 (some .boolean)])
def wsX3_size : List Cond := .code yX3_size cX3_size 2 (some .long) :: ([])
def wsX3_rounded : List Cond := .code yX3_rounded cX3_rounded 6 (some .long) :: ([.constantLong RX3 47 (2)])
def wsX3_of : List Cond := .code yX3_of cX3_of 3 (some .long) :: ([.fieldLink RX3 7 "CosineSeriesModel" "c" "[J"] ++ wsX30)
def wsX3_sets : List Cond := .code yX3_sets cX3_sets 5 none :: ([.fieldLink RX3 7 "CosineSeriesModel" "c" "[J"] ++ wsX30)
def wsX3_clears : List Cond := .code yX3_clears cX3_clears 4 none :: ([.fieldLink RX3 13 "CosineSeriesModel" "degrees" "[I", .methodLink RX3 49 yX3_sets, .instanceMethod yX3_sets, .selects RX3 yX3_sets yX3_sets, .initialized RX3, .code yX3_sets cX3_sets 5 none, .fieldLink RX3 7 "CosineSeriesModel" "c" "[J"] ++ wsX30)
def wsX3_copies : List Cond := .code yX3_copies cX3_copies 4 none :: ([.fieldLink RX3 13 "CosineSeriesModel" "degrees" "[I", .methodLink RX3 53 yX3_of, .instanceMethod yX3_of, .selects RX3 yX3_of yX3_of, .initialized RX3, .code yX3_of cX3_of 3 (some .long), .fieldLink RX3 7 "CosineSeriesModel" "c" "[J", .methodLink RX3 49 yX3_sets, .instanceMethod yX3_sets, .selects RX3 yX3_sets yX3_sets, .code yX3_sets cX3_sets 5 none] ++ wsX30)
def wsX3_trims : List Cond := .code yX3_trims cX3_trims 3 (some .long) :: ([.fieldLink RX3 13 "CosineSeriesModel" "degrees" "[I", .constantLong RX3 57 (-9000000000000000002), .constantLong RX3 63 (268435456), .constantLong RX3 65 (-9000000000000000003), .methodLink RX3 53 yX3_of, .instanceMethod yX3_of, .selects RX3 yX3_of yX3_of, .initialized RX3, .code yX3_of cX3_of 3 (some .long), .fieldLink RX3 7 "CosineSeriesModel" "c" "[J", .methodLink RX3 59 yX3_size, .static yX3_size, .code yX3_size cX3_size 2 (some .long)] ++ wsX30)
def wsX3_gives_r1 : List Cond := [Cond.fieldLink RX3 13 "CosineSeriesModel" "degrees" "[I", Cond.methodLink RX3 67 yX3_trims, Cond.instanceMethod yX3_trims, Cond.selects RX3 yX3_trims yX3_trims, Cond.initialized RX3, Cond.code yX3_trims cX3_trims 3 (some .long), Cond.constantLong RX3 57 (-9000000000000000002), Cond.constantLong RX3 63 (268435456), Cond.constantLong RX3 65 (-9000000000000000003), Cond.methodLink RX3 53 yX3_of, Cond.instanceMethod yX3_of, Cond.selects RX3 yX3_of yX3_of, Cond.code yX3_of cX3_of 3 (some .long), Cond.fieldLink RX3 7 "CosineSeriesModel" "c" "[J", Cond.methodLink RX3 59 yX3_size, Cond.static yX3_size, Cond.code yX3_size cX3_size 2 (some .long), Cond.methodLink RX3 71 yX3_copies, Cond.instanceMethod yX3_copies, Cond.selects RX3 yX3_copies yX3_copies, Cond.code yX3_copies cX3_copies 4 none, Cond.methodLink RX3 49 yX3_sets, Cond.instanceMethod yX3_sets, Cond.selects RX3 yX3_sets yX3_sets]
def wsX3_gives_r2 : List Cond := [Cond.code yX3_sets cX3_sets 5 none]
def wsX3_gives : List Cond := .code yX3_gives cX3_gives 4 (some .long) :: ((wsX3_gives_r1 ++ wsX3_gives_r2) ++ wsX30)
def wsX3_setCoefficient_r1 : List Cond := [Cond.constantLong RX3 79 (24), Cond.constantLong RX3 81 (-268435456), Cond.constantLong RX3 63 (268435456), Cond.constantLong RX3 83 (-9000000000000000001), Cond.fieldLink RX3 13 "CosineSeriesModel" "degrees" "[I", Cond.methodLink RX3 75 yX3_isSeries, Cond.static yX3_isSeries, Cond.initialized RX3, Cond.code yX3_isSeries cX3_isSeries 1 (some .boolean), Cond.constantLong RX3 37 (7), Cond.methodLink RX3 39 yX3_in, Cond.static yX3_in, Cond.code yX3_in cX3_in 6 (some .boolean), Cond.methodLink RX3 71 yX3_copies, Cond.instanceMethod yX3_copies, Cond.selects RX3 yX3_copies yX3_copies, Cond.code yX3_copies cX3_copies 4 none, Cond.methodLink RX3 53 yX3_of, Cond.instanceMethod yX3_of, Cond.selects RX3 yX3_of yX3_of, Cond.code yX3_of cX3_of 3 (some .long), Cond.fieldLink RX3 7 "CosineSeriesModel" "c" "[J", Cond.methodLink RX3 49 yX3_sets, Cond.instanceMethod yX3_sets]
def wsX3_setCoefficient_r2 : List Cond := [Cond.selects RX3 yX3_sets yX3_sets, Cond.code yX3_sets cX3_sets 5 none, Cond.methodLink RX3 85 yX3_gives, Cond.instanceMethod yX3_gives, Cond.selects RX3 yX3_gives yX3_gives, Cond.code yX3_gives cX3_gives 4 (some .long), Cond.methodLink RX3 67 yX3_trims, Cond.instanceMethod yX3_trims, Cond.selects RX3 yX3_trims yX3_trims, Cond.code yX3_trims cX3_trims 3 (some .long), Cond.constantLong RX3 57 (-9000000000000000002), Cond.constantLong RX3 65 (-9000000000000000003), Cond.methodLink RX3 59 yX3_size, Cond.static yX3_size, Cond.code yX3_size cX3_size 2 (some .long)]
def wsX3_setCoefficient : List Cond := .code yX3_setCoefficient cX3_setCoefficient 4 (some .long) :: ((wsX3_setCoefficient_r1 ++ wsX3_setCoefficient_r2) ++ wsX30)
def wsX3_coefficient : List Cond := .code yX3_coefficient cX3_coefficient 3 (some .long) :: ([.constantLong RX3 79 (24), .constantLong RX3 83 (-9000000000000000001), .methodLink RX3 75 yX3_isSeries, .static yX3_isSeries, .initialized RX3, .code yX3_isSeries cX3_isSeries 1 (some .boolean), .constantLong RX3 37 (7), .methodLink RX3 39 yX3_in, .static yX3_in, .code yX3_in cX3_in 6 (some .boolean), .methodLink RX3 53 yX3_of, .instanceMethod yX3_of, .selects RX3 yX3_of yX3_of, .code yX3_of cX3_of 3 (some .long), .fieldLink RX3 7 "CosineSeriesModel" "c" "[J"] ++ wsX30)
def wsX3_degree : List Cond := .code yX3_degree cX3_degree 2 (some .long) :: ([.fieldLink RX3 13 "CosineSeriesModel" "degrees" "[I", .constantLong RX3 83 (-9000000000000000001), .methodLink RX3 75 yX3_isSeries, .static yX3_isSeries, .initialized RX3, .code yX3_isSeries cX3_isSeries 1 (some .boolean), .constantLong RX3 37 (7), .methodLink RX3 39 yX3_in, .static yX3_in, .code yX3_in cX3_in 6 (some .boolean)] ++ wsX30)
def wsX3_copy : List Cond := .code yX3_copy cX3_copy 3 (some .long) :: ([.constantLong RX3 83 (-9000000000000000001), .fieldLink RX3 13 "CosineSeriesModel" "degrees" "[I", .methodLink RX3 75 yX3_isSeries, .static yX3_isSeries, .initialized RX3, .code yX3_isSeries cX3_isSeries 1 (some .boolean), .constantLong RX3 37 (7), .methodLink RX3 39 yX3_in, .static yX3_in, .code yX3_in cX3_in 6 (some .boolean), .methodLink RX3 71 yX3_copies, .instanceMethod yX3_copies, .selects RX3 yX3_copies yX3_copies, .code yX3_copies cX3_copies 4 none, .methodLink RX3 53 yX3_of, .instanceMethod yX3_of, .selects RX3 yX3_of yX3_of, .code yX3_of cX3_of 3 (some .long), .fieldLink RX3 7 "CosineSeriesModel" "c" "[J", .methodLink RX3 49 yX3_sets, .instanceMethod yX3_sets, .selects RX3 yX3_sets yX3_sets, .code yX3_sets cX3_sets 5 none] ++ wsX30)
def wsX3_valueAt : List Cond := .code yX3_valueAt cX3_valueAt 11 (some .long) :: ([.fieldLink RX3 13 "CosineSeriesModel" "degrees" "[I", .constantLong RX3 47 (2), .constantLong RX3 45 (1048576), .methodLink RX3 53 yX3_of, .instanceMethod yX3_of, .selects RX3 yX3_of yX3_of, .initialized RX3, .code yX3_of cX3_of 3 (some .long), .fieldLink RX3 7 "CosineSeriesModel" "c" "[J", .methodLink RX3 88 yX3_rounded, .static yX3_rounded, .code yX3_rounded cX3_rounded 6 (some .long)] ++ wsX30)
def wsX3_value_r1 : List Cond := [Cond.constantLong RX3 83 (-9000000000000000001), Cond.methodLink RX3 75 yX3_isSeries, Cond.static yX3_isSeries, Cond.initialized RX3, Cond.code yX3_isSeries cX3_isSeries 1 (some .boolean), Cond.constantLong RX3 37 (7), Cond.methodLink RX3 39 yX3_in, Cond.static yX3_in, Cond.code yX3_in cX3_in 6 (some .boolean), Cond.methodLink RX3 92 yX3_isPoint, Cond.static yX3_isPoint, Cond.code yX3_isPoint cX3_isPoint 1 (some .boolean), Cond.constantLong RX3 43 (-1048576), Cond.constantLong RX3 45 (1048576), Cond.methodLink RX3 95 yX3_valueAt, Cond.instanceMethod yX3_valueAt, Cond.selects RX3 yX3_valueAt yX3_valueAt, Cond.code yX3_valueAt cX3_valueAt 11 (some .long), Cond.fieldLink RX3 13 "CosineSeriesModel" "degrees" "[I", Cond.constantLong RX3 47 (2), Cond.methodLink RX3 53 yX3_of, Cond.instanceMethod yX3_of, Cond.selects RX3 yX3_of yX3_of, Cond.code yX3_of cX3_of 3 (some .long)]
def wsX3_value_r2 : List Cond := [Cond.fieldLink RX3 7 "CosineSeriesModel" "c" "[J", Cond.methodLink RX3 88 yX3_rounded, Cond.static yX3_rounded, Cond.code yX3_rounded cX3_rounded 6 (some .long)]
def wsX3_value : List Cond := .code yX3_value cX3_value 3 (some .long) :: ((wsX3_value_r1 ++ wsX3_value_r2) ++ wsX30)
def wsX3_add_r1 : List Cond := [Cond.constantLong RX3 99 (-1000), Cond.constantLong RX3 101 (1000), Cond.constantLong RX3 83 (-9000000000000000001), Cond.methodLink RX3 75 yX3_isSeries, Cond.static yX3_isSeries, Cond.initialized RX3, Cond.code yX3_isSeries cX3_isSeries 1 (some .boolean), Cond.constantLong RX3 37 (7), Cond.methodLink RX3 39 yX3_in, Cond.static yX3_in, Cond.code yX3_in cX3_in 6 (some .boolean), Cond.methodLink RX3 103 yX3_clears, Cond.instanceMethod yX3_clears, Cond.selects RX3 yX3_clears yX3_clears, Cond.code yX3_clears cX3_clears 4 none, Cond.fieldLink RX3 13 "CosineSeriesModel" "degrees" "[I", Cond.methodLink RX3 49 yX3_sets, Cond.instanceMethod yX3_sets, Cond.selects RX3 yX3_sets yX3_sets, Cond.code yX3_sets cX3_sets 5 none, Cond.fieldLink RX3 7 "CosineSeriesModel" "c" "[J", Cond.methodLink RX3 53 yX3_of, Cond.instanceMethod yX3_of, Cond.selects RX3 yX3_of yX3_of]
def wsX3_add_r2 : List Cond := [Cond.code yX3_of cX3_of 3 (some .long), Cond.methodLink RX3 85 yX3_gives, Cond.instanceMethod yX3_gives, Cond.selects RX3 yX3_gives yX3_gives, Cond.code yX3_gives cX3_gives 4 (some .long), Cond.methodLink RX3 67 yX3_trims, Cond.instanceMethod yX3_trims, Cond.selects RX3 yX3_trims yX3_trims, Cond.code yX3_trims cX3_trims 3 (some .long), Cond.constantLong RX3 57 (-9000000000000000002), Cond.constantLong RX3 63 (268435456), Cond.constantLong RX3 65 (-9000000000000000003), Cond.methodLink RX3 59 yX3_size, Cond.static yX3_size, Cond.code yX3_size cX3_size 2 (some .long), Cond.methodLink RX3 71 yX3_copies, Cond.instanceMethod yX3_copies, Cond.selects RX3 yX3_copies yX3_copies, Cond.code yX3_copies cX3_copies 4 none]
def wsX3_add : List Cond := .code yX3_add cX3_add 7 (some .long) :: ((wsX3_add_r1 ++ wsX3_add_r2) ++ wsX30)
def wsX3_multiplies_r1 : List Cond := [Cond.fieldLink RX3 13 "CosineSeriesModel" "degrees" "[I", Cond.constantLong RX3 106 (2097152), Cond.methodLink RX3 103 yX3_clears, Cond.instanceMethod yX3_clears, Cond.selects RX3 yX3_clears yX3_clears, Cond.initialized RX3, Cond.code yX3_clears cX3_clears 4 none, Cond.methodLink RX3 49 yX3_sets, Cond.instanceMethod yX3_sets, Cond.selects RX3 yX3_sets yX3_sets, Cond.code yX3_sets cX3_sets 5 none, Cond.fieldLink RX3 7 "CosineSeriesModel" "c" "[J", Cond.methodLink RX3 53 yX3_of, Cond.instanceMethod yX3_of, Cond.selects RX3 yX3_of yX3_of, Cond.code yX3_of cX3_of 3 (some .long), Cond.methodLink RX3 88 yX3_rounded, Cond.static yX3_rounded, Cond.code yX3_rounded cX3_rounded 6 (some .long), Cond.constantLong RX3 47 (2), Cond.methodLink RX3 67 yX3_trims, Cond.instanceMethod yX3_trims, Cond.selects RX3 yX3_trims yX3_trims, Cond.code yX3_trims cX3_trims 3 (some .long)]
def wsX3_multiplies_r2 : List Cond := [Cond.constantLong RX3 57 (-9000000000000000002), Cond.constantLong RX3 63 (268435456), Cond.constantLong RX3 65 (-9000000000000000003), Cond.methodLink RX3 59 yX3_size, Cond.static yX3_size, Cond.code yX3_size cX3_size 2 (some .long)]
def wsX3_multiplies : List Cond := .code yX3_multiplies cX3_multiplies 8 (some .long) :: ((wsX3_multiplies_r1 ++ wsX3_multiplies_r2) ++ wsX30)
def wsX3_multiply_r1 : List Cond := [Cond.constantLong RX3 83 (-9000000000000000001), Cond.methodLink RX3 75 yX3_isSeries, Cond.static yX3_isSeries, Cond.initialized RX3, Cond.code yX3_isSeries cX3_isSeries 1 (some .boolean), Cond.constantLong RX3 37 (7), Cond.methodLink RX3 39 yX3_in, Cond.static yX3_in, Cond.code yX3_in cX3_in 6 (some .boolean), Cond.methodLink RX3 108 yX3_multiplies, Cond.instanceMethod yX3_multiplies, Cond.selects RX3 yX3_multiplies yX3_multiplies, Cond.code yX3_multiplies cX3_multiplies 8 (some .long), Cond.fieldLink RX3 13 "CosineSeriesModel" "degrees" "[I", Cond.constantLong RX3 106 (2097152), Cond.methodLink RX3 103 yX3_clears, Cond.instanceMethod yX3_clears, Cond.selects RX3 yX3_clears yX3_clears, Cond.code yX3_clears cX3_clears 4 none, Cond.methodLink RX3 49 yX3_sets, Cond.instanceMethod yX3_sets, Cond.selects RX3 yX3_sets yX3_sets, Cond.code yX3_sets cX3_sets 5 none, Cond.fieldLink RX3 7 "CosineSeriesModel" "c" "[J"]
def wsX3_multiply_r2 : List Cond := [Cond.methodLink RX3 53 yX3_of, Cond.instanceMethod yX3_of, Cond.selects RX3 yX3_of yX3_of, Cond.code yX3_of cX3_of 3 (some .long), Cond.methodLink RX3 88 yX3_rounded, Cond.static yX3_rounded, Cond.code yX3_rounded cX3_rounded 6 (some .long), Cond.constantLong RX3 47 (2), Cond.methodLink RX3 67 yX3_trims, Cond.instanceMethod yX3_trims, Cond.selects RX3 yX3_trims yX3_trims, Cond.code yX3_trims cX3_trims 3 (some .long), Cond.constantLong RX3 57 (-9000000000000000002), Cond.constantLong RX3 63 (268435456), Cond.constantLong RX3 65 (-9000000000000000003), Cond.methodLink RX3 59 yX3_size, Cond.static yX3_size, Cond.code yX3_size cX3_size 2 (some .long), Cond.methodLink RX3 85 yX3_gives, Cond.instanceMethod yX3_gives, Cond.selects RX3 yX3_gives yX3_gives, Cond.code yX3_gives cX3_gives 4 (some .long), Cond.methodLink RX3 71 yX3_copies, Cond.instanceMethod yX3_copies]
def wsX3_multiply_r3 : List Cond := [Cond.selects RX3 yX3_copies yX3_copies, Cond.code yX3_copies cX3_copies 4 none]
def wsX3_multiply : List Cond := .code yX3_multiply cX3_multiply 6 (some .long) :: ((wsX3_multiply_r1 ++ (wsX3_multiply_r2 ++ wsX3_multiply_r3)) ++ wsX30)
def wsX3_derives : List Cond := .code yX3_derives cX3_derives 4 none :: ([.fieldLink RX3 13 "CosineSeriesModel" "degrees" "[I", .constantLong RX3 47 (2), .methodLink RX3 103 yX3_clears, .instanceMethod yX3_clears, .selects RX3 yX3_clears yX3_clears, .initialized RX3, .code yX3_clears cX3_clears 4 none, .methodLink RX3 49 yX3_sets, .instanceMethod yX3_sets, .selects RX3 yX3_sets yX3_sets, .code yX3_sets cX3_sets 5 none, .fieldLink RX3 7 "CosineSeriesModel" "c" "[J", .methodLink RX3 53 yX3_of, .instanceMethod yX3_of, .selects RX3 yX3_of yX3_of, .code yX3_of cX3_of 3 (some .long), .methodLink RX3 88 yX3_rounded, .static yX3_rounded, .code yX3_rounded cX3_rounded 6 (some .long)] ++ wsX30)
def wsX3_differentiate_r1 : List Cond := [Cond.constantLong RX3 83 (-9000000000000000001), Cond.methodLink RX3 75 yX3_isSeries, Cond.static yX3_isSeries, Cond.initialized RX3, Cond.code yX3_isSeries cX3_isSeries 1 (some .boolean), Cond.constantLong RX3 37 (7), Cond.methodLink RX3 39 yX3_in, Cond.static yX3_in, Cond.code yX3_in cX3_in 6 (some .boolean), Cond.methodLink RX3 111 yX3_derives, Cond.instanceMethod yX3_derives, Cond.selects RX3 yX3_derives yX3_derives, Cond.code yX3_derives cX3_derives 4 none, Cond.fieldLink RX3 13 "CosineSeriesModel" "degrees" "[I", Cond.constantLong RX3 47 (2), Cond.methodLink RX3 103 yX3_clears, Cond.instanceMethod yX3_clears, Cond.selects RX3 yX3_clears yX3_clears, Cond.code yX3_clears cX3_clears 4 none, Cond.methodLink RX3 49 yX3_sets, Cond.instanceMethod yX3_sets, Cond.selects RX3 yX3_sets yX3_sets, Cond.code yX3_sets cX3_sets 5 none, Cond.fieldLink RX3 7 "CosineSeriesModel" "c" "[J"]
def wsX3_differentiate_r2 : List Cond := [Cond.methodLink RX3 53 yX3_of, Cond.instanceMethod yX3_of, Cond.selects RX3 yX3_of yX3_of, Cond.code yX3_of cX3_of 3 (some .long), Cond.methodLink RX3 88 yX3_rounded, Cond.static yX3_rounded, Cond.code yX3_rounded cX3_rounded 6 (some .long), Cond.methodLink RX3 85 yX3_gives, Cond.instanceMethod yX3_gives, Cond.selects RX3 yX3_gives yX3_gives, Cond.code yX3_gives cX3_gives 4 (some .long), Cond.methodLink RX3 67 yX3_trims, Cond.instanceMethod yX3_trims, Cond.selects RX3 yX3_trims yX3_trims, Cond.code yX3_trims cX3_trims 3 (some .long), Cond.constantLong RX3 57 (-9000000000000000002), Cond.constantLong RX3 63 (268435456), Cond.constantLong RX3 65 (-9000000000000000003), Cond.methodLink RX3 59 yX3_size, Cond.static yX3_size, Cond.code yX3_size cX3_size 2 (some .long), Cond.methodLink RX3 71 yX3_copies, Cond.instanceMethod yX3_copies, Cond.selects RX3 yX3_copies yX3_copies]
def wsX3_differentiate_r3 : List Cond := [Cond.code yX3_copies cX3_copies 4 none]
def wsX3_differentiate : List Cond := .code yX3_differentiate cX3_differentiate 3 (some .long) :: ((wsX3_differentiate_r1 ++ (wsX3_differentiate_r2 ++ wsX3_differentiate_r3)) ++ wsX30)
def wsX3_antidifferentiate_r1 : List Cond := [Cond.constantLong RX3 83 (-9000000000000000001), Cond.fieldLink RX3 13 "CosineSeriesModel" "degrees" "[I", Cond.constantLong RX3 47 (2), Cond.methodLink RX3 75 yX3_isSeries, Cond.static yX3_isSeries, Cond.initialized RX3, Cond.code yX3_isSeries cX3_isSeries 1 (some .boolean), Cond.constantLong RX3 37 (7), Cond.methodLink RX3 39 yX3_in, Cond.static yX3_in, Cond.code yX3_in cX3_in 6 (some .boolean), Cond.methodLink RX3 103 yX3_clears, Cond.instanceMethod yX3_clears, Cond.selects RX3 yX3_clears yX3_clears, Cond.code yX3_clears cX3_clears 4 none, Cond.methodLink RX3 49 yX3_sets, Cond.instanceMethod yX3_sets, Cond.selects RX3 yX3_sets yX3_sets, Cond.code yX3_sets cX3_sets 5 none, Cond.fieldLink RX3 7 "CosineSeriesModel" "c" "[J", Cond.methodLink RX3 53 yX3_of, Cond.instanceMethod yX3_of, Cond.selects RX3 yX3_of yX3_of, Cond.code yX3_of cX3_of 3 (some .long)]
def wsX3_antidifferentiate_r2 : List Cond := [Cond.methodLink RX3 88 yX3_rounded, Cond.static yX3_rounded, Cond.code yX3_rounded cX3_rounded 6 (some .long), Cond.methodLink RX3 85 yX3_gives, Cond.instanceMethod yX3_gives, Cond.selects RX3 yX3_gives yX3_gives, Cond.code yX3_gives cX3_gives 4 (some .long), Cond.methodLink RX3 67 yX3_trims, Cond.instanceMethod yX3_trims, Cond.selects RX3 yX3_trims yX3_trims, Cond.code yX3_trims cX3_trims 3 (some .long), Cond.constantLong RX3 57 (-9000000000000000002), Cond.constantLong RX3 63 (268435456), Cond.constantLong RX3 65 (-9000000000000000003), Cond.methodLink RX3 59 yX3_size, Cond.static yX3_size, Cond.code yX3_size cX3_size 2 (some .long), Cond.methodLink RX3 71 yX3_copies, Cond.instanceMethod yX3_copies, Cond.selects RX3 yX3_copies yX3_copies, Cond.code yX3_copies cX3_copies 4 none]
def wsX3_antidifferentiate : List Cond := .code yX3_antidifferentiate cX3_antidifferentiate 9 (some .long) :: ((wsX3_antidifferentiate_r1 ++ wsX3_antidifferentiate_r2) ++ wsX30)
def wsX3_goes_r1 : List Cond := [Cond.fieldLink RX3 13 "CosineSeriesModel" "degrees" "[I", Cond.methodLink RX3 108 yX3_multiplies, Cond.instanceMethod yX3_multiplies, Cond.selects RX3 yX3_multiplies yX3_multiplies, Cond.initialized RX3, Cond.code yX3_multiplies cX3_multiplies 8 (some .long), Cond.constantLong RX3 106 (2097152), Cond.methodLink RX3 103 yX3_clears, Cond.instanceMethod yX3_clears, Cond.selects RX3 yX3_clears yX3_clears, Cond.code yX3_clears cX3_clears 4 none, Cond.methodLink RX3 49 yX3_sets, Cond.instanceMethod yX3_sets, Cond.selects RX3 yX3_sets yX3_sets, Cond.code yX3_sets cX3_sets 5 none, Cond.fieldLink RX3 7 "CosineSeriesModel" "c" "[J", Cond.methodLink RX3 53 yX3_of, Cond.instanceMethod yX3_of, Cond.selects RX3 yX3_of yX3_of, Cond.code yX3_of cX3_of 3 (some .long), Cond.methodLink RX3 88 yX3_rounded, Cond.static yX3_rounded, Cond.code yX3_rounded cX3_rounded 6 (some .long), Cond.constantLong RX3 47 (2)]
def wsX3_goes_r2 : List Cond := [Cond.methodLink RX3 67 yX3_trims, Cond.instanceMethod yX3_trims, Cond.selects RX3 yX3_trims yX3_trims, Cond.code yX3_trims cX3_trims 3 (some .long), Cond.constantLong RX3 57 (-9000000000000000002), Cond.constantLong RX3 63 (268435456), Cond.constantLong RX3 65 (-9000000000000000003), Cond.methodLink RX3 59 yX3_size, Cond.static yX3_size, Cond.code yX3_size cX3_size 2 (some .long), Cond.methodLink RX3 71 yX3_copies, Cond.instanceMethod yX3_copies, Cond.selects RX3 yX3_copies yX3_copies, Cond.code yX3_copies cX3_copies 4 none]
def wsX3_goes : List Cond := .code yX3_goes cX3_goes 8 (some .long) :: ((wsX3_goes_r1 ++ wsX3_goes_r2) ++ wsX30)
def wsX3_compose_r1 : List Cond := [Cond.constantLong RX3 83 (-9000000000000000001), Cond.fieldLink RX3 13 "CosineSeriesModel" "degrees" "[I", Cond.methodLink RX3 75 yX3_isSeries, Cond.static yX3_isSeries, Cond.initialized RX3, Cond.code yX3_isSeries cX3_isSeries 1 (some .boolean), Cond.constantLong RX3 37 (7), Cond.methodLink RX3 39 yX3_in, Cond.static yX3_in, Cond.code yX3_in cX3_in 6 (some .boolean), Cond.methodLink RX3 103 yX3_clears, Cond.instanceMethod yX3_clears, Cond.selects RX3 yX3_clears yX3_clears, Cond.code yX3_clears cX3_clears 4 none, Cond.methodLink RX3 49 yX3_sets, Cond.instanceMethod yX3_sets, Cond.selects RX3 yX3_sets yX3_sets, Cond.code yX3_sets cX3_sets 5 none, Cond.fieldLink RX3 7 "CosineSeriesModel" "c" "[J", Cond.methodLink RX3 53 yX3_of, Cond.instanceMethod yX3_of, Cond.selects RX3 yX3_of yX3_of, Cond.code yX3_of cX3_of 3 (some .long), Cond.methodLink RX3 115 yX3_goes]
def wsX3_compose_r2 : List Cond := [Cond.instanceMethod yX3_goes, Cond.selects RX3 yX3_goes yX3_goes, Cond.code yX3_goes cX3_goes 8 (some .long), Cond.methodLink RX3 108 yX3_multiplies, Cond.instanceMethod yX3_multiplies, Cond.selects RX3 yX3_multiplies yX3_multiplies, Cond.code yX3_multiplies cX3_multiplies 8 (some .long), Cond.constantLong RX3 106 (2097152), Cond.methodLink RX3 88 yX3_rounded, Cond.static yX3_rounded, Cond.code yX3_rounded cX3_rounded 6 (some .long), Cond.constantLong RX3 47 (2), Cond.methodLink RX3 67 yX3_trims, Cond.instanceMethod yX3_trims, Cond.selects RX3 yX3_trims yX3_trims, Cond.code yX3_trims cX3_trims 3 (some .long), Cond.constantLong RX3 57 (-9000000000000000002), Cond.constantLong RX3 63 (268435456), Cond.constantLong RX3 65 (-9000000000000000003), Cond.methodLink RX3 59 yX3_size, Cond.static yX3_size, Cond.code yX3_size cX3_size 2 (some .long), Cond.methodLink RX3 71 yX3_copies, Cond.instanceMethod yX3_copies]
def wsX3_compose_r3 : List Cond := [Cond.selects RX3 yX3_copies yX3_copies, Cond.code yX3_copies cX3_copies 4 none]
def wsX3_compose : List Cond := .code yX3_compose cX3_compose 7 (some .long) :: ((wsX3_compose_r1 ++ (wsX3_compose_r2 ++ wsX3_compose_r3)) ++ wsX30)
def wsX3_divide_r1 : List Cond := [Cond.constantLong RX3 83 (-9000000000000000001), Cond.fieldLink RX3 13 "CosineSeriesModel" "degrees" "[I", Cond.constantLong RX3 47 (2), Cond.constantLong RX3 45 (1048576), Cond.methodLink RX3 75 yX3_isSeries, Cond.static yX3_isSeries, Cond.initialized RX3, Cond.code yX3_isSeries cX3_isSeries 1 (some .boolean), Cond.constantLong RX3 37 (7), Cond.methodLink RX3 39 yX3_in, Cond.static yX3_in, Cond.code yX3_in cX3_in 6 (some .boolean), Cond.methodLink RX3 92 yX3_isPoint, Cond.static yX3_isPoint, Cond.code yX3_isPoint cX3_isPoint 1 (some .boolean), Cond.constantLong RX3 43 (-1048576), Cond.methodLink RX3 95 yX3_valueAt, Cond.instanceMethod yX3_valueAt, Cond.selects RX3 yX3_valueAt yX3_valueAt, Cond.code yX3_valueAt cX3_valueAt 11 (some .long), Cond.methodLink RX3 53 yX3_of, Cond.instanceMethod yX3_of, Cond.selects RX3 yX3_of yX3_of, Cond.code yX3_of cX3_of 3 (some .long)]
def wsX3_divide_r2 : List Cond := [Cond.fieldLink RX3 7 "CosineSeriesModel" "c" "[J", Cond.methodLink RX3 88 yX3_rounded, Cond.static yX3_rounded, Cond.code yX3_rounded cX3_rounded 6 (some .long), Cond.methodLink RX3 103 yX3_clears, Cond.instanceMethod yX3_clears, Cond.selects RX3 yX3_clears yX3_clears, Cond.code yX3_clears cX3_clears 4 none, Cond.methodLink RX3 49 yX3_sets, Cond.instanceMethod yX3_sets, Cond.selects RX3 yX3_sets yX3_sets, Cond.code yX3_sets cX3_sets 5 none, Cond.methodLink RX3 85 yX3_gives, Cond.instanceMethod yX3_gives, Cond.selects RX3 yX3_gives yX3_gives, Cond.code yX3_gives cX3_gives 4 (some .long), Cond.methodLink RX3 67 yX3_trims, Cond.instanceMethod yX3_trims, Cond.selects RX3 yX3_trims yX3_trims, Cond.code yX3_trims cX3_trims 3 (some .long), Cond.constantLong RX3 57 (-9000000000000000002), Cond.constantLong RX3 63 (268435456), Cond.constantLong RX3 65 (-9000000000000000003), Cond.methodLink RX3 59 yX3_size]
def wsX3_divide_r3 : List Cond := [Cond.static yX3_size, Cond.code yX3_size cX3_size 2 (some .long), Cond.methodLink RX3 71 yX3_copies, Cond.instanceMethod yX3_copies, Cond.selects RX3 yX3_copies yX3_copies, Cond.code yX3_copies cX3_copies 4 none]
def wsX3_divide : List Cond := .code yX3_divide cX3_divide 9 (some .long) :: ((wsX3_divide_r1 ++ (wsX3_divide_r2 ++ wsX3_divide_r3)) ++ wsX30)
def wsX3_cutBy : List Cond := .code yX3_cutBy cX3_cutBy 7 (some .int) :: ([.fieldLink RX3 13 "CosineSeriesModel" "degrees" "[I", .methodLink RX3 53 yX3_of, .instanceMethod yX3_of, .selects RX3 yX3_of yX3_of, .initialized RX3, .code yX3_of cX3_of 3 (some .long), .fieldLink RX3 7 "CosineSeriesModel" "c" "[J", .methodLink RX3 59 yX3_size, .static yX3_size, .code yX3_size cX3_size 2 (some .long)] ++ wsX30)
def wsX3_isTolerance : List Cond := .code yX3_isTolerance cX3_isTolerance 1 (some .boolean) :: ([.constantLong RX3 119 (1000000000), .methodLink RX3 39 yX3_in, .static yX3_in, .initialized RX3, .code yX3_in cX3_in 6 (some .boolean)])
def wsX3_cut_r1 : List Cond := [Cond.constantLong RX3 83 (-9000000000000000001), Cond.fieldLink RX3 13 "CosineSeriesModel" "degrees" "[I", Cond.methodLink RX3 75 yX3_isSeries, Cond.static yX3_isSeries, Cond.initialized RX3, Cond.code yX3_isSeries cX3_isSeries 1 (some .boolean), Cond.constantLong RX3 37 (7), Cond.methodLink RX3 39 yX3_in, Cond.static yX3_in, Cond.code yX3_in cX3_in 6 (some .boolean), Cond.methodLink RX3 121 yX3_isTolerance, Cond.static yX3_isTolerance, Cond.code yX3_isTolerance cX3_isTolerance 1 (some .boolean), Cond.constantLong RX3 119 (1000000000), Cond.methodLink RX3 124 yX3_cutBy, Cond.instanceMethod yX3_cutBy, Cond.selects RX3 yX3_cutBy yX3_cutBy, Cond.code yX3_cutBy cX3_cutBy 7 (some .int), Cond.methodLink RX3 53 yX3_of, Cond.instanceMethod yX3_of, Cond.selects RX3 yX3_of yX3_of, Cond.code yX3_of cX3_of 3 (some .long), Cond.fieldLink RX3 7 "CosineSeriesModel" "c" "[J", Cond.methodLink RX3 59 yX3_size]
def wsX3_cut_r2 : List Cond := [Cond.static yX3_size, Cond.code yX3_size cX3_size 2 (some .long), Cond.methodLink RX3 49 yX3_sets, Cond.instanceMethod yX3_sets, Cond.selects RX3 yX3_sets yX3_sets, Cond.code yX3_sets cX3_sets 5 none]
def wsX3_cut : List Cond := .code yX3_cut cX3_cut 6 (some .long) :: ((wsX3_cut_r1 ++ wsX3_cut_r2) ++ wsX30)
def wsX3_basis : List Cond := .code yX3_basis cX3_basis 3 (some .long) :: ([.constantLong RX3 79 (24), .constantLong RX3 83 (-9000000000000000001), .constantLong RX3 45 (1048576), .methodLink RX3 39 yX3_in, .static yX3_in, .initialized RX3, .code yX3_in cX3_in 6 (some .boolean), .methodLink RX3 75 yX3_isSeries, .static yX3_isSeries, .code yX3_isSeries cX3_isSeries 1 (some .boolean), .constantLong RX3 37 (7), .methodLink RX3 103 yX3_clears, .instanceMethod yX3_clears, .selects RX3 yX3_clears yX3_clears, .code yX3_clears cX3_clears 4 none, .fieldLink RX3 13 "CosineSeriesModel" "degrees" "[I", .methodLink RX3 49 yX3_sets, .instanceMethod yX3_sets, .selects RX3 yX3_sets yX3_sets, .code yX3_sets cX3_sets 5 none, .fieldLink RX3 7 "CosineSeriesModel" "c" "[J"] ++ wsX30)
def wsX3_integral : List Cond := .code yX3_integral cX3_integral 5 (some .long) :: ([.constantLong RX3 83 (-9000000000000000001), .constantLong RX3 47 (2), .fieldLink RX3 13 "CosineSeriesModel" "degrees" "[I", .constantLong RX3 128 (-2), .methodLink RX3 75 yX3_isSeries, .static yX3_isSeries, .initialized RX3, .code yX3_isSeries cX3_isSeries 1 (some .boolean), .constantLong RX3 37 (7), .methodLink RX3 39 yX3_in, .static yX3_in, .code yX3_in cX3_in 6 (some .boolean), .methodLink RX3 53 yX3_of, .instanceMethod yX3_of, .selects RX3 yX3_of yX3_of, .code yX3_of cX3_of 3 (some .long), .fieldLink RX3 7 "CosineSeriesModel" "c" "[J", .methodLink RX3 88 yX3_rounded, .static yX3_rounded, .code yX3_rounded cX3_rounded 6 (some .long)] ++ wsX30)
def wsX3_inner : List Cond := .code yX3_inner cX3_inner 6 (some .long) :: ([.constantLong RX3 83 (-9000000000000000001), .constantLong RX3 45 (1048576), .methodLink RX3 75 yX3_isSeries, .static yX3_isSeries, .initialized RX3, .code yX3_isSeries cX3_isSeries 1 (some .boolean), .constantLong RX3 37 (7), .methodLink RX3 39 yX3_in, .static yX3_in, .code yX3_in cX3_in 6 (some .boolean), .methodLink RX3 53 yX3_of, .instanceMethod yX3_of, .selects RX3 yX3_of yX3_of, .code yX3_of cX3_of 3 (some .long), .fieldLink RX3 7 "CosineSeriesModel" "c" "[J", .methodLink RX3 88 yX3_rounded, .static yX3_rounded, .code yX3_rounded cX3_rounded 6 (some .long), .constantLong RX3 47 (2)] ++ wsX30)
def wsX3_bound : List Cond := .code yX3_bound cX3_bound 5 (some .long) :: ([.constantLong RX3 83 (-9000000000000000001), .methodLink RX3 75 yX3_isSeries, .static yX3_isSeries, .initialized RX3, .code yX3_isSeries cX3_isSeries 1 (some .boolean), .constantLong RX3 37 (7), .methodLink RX3 39 yX3_in, .static yX3_in, .code yX3_in cX3_in 6 (some .boolean), .methodLink RX3 53 yX3_of, .instanceMethod yX3_of, .selects RX3 yX3_of yX3_of, .code yX3_of cX3_of 3 (some .long), .fieldLink RX3 7 "CosineSeriesModel" "c" "[J", .methodLink RX3 59 yX3_size, .static yX3_size, .code yX3_size cX3_size 2 (some .long)] ++ wsX30)
def wsX3_degreeWith_r1 : List Cond := [Cond.constantLong RX3 83 (-9000000000000000001), Cond.methodLink RX3 75 yX3_isSeries, Cond.static yX3_isSeries, Cond.initialized RX3, Cond.code yX3_isSeries cX3_isSeries 1 (some .boolean), Cond.constantLong RX3 37 (7), Cond.methodLink RX3 39 yX3_in, Cond.static yX3_in, Cond.code yX3_in cX3_in 6 (some .boolean), Cond.methodLink RX3 121 yX3_isTolerance, Cond.static yX3_isTolerance, Cond.code yX3_isTolerance cX3_isTolerance 1 (some .boolean), Cond.constantLong RX3 119 (1000000000), Cond.methodLink RX3 124 yX3_cutBy, Cond.instanceMethod yX3_cutBy, Cond.selects RX3 yX3_cutBy yX3_cutBy, Cond.code yX3_cutBy cX3_cutBy 7 (some .int), Cond.fieldLink RX3 13 "CosineSeriesModel" "degrees" "[I", Cond.methodLink RX3 53 yX3_of, Cond.instanceMethod yX3_of, Cond.selects RX3 yX3_of yX3_of, Cond.code yX3_of cX3_of 3 (some .long), Cond.fieldLink RX3 7 "CosineSeriesModel" "c" "[J", Cond.methodLink RX3 59 yX3_size]
def wsX3_degreeWith_r2 : List Cond := [Cond.static yX3_size, Cond.code yX3_size cX3_size 2 (some .long)]
def wsX3_degreeWith : List Cond := .code yX3_degreeWith cX3_degreeWith 3 (some .long) :: ((wsX3_degreeWith_r1 ++ wsX3_degreeWith_r2) ++ wsX30)
def wsX3_byValue : List Cond := .code yX3_byValue cX3_byValue 8 (some .long) :: ([.constantLong RX3 79 (24), .constantLong RX3 83 (-9000000000000000001), .fieldLink RX3 13 "CosineSeriesModel" "degrees" "[I", .constantLong RX3 130 (-9000000000000000004), .methodLink RX3 75 yX3_isSeries, .static yX3_isSeries, .initialized RX3, .code yX3_isSeries cX3_isSeries 1 (some .boolean), .constantLong RX3 37 (7), .methodLink RX3 39 yX3_in, .static yX3_in, .code yX3_in cX3_in 6 (some .boolean), .methodLink RX3 53 yX3_of, .instanceMethod yX3_of, .selects RX3 yX3_of yX3_of, .code yX3_of cX3_of 3 (some .long), .fieldLink RX3 7 "CosineSeriesModel" "c" "[J", .methodLink RX3 59 yX3_size, .static yX3_size, .code yX3_size cX3_size 2 (some .long)] ++ wsX30)
def wsX3_cosine : List Cond := .code yX3_cosine cX3_cosine 3 (some .long) :: ([.fieldLink RX3 28 "CosineSeriesModel" "cosines" "[I"] ++ wsX30)
def wsX3_isPower : List Cond := .code yX3_isPower cX3_isPower 1 (some .boolean) :: ([.constantLong RX3 132 (4), .methodLink RX3 39 yX3_in, .static yX3_in, .initialized RX3, .code yX3_in cX3_in 6 (some .boolean)])
def wsX3_setValue : List Cond := .code yX3_setValue cX3_setValue 4 (some .long) :: ([.constantLong RX3 134 (16), .constantLong RX3 136 (-134217728), .constantLong RX3 138 (134217728), .constantLong RX3 83 (-9000000000000000001), .fieldLink RX3 17 "CosineSeriesModel" "values" "[I", .methodLink RX3 39 yX3_in, .static yX3_in, .initialized RX3, .code yX3_in cX3_in 6 (some .boolean)] ++ wsX30)
def wsX3_interpolate_r1 : List Cond := [Cond.constantLong RX3 83 (-9000000000000000001), Cond.constantLong RX3 47 (2), Cond.fieldLink RX3 17 "CosineSeriesModel" "values" "[I", Cond.constantLong RX3 45 (1048576), Cond.methodLink RX3 140 yX3_isPower, Cond.static yX3_isPower, Cond.initialized RX3, Cond.code yX3_isPower cX3_isPower 1 (some .boolean), Cond.constantLong RX3 132 (4), Cond.methodLink RX3 39 yX3_in, Cond.static yX3_in, Cond.code yX3_in cX3_in 6 (some .boolean), Cond.methodLink RX3 75 yX3_isSeries, Cond.static yX3_isSeries, Cond.code yX3_isSeries cX3_isSeries 1 (some .boolean), Cond.constantLong RX3 37 (7), Cond.methodLink RX3 103 yX3_clears, Cond.instanceMethod yX3_clears, Cond.selects RX3 yX3_clears yX3_clears, Cond.code yX3_clears cX3_clears 4 none, Cond.fieldLink RX3 13 "CosineSeriesModel" "degrees" "[I", Cond.methodLink RX3 49 yX3_sets, Cond.instanceMethod yX3_sets, Cond.selects RX3 yX3_sets yX3_sets]
def wsX3_interpolate_r2 : List Cond := [Cond.code yX3_sets cX3_sets 5 none, Cond.fieldLink RX3 7 "CosineSeriesModel" "c" "[J", Cond.methodLink RX3 143 yX3_cosine, Cond.instanceMethod yX3_cosine, Cond.selects RX3 yX3_cosine yX3_cosine, Cond.code yX3_cosine cX3_cosine 3 (some .long), Cond.fieldLink RX3 28 "CosineSeriesModel" "cosines" "[I", Cond.methodLink RX3 88 yX3_rounded, Cond.static yX3_rounded, Cond.code yX3_rounded cX3_rounded 6 (some .long), Cond.methodLink RX3 85 yX3_gives, Cond.instanceMethod yX3_gives, Cond.selects RX3 yX3_gives yX3_gives, Cond.code yX3_gives cX3_gives 4 (some .long), Cond.methodLink RX3 67 yX3_trims, Cond.instanceMethod yX3_trims, Cond.selects RX3 yX3_trims yX3_trims, Cond.code yX3_trims cX3_trims 3 (some .long), Cond.constantLong RX3 57 (-9000000000000000002), Cond.constantLong RX3 63 (268435456), Cond.constantLong RX3 65 (-9000000000000000003), Cond.methodLink RX3 53 yX3_of, Cond.instanceMethod yX3_of, Cond.selects RX3 yX3_of yX3_of]
def wsX3_interpolate_r3 : List Cond := [Cond.code yX3_of cX3_of 3 (some .long), Cond.methodLink RX3 59 yX3_size, Cond.static yX3_size, Cond.code yX3_size cX3_size 2 (some .long), Cond.methodLink RX3 71 yX3_copies, Cond.instanceMethod yX3_copies, Cond.selects RX3 yX3_copies yX3_copies, Cond.code yX3_copies cX3_copies 4 none]
def wsX3_interpolate : List Cond := .code yX3_interpolate cX3_interpolate 8 (some .long) :: ((wsX3_interpolate_r1 ++ (wsX3_interpolate_r2 ++ wsX3_interpolate_r3)) ++ wsX30)
def wsX3_pointAt : List Cond := .code yX3_pointAt cX3_pointAt 3 (some .long) :: ([.methodLink RX3 143 yX3_cosine, .instanceMethod yX3_cosine, .selects RX3 yX3_cosine yX3_cosine, .initialized RX3, .code yX3_cosine cX3_cosine 3 (some .long), .fieldLink RX3 28 "CosineSeriesModel" "cosines" "[I"] ++ wsX30)
def wsX3_sample_r1 : List Cond := [Cond.constantLong RX3 83 (-9000000000000000001), Cond.constantLong RX3 138 (134217728), Cond.constantLong RX3 65 (-9000000000000000003), Cond.fieldLink RX3 17 "CosineSeriesModel" "values" "[I", Cond.methodLink RX3 75 yX3_isSeries, Cond.static yX3_isSeries, Cond.initialized RX3, Cond.code yX3_isSeries cX3_isSeries 1 (some .boolean), Cond.constantLong RX3 37 (7), Cond.methodLink RX3 39 yX3_in, Cond.static yX3_in, Cond.code yX3_in cX3_in 6 (some .boolean), Cond.methodLink RX3 140 yX3_isPower, Cond.static yX3_isPower, Cond.code yX3_isPower cX3_isPower 1 (some .boolean), Cond.constantLong RX3 132 (4), Cond.methodLink RX3 146 yX3_pointAt, Cond.instanceMethod yX3_pointAt, Cond.selects RX3 yX3_pointAt yX3_pointAt, Cond.code yX3_pointAt cX3_pointAt 3 (some .long), Cond.methodLink RX3 143 yX3_cosine, Cond.instanceMethod yX3_cosine, Cond.selects RX3 yX3_cosine yX3_cosine, Cond.code yX3_cosine cX3_cosine 3 (some .long)]
def wsX3_sample_r2 : List Cond := [Cond.fieldLink RX3 28 "CosineSeriesModel" "cosines" "[I", Cond.methodLink RX3 95 yX3_valueAt, Cond.instanceMethod yX3_valueAt, Cond.selects RX3 yX3_valueAt yX3_valueAt, Cond.code yX3_valueAt cX3_valueAt 11 (some .long), Cond.fieldLink RX3 13 "CosineSeriesModel" "degrees" "[I", Cond.constantLong RX3 47 (2), Cond.constantLong RX3 45 (1048576), Cond.methodLink RX3 53 yX3_of, Cond.instanceMethod yX3_of, Cond.selects RX3 yX3_of yX3_of, Cond.code yX3_of cX3_of 3 (some .long), Cond.fieldLink RX3 7 "CosineSeriesModel" "c" "[J", Cond.methodLink RX3 88 yX3_rounded, Cond.static yX3_rounded, Cond.code yX3_rounded cX3_rounded 6 (some .long), Cond.methodLink RX3 59 yX3_size, Cond.static yX3_size, Cond.code yX3_size cX3_size 2 (some .long)]
def wsX3_sample : List Cond := .code yX3_sample cX3_sample 5 (some .long) :: ((wsX3_sample_r1 ++ wsX3_sample_r2) ++ wsX30)
def wsX3_misfit_r1 : List Cond := [Cond.constantLong RX3 83 (-9000000000000000001), Cond.fieldLink RX3 17 "CosineSeriesModel" "values" "[I", Cond.methodLink RX3 75 yX3_isSeries, Cond.static yX3_isSeries, Cond.initialized RX3, Cond.code yX3_isSeries cX3_isSeries 1 (some .boolean), Cond.constantLong RX3 37 (7), Cond.methodLink RX3 39 yX3_in, Cond.static yX3_in, Cond.code yX3_in cX3_in 6 (some .boolean), Cond.methodLink RX3 140 yX3_isPower, Cond.static yX3_isPower, Cond.code yX3_isPower cX3_isPower 1 (some .boolean), Cond.constantLong RX3 132 (4), Cond.methodLink RX3 146 yX3_pointAt, Cond.instanceMethod yX3_pointAt, Cond.selects RX3 yX3_pointAt yX3_pointAt, Cond.code yX3_pointAt cX3_pointAt 3 (some .long), Cond.methodLink RX3 143 yX3_cosine, Cond.instanceMethod yX3_cosine, Cond.selects RX3 yX3_cosine yX3_cosine, Cond.code yX3_cosine cX3_cosine 3 (some .long), Cond.fieldLink RX3 28 "CosineSeriesModel" "cosines" "[I", Cond.methodLink RX3 95 yX3_valueAt]
def wsX3_misfit_r2 : List Cond := [Cond.instanceMethod yX3_valueAt, Cond.selects RX3 yX3_valueAt yX3_valueAt, Cond.code yX3_valueAt cX3_valueAt 11 (some .long), Cond.fieldLink RX3 13 "CosineSeriesModel" "degrees" "[I", Cond.constantLong RX3 47 (2), Cond.constantLong RX3 45 (1048576), Cond.methodLink RX3 53 yX3_of, Cond.instanceMethod yX3_of, Cond.selects RX3 yX3_of yX3_of, Cond.code yX3_of cX3_of 3 (some .long), Cond.fieldLink RX3 7 "CosineSeriesModel" "c" "[J", Cond.methodLink RX3 88 yX3_rounded, Cond.static yX3_rounded, Cond.code yX3_rounded cX3_rounded 6 (some .long), Cond.methodLink RX3 59 yX3_size, Cond.static yX3_size, Cond.code yX3_size cX3_size 2 (some .long)]
def wsX3_misfit : List Cond := .code yX3_misfit cX3_misfit 8 (some .long) :: ((wsX3_misfit_r1 ++ wsX3_misfit_r2) ++ wsX30)
def wsX3_extremePoint : List Cond := .code yX3_extremePoint cX3_extremePoint 3 (some .long) :: ([.constantLong RX3 83 (-9000000000000000001), .methodLink RX3 140 yX3_isPower, .static yX3_isPower, .initialized RX3, .code yX3_isPower cX3_isPower 1 (some .boolean), .constantLong RX3 132 (4), .methodLink RX3 39 yX3_in, .static yX3_in, .code yX3_in cX3_in 6 (some .boolean), .methodLink RX3 146 yX3_pointAt, .instanceMethod yX3_pointAt, .selects RX3 yX3_pointAt yX3_pointAt, .code yX3_pointAt cX3_pointAt 3 (some .long), .methodLink RX3 143 yX3_cosine, .instanceMethod yX3_cosine, .selects RX3 yX3_cosine yX3_cosine, .code yX3_cosine cX3_cosine 3 (some .long), .fieldLink RX3 28 "CosineSeriesModel" "cosines" "[I"] ++ wsX30)
def wsX3_middle : List Cond := .code yX3_middle cX3_middle 2 (some .int) :: ([])
def wsX3_isFree : List Cond := .code yX3_isFree cX3_isFree 10 (some .boolean) :: ([.fieldLink RX3 13 "CosineSeriesModel" "degrees" "[I", .constantLong RX3 45 (1048576), .constantLong RX3 153 (8), .methodLink RX3 149 yX3_middle, .static yX3_middle, .initialized RX3, .code yX3_middle cX3_middle 2 (some .int), .methodLink RX3 53 yX3_of, .instanceMethod yX3_of, .selects RX3 yX3_of yX3_of, .code yX3_of cX3_of 3 (some .long), .fieldLink RX3 7 "CosineSeriesModel" "c" "[J", .methodLink RX3 59 yX3_size, .static yX3_size, .code yX3_size cX3_size 2 (some .long), .methodLink RX3 95 yX3_valueAt, .instanceMethod yX3_valueAt, .selects RX3 yX3_valueAt yX3_valueAt, .code yX3_valueAt cX3_valueAt 11 (some .long), .constantLong RX3 47 (2), .methodLink RX3 88 yX3_rounded, .static yX3_rounded, .code yX3_rounded cX3_rounded 6 (some .long)] ++ wsX30)
def wsX3_searches_r1 : List Cond := [Cond.fieldLink RX3 155 "CosineSeriesModel" "roots" "I", Cond.fieldLink RX3 159 "CosineSeriesModel" "looks" "I", Cond.fieldLink RX3 34 "CosineSeriesModel" "waits" "[I", Cond.constant RX3 162 (-1048576), Cond.constant RX3 20 (1048576), Cond.fieldLink RX3 31 "CosineSeriesModel" "found" "[I", Cond.methodLink RX3 163 yX3_isFree, Cond.instanceMethod yX3_isFree, Cond.selects RX3 yX3_isFree yX3_isFree, Cond.initialized RX3, Cond.code yX3_isFree cX3_isFree 10 (some .boolean), Cond.fieldLink RX3 13 "CosineSeriesModel" "degrees" "[I", Cond.constantLong RX3 45 (1048576), Cond.constantLong RX3 153 (8), Cond.methodLink RX3 149 yX3_middle, Cond.static yX3_middle, Cond.code yX3_middle cX3_middle 2 (some .int), Cond.methodLink RX3 53 yX3_of, Cond.instanceMethod yX3_of, Cond.selects RX3 yX3_of yX3_of, Cond.code yX3_of cX3_of 3 (some .long), Cond.fieldLink RX3 7 "CosineSeriesModel" "c" "[J", Cond.methodLink RX3 59 yX3_size, Cond.static yX3_size]
def wsX3_searches_r2 : List Cond := [Cond.code yX3_size cX3_size 2 (some .long), Cond.methodLink RX3 95 yX3_valueAt, Cond.instanceMethod yX3_valueAt, Cond.selects RX3 yX3_valueAt yX3_valueAt, Cond.code yX3_valueAt cX3_valueAt 11 (some .long), Cond.constantLong RX3 47 (2), Cond.methodLink RX3 88 yX3_rounded, Cond.static yX3_rounded, Cond.code yX3_rounded cX3_rounded 6 (some .long)]
def wsX3_searches : List Cond := .code yX3_searches cX3_searches 6 none :: ((wsX3_searches_r1 ++ wsX3_searches_r2) ++ wsX30)
def wsX3_root_r1 : List Cond := [Cond.constantLong RX3 83 (-9000000000000000001), Cond.fieldLink RX3 155 "CosineSeriesModel" "roots" "I", Cond.fieldLink RX3 31 "CosineSeriesModel" "found" "[I", Cond.constantLong RX3 130 (-9000000000000000004), Cond.methodLink RX3 75 yX3_isSeries, Cond.static yX3_isSeries, Cond.initialized RX3, Cond.code yX3_isSeries cX3_isSeries 1 (some .boolean), Cond.constantLong RX3 37 (7), Cond.methodLink RX3 39 yX3_in, Cond.static yX3_in, Cond.code yX3_in cX3_in 6 (some .boolean), Cond.methodLink RX3 167 yX3_searches, Cond.instanceMethod yX3_searches, Cond.selects RX3 yX3_searches yX3_searches, Cond.code yX3_searches cX3_searches 6 none, Cond.fieldLink RX3 159 "CosineSeriesModel" "looks" "I", Cond.fieldLink RX3 34 "CosineSeriesModel" "waits" "[I", Cond.constant RX3 162 (-1048576), Cond.constant RX3 20 (1048576), Cond.methodLink RX3 163 yX3_isFree, Cond.instanceMethod yX3_isFree, Cond.selects RX3 yX3_isFree yX3_isFree, Cond.code yX3_isFree cX3_isFree 10 (some .boolean)]
def wsX3_root_r2 : List Cond := [Cond.fieldLink RX3 13 "CosineSeriesModel" "degrees" "[I", Cond.constantLong RX3 45 (1048576), Cond.constantLong RX3 153 (8), Cond.methodLink RX3 149 yX3_middle, Cond.static yX3_middle, Cond.code yX3_middle cX3_middle 2 (some .int), Cond.methodLink RX3 53 yX3_of, Cond.instanceMethod yX3_of, Cond.selects RX3 yX3_of yX3_of, Cond.code yX3_of cX3_of 3 (some .long), Cond.fieldLink RX3 7 "CosineSeriesModel" "c" "[J", Cond.methodLink RX3 59 yX3_size, Cond.static yX3_size, Cond.code yX3_size cX3_size 2 (some .long), Cond.methodLink RX3 95 yX3_valueAt, Cond.instanceMethod yX3_valueAt, Cond.selects RX3 yX3_valueAt yX3_valueAt, Cond.code yX3_valueAt cX3_valueAt 11 (some .long), Cond.constantLong RX3 47 (2), Cond.methodLink RX3 88 yX3_rounded, Cond.static yX3_rounded, Cond.code yX3_rounded cX3_rounded 6 (some .long)]
def wsX3_root : List Cond := .code yX3_root cX3_root 3 (some .long) :: ((wsX3_root_r1 ++ wsX3_root_r2) ++ wsX30)
def wsX3_intervals_r1 : List Cond := [Cond.constantLong RX3 83 (-9000000000000000001), Cond.fieldLink RX3 159 "CosineSeriesModel" "looks" "I", Cond.methodLink RX3 75 yX3_isSeries, Cond.static yX3_isSeries, Cond.initialized RX3, Cond.code yX3_isSeries cX3_isSeries 1 (some .boolean), Cond.constantLong RX3 37 (7), Cond.methodLink RX3 39 yX3_in, Cond.static yX3_in, Cond.code yX3_in cX3_in 6 (some .boolean), Cond.methodLink RX3 167 yX3_searches, Cond.instanceMethod yX3_searches, Cond.selects RX3 yX3_searches yX3_searches, Cond.code yX3_searches cX3_searches 6 none, Cond.fieldLink RX3 155 "CosineSeriesModel" "roots" "I", Cond.fieldLink RX3 34 "CosineSeriesModel" "waits" "[I", Cond.constant RX3 162 (-1048576), Cond.constant RX3 20 (1048576), Cond.fieldLink RX3 31 "CosineSeriesModel" "found" "[I", Cond.methodLink RX3 163 yX3_isFree, Cond.instanceMethod yX3_isFree, Cond.selects RX3 yX3_isFree yX3_isFree, Cond.code yX3_isFree cX3_isFree 10 (some .boolean), Cond.fieldLink RX3 13 "CosineSeriesModel" "degrees" "[I"]
def wsX3_intervals_r2 : List Cond := [Cond.constantLong RX3 45 (1048576), Cond.constantLong RX3 153 (8), Cond.methodLink RX3 149 yX3_middle, Cond.static yX3_middle, Cond.code yX3_middle cX3_middle 2 (some .int), Cond.methodLink RX3 53 yX3_of, Cond.instanceMethod yX3_of, Cond.selects RX3 yX3_of yX3_of, Cond.code yX3_of cX3_of 3 (some .long), Cond.fieldLink RX3 7 "CosineSeriesModel" "c" "[J", Cond.methodLink RX3 59 yX3_size, Cond.static yX3_size, Cond.code yX3_size cX3_size 2 (some .long), Cond.methodLink RX3 95 yX3_valueAt, Cond.instanceMethod yX3_valueAt, Cond.selects RX3 yX3_valueAt yX3_valueAt, Cond.code yX3_valueAt cX3_valueAt 11 (some .long), Cond.constantLong RX3 47 (2), Cond.methodLink RX3 88 yX3_rounded, Cond.static yX3_rounded, Cond.code yX3_rounded cX3_rounded 6 (some .long)]
def wsX3_intervals : List Cond := .code yX3_intervals cX3_intervals 2 (some .long) :: ((wsX3_intervals_r1 ++ wsX3_intervals_r2) ++ wsX30)
def wsX3_greatest_r1 : List Cond := [Cond.constantLong RX3 83 (-9000000000000000001), Cond.constantLong RX3 65 (-9000000000000000003), Cond.constantLong RX3 43 (-1048576), Cond.constantLong RX3 45 (1048576), Cond.fieldLink RX3 155 "CosineSeriesModel" "roots" "I", Cond.fieldLink RX3 31 "CosineSeriesModel" "found" "[I", Cond.methodLink RX3 75 yX3_isSeries, Cond.static yX3_isSeries, Cond.initialized RX3, Cond.code yX3_isSeries cX3_isSeries 1 (some .boolean), Cond.constantLong RX3 37 (7), Cond.methodLink RX3 39 yX3_in, Cond.static yX3_in, Cond.code yX3_in cX3_in 6 (some .boolean), Cond.methodLink RX3 111 yX3_derives, Cond.instanceMethod yX3_derives, Cond.selects RX3 yX3_derives yX3_derives, Cond.code yX3_derives cX3_derives 4 none, Cond.fieldLink RX3 13 "CosineSeriesModel" "degrees" "[I", Cond.constantLong RX3 47 (2), Cond.methodLink RX3 103 yX3_clears, Cond.instanceMethod yX3_clears, Cond.selects RX3 yX3_clears yX3_clears, Cond.code yX3_clears cX3_clears 4 none]
def wsX3_greatest_r2 : List Cond := [Cond.methodLink RX3 49 yX3_sets, Cond.instanceMethod yX3_sets, Cond.selects RX3 yX3_sets yX3_sets, Cond.code yX3_sets cX3_sets 5 none, Cond.fieldLink RX3 7 "CosineSeriesModel" "c" "[J", Cond.methodLink RX3 53 yX3_of, Cond.instanceMethod yX3_of, Cond.selects RX3 yX3_of yX3_of, Cond.code yX3_of cX3_of 3 (some .long), Cond.methodLink RX3 88 yX3_rounded, Cond.static yX3_rounded, Cond.code yX3_rounded cX3_rounded 6 (some .long), Cond.methodLink RX3 67 yX3_trims, Cond.instanceMethod yX3_trims, Cond.selects RX3 yX3_trims yX3_trims, Cond.code yX3_trims cX3_trims 3 (some .long), Cond.constantLong RX3 57 (-9000000000000000002), Cond.constantLong RX3 63 (268435456), Cond.methodLink RX3 59 yX3_size, Cond.static yX3_size, Cond.code yX3_size cX3_size 2 (some .long), Cond.methodLink RX3 167 yX3_searches, Cond.instanceMethod yX3_searches, Cond.selects RX3 yX3_searches yX3_searches]
def wsX3_greatest_r3 : List Cond := [Cond.code yX3_searches cX3_searches 6 none, Cond.fieldLink RX3 159 "CosineSeriesModel" "looks" "I", Cond.fieldLink RX3 34 "CosineSeriesModel" "waits" "[I", Cond.constant RX3 162 (-1048576), Cond.constant RX3 20 (1048576), Cond.methodLink RX3 163 yX3_isFree, Cond.instanceMethod yX3_isFree, Cond.selects RX3 yX3_isFree yX3_isFree, Cond.code yX3_isFree cX3_isFree 10 (some .boolean), Cond.constantLong RX3 153 (8), Cond.methodLink RX3 149 yX3_middle, Cond.static yX3_middle, Cond.code yX3_middle cX3_middle 2 (some .int), Cond.methodLink RX3 95 yX3_valueAt, Cond.instanceMethod yX3_valueAt, Cond.selects RX3 yX3_valueAt yX3_valueAt, Cond.code yX3_valueAt cX3_valueAt 11 (some .long)]
def wsX3_greatest : List Cond := .code yX3_greatest cX3_greatest 9 (some .long) :: ((wsX3_greatest_r1 ++ (wsX3_greatest_r2 ++ wsX3_greatest_r3)) ++ wsX30)
def wsJ9_abs_0f7a4 : List Cond := .code yJ9_abs_0f7a4 cJ9_abs_0f7a4 1 (some .int) :: ([])
def wsJ9_abs_067f4 : List Cond := .code yJ9_abs_067f4 cJ9_abs_067f4 2 (some .long) :: ([])
def wsJ9_max_7cf53 : List Cond := .code yJ9_max_7cf53 cJ9_max_7cf53 2 (some .int) :: ([])
def wsJ9_max_f86c9 : List Cond := .code yJ9_max_f86c9 cJ9_max_f86c9 4 (some .long) :: ([])
theorem inJ9 : ∀ w ∈ wsJ90, w ∈ lw_tbl := by decide +kernel
theorem inJ7 : ∀ w ∈ wsJ70, w ∈ lw_tbl := by decide +kernel
theorem dX0_init_0 : decode cX0_init 0 = .ok (.aload_n 0, 1) := by decide +kernel
theorem dX0_init_1 : decode cX0_init 1 = .ok (.invokespecial 3, 3) := by decide +kernel
theorem dX0_init_4 : decode cX0_init 4 = .ok (.aload_n 0, 1) := by decide +kernel
theorem dX0_init_5 : decode cX0_init 5 = .ok (.bipush 24, 2) := by decide +kernel
theorem dX0_init_7 : decode cX0_init 7 = .ok (.newarray .long, 2) := by decide +kernel
theorem dX0_init_9 : decode cX0_init 9 = .ok (.putfield 11, 3) := by decide +kernel
theorem dX0_init_12 : decode cX0_init 12 = .ok (.aload_n 0, 1) := by decide +kernel
theorem dX0_init_13 : decode cX0_init 13 = .ok (.bipush 32, 2) := by decide +kernel
theorem dX0_init_15 : decode cX0_init 15 = .ok (.newarray .long, 2) := by decide +kernel
theorem dX0_init_17 : decode cX0_init 17 = .ok (.putfield 15, 3) := by decide +kernel
theorem dX0_init_20 : decode cX0_init 20 = .ok (.return_, 1) := by decide +kernel
theorem dX0_count_0 : decode cX0_count 0 = .ok (.aload_n 0, 1) := by decide +kernel
theorem dX0_count_1 : decode cX0_count 1 = .ok (.getfield 18, 3) := by decide +kernel
theorem dX0_count_4 : decode cX0_count 4 = .ok (.ireturn, 1) := by decide +kernel
theorem dX0_lookedAt_0 : decode cX0_lookedAt 0 = .ok (.aload_n 0, 1) := by decide +kernel
theorem dX0_lookedAt_1 : decode cX0_lookedAt 1 = .ok (.getfield 22, 3) := by decide +kernel
theorem dX0_lookedAt_4 : decode cX0_lookedAt 4 = .ok (.ireturn, 1) := by decide +kernel
theorem dX0_found_0 : decode cX0_found 0 = .ok (.iload_n 1, 1) := by decide +kernel
theorem dX0_found_1 : decode cX0_found 1 = .ok (.ifCond .lt 21, 3) := by decide +kernel
theorem dX0_found_4 : decode cX0_found 4 = .ok (.iload_n 1, 1) := by decide +kernel
theorem dX0_found_5 : decode cX0_found 5 = .ok (.aload_n 0, 1) := by decide +kernel
theorem dX0_found_6 : decode cX0_found 6 = .ok (.getfield 11, 3) := by decide +kernel
theorem dX0_found_9 : decode cX0_found 9 = .ok (.arraylength, 1) := by decide +kernel
theorem dX0_found_10 : decode cX0_found 10 = .ok (.if_icmp .ge 12, 3) := by decide +kernel
theorem dX0_found_13 : decode cX0_found 13 = .ok (.aload_n 0, 1) := by decide +kernel
theorem dX0_found_14 : decode cX0_found 14 = .ok (.getfield 11, 3) := by decide +kernel
theorem dX0_found_17 : decode cX0_found 17 = .ok (.iload_n 1, 1) := by decide +kernel
theorem dX0_found_18 : decode cX0_found 18 = .ok (.laload, 1) := by decide +kernel
theorem dX0_found_19 : decode cX0_found 19 = .ok (.goto 4, 3) := by decide +kernel
theorem dX0_found_22 : decode cX0_found 22 = .ok (.lconst 0, 1) := by decide +kernel
theorem dX0_found_23 : decode cX0_found 23 = .ok (.lreturn, 1) := by decide +kernel
abbrev vwCl : List vw_C := [(RX0, TX0, 5), (RX1, TX1, 2), (RX2, TX2, 7), (RX3, TX3, 8)]
end
section
set_option maxRecDepth 20000 in
theorem ggX0_run_X0_steepnessOf : GoodIn wsX0_run wsX0_steepnessOf := goodIn_r _ [14, 15, 16, 8, 17, 18, 19, 20, 21, 22, 23, 24, 25, 26, 27, 28, 75, 76] (by decide +kernel) (by decide +kernel)
set_option maxRecDepth 20000 in
theorem gX0_run_X0_steepnessOf : GoodIn wsX0_run (va_wsS RX0 25 yX0_steepnessOf wsX0_steepnessOf) := goodIn_app (goodIn_of _ (by decide +kernel)) ggX0_run_X0_steepnessOf
set_option maxRecDepth 20000 in
theorem ggX0_run_X0_push : GoodIn wsX0_run wsX0_push := goodIn_r _ [32, 3, 33, 70, 71, 72, 73, 74] (by decide +kernel) (by decide +kernel)
set_option maxRecDepth 20000 in
theorem gX0_run_X0_push : GoodIn wsX0_run (wsV RX0 34 RX0 yX0_push wsX0_push) := goodIn_app (goodIn_of _ (by decide +kernel)) ggX0_run_X0_push
set_option maxRecDepth 20000 in
theorem ggX0_run_X0_nextEnd : GoodIn wsX0_run wsX0_nextEnd := goodIn_r _ [37, 3, 33, 70, 71, 72, 73, 74] (by decide +kernel) (by decide +kernel)
set_option maxRecDepth 20000 in
theorem gX0_run_X0_nextEnd : GoodIn wsX0_run (wsV RX0 40 RX0 yX0_nextEnd wsX0_nextEnd) := goodIn_app (goodIn_of _ (by decide +kernel)) ggX0_run_X0_nextEnd
set_option maxRecDepth 20000 in
theorem ggX0_run_J9_floorDiv_b2ac5 : GoodIn wsX0_run wsJ9_floorDiv_b2ac5 := goodIn_r _ [41, 42, 43, 40, 44] (by decide +kernel) (by decide +kernel)
set_option maxRecDepth 20000 in
theorem gX0_run_J9_floorDiv_b2ac5 : GoodIn wsX0_run (va_wsS RX0 44 yJ9_floorDiv_b2ac5 wsJ9_floorDiv_b2ac5) := goodIn_app (goodIn_of _ (by decide +kernel)) ggX0_run_J9_floorDiv_b2ac5
set_option maxRecDepth 20000 in
theorem ggX0_run_X0_isFree : GoodIn wsX0_run wsX0_isFree := goodIn_r _ [47, 48, 15, 16, 8, 17, 4, 18, 19, 20, 21, 22, 23, 49, 50, 51, 52, 53, 54, 55, 25, 26, 27, 28, 56, 57, 58, 59, 60, 43, 40, 44, 75, 76] (by decide +kernel) (by decide +kernel)
set_option maxRecDepth 20000 in
theorem gX0_run_X0_isFree : GoodIn wsX0_run (va_wsS RX0 54 yX0_isFree wsX0_isFree) := goodIn_app (goodIn_of _ (by decide +kernel)) ggX0_run_X0_isFree
set_option maxRecDepth 20000 in
theorem ggX0_run_X0_note : GoodIn wsX0_run wsX0_note := goodIn_r _ [64, 1, 10, 65, 66, 67, 68, 13, 69, 70, 71, 72, 73, 74] (by decide +kernel) (by decide +kernel)
set_option maxRecDepth 20000 in
theorem gX0_run_X0_note : GoodIn wsX0_run (wsV RX0 60 RX0 yX0_note wsX0_note) := goodIn_app (goodIn_of _ (by decide +kernel)) ggX0_run_X0_note
theorem dX0_run_0 : decode cX0_run 0 = .ok (.aload_n 1, 1) := by decide +kernel
theorem dX0_run_1 : decode cX0_run 1 = .ok (.invokestatic 25, 3) := by decide +kernel
theorem dX0_run_4 : decode cX0_run 4 = .ok (.lstore_n 2, 1) := by decide +kernel
theorem dX0_run_5 : decode cX0_run 5 = .ok (.aload_n 0, 1) := by decide +kernel
theorem dX0_run_6 : decode cX0_run 6 = .ok (.iconst 0, 1) := by decide +kernel
theorem dX0_run_7 : decode cX0_run 7 = .ok (.putfield 18, 3) := by decide +kernel
theorem dX0_run_10 : decode cX0_run 10 = .ok (.aload_n 0, 1) := by decide +kernel
theorem dX0_run_11 : decode cX0_run 11 = .ok (.iconst 0, 1) := by decide +kernel
theorem dX0_run_12 : decode cX0_run 12 = .ok (.putfield 22, 3) := by decide +kernel
theorem dX0_run_15 : decode cX0_run 15 = .ok (.aload_n 0, 1) := by decide +kernel
theorem dX0_run_16 : decode cX0_run 16 = .ok (.iconst 0, 1) := by decide +kernel
theorem dX0_run_17 : decode cX0_run 17 = .ok (.putfield 29, 3) := by decide +kernel
theorem dX0_run_20 : decode cX0_run 20 = .ok (.aload_n 0, 1) := by decide +kernel
theorem dX0_run_21 : decode cX0_run 21 = .ok (.ldc2_w 32, 3) := by decide +kernel
theorem dX0_run_24 : decode cX0_run 24 = .ok (.invokevirtual 34, 3) := by decide +kernel
theorem dX0_run_27 : decode cX0_run 27 = .ok (.ldc2_w 38, 3) := by decide +kernel
theorem dX0_run_30 : decode cX0_run 30 = .ok (.lstore 4, 2) := by decide +kernel
theorem dX0_run_32 : decode cX0_run 32 = .ok (.aload_n 0, 1) := by decide +kernel
theorem dX0_run_33 : decode cX0_run 33 = .ok (.getfield 29, 3) := by decide +kernel
theorem dX0_run_36 : decode cX0_run 36 = .ok (.ifCond .le 127, 3) := by decide +kernel
theorem dX0_run_39 : decode cX0_run 39 = .ok (.aload_n 0, 1) := by decide +kernel
theorem dX0_run_40 : decode cX0_run 40 = .ok (.getfield 18, 3) := by decide +kernel
theorem dX0_run_43 : decode cX0_run 43 = .ok (.bipush 24, 2) := by decide +kernel
theorem dX0_run_45 : decode cX0_run 45 = .ok (.if_icmp .ge 118, 3) := by decide +kernel
theorem dX0_run_48 : decode cX0_run 48 = .ok (.aload_n 0, 1) := by decide +kernel
theorem dX0_run_49 : decode cX0_run 49 = .ok (.getfield 22, 3) := by decide +kernel
theorem dX0_run_52 : decode cX0_run 52 = .ok (.sipush 2000, 3) := by decide +kernel
theorem dX0_run_55 : decode cX0_run 55 = .ok (.if_icmp .ge 108, 3) := by decide +kernel
theorem dX0_run_58 : decode cX0_run 58 = .ok (.aload_n 0, 1) := by decide +kernel
theorem dX0_run_59 : decode cX0_run 59 = .ok (.dup, 1) := by decide +kernel
theorem dX0_run_60 : decode cX0_run 60 = .ok (.getfield 22, 3) := by decide +kernel
theorem dX0_run_63 : decode cX0_run 63 = .ok (.iconst 1, 1) := by decide +kernel
theorem dX0_run_64 : decode cX0_run 64 = .ok (.iadd, 1) := by decide +kernel
theorem dX0_run_65 : decode cX0_run 65 = .ok (.putfield 22, 3) := by decide +kernel
theorem dX0_run_68 : decode cX0_run 68 = .ok (.aload_n 0, 1) := by decide +kernel
theorem dX0_run_69 : decode cX0_run 69 = .ok (.invokevirtual 40, 3) := by decide +kernel
theorem dX0_run_72 : decode cX0_run 72 = .ok (.lstore 6, 2) := by decide +kernel
theorem dX0_run_74 : decode cX0_run 74 = .ok (.lload 4, 2) := by decide +kernel
theorem dX0_run_76 : decode cX0_run 76 = .ok (.lload 6, 2) := by decide +kernel
theorem dX0_run_78 : decode cX0_run 78 = .ok (.ladd, 1) := by decide +kernel
theorem dX0_run_79 : decode cX0_run 79 = .ok (.iconst 2, 1) := by decide +kernel
theorem dX0_run_80 : decode cX0_run 80 = .ok (.invokestatic 44, 3) := by decide +kernel
theorem dX0_run_83 : decode cX0_run 83 = .ok (.lstore 8, 2) := by decide +kernel
theorem dX0_run_85 : decode cX0_run 85 = .ok (.aload_n 1, 1) := by decide +kernel
theorem dX0_run_86 : decode cX0_run 86 = .ok (.lload_n 2, 1) := by decide +kernel
theorem dX0_run_87 : decode cX0_run 87 = .ok (.lload 8, 2) := by decide +kernel
theorem dX0_run_89 : decode cX0_run 89 = .ok (.lload 6, 2) := by decide +kernel
theorem dX0_run_91 : decode cX0_run 91 = .ok (.lload 8, 2) := by decide +kernel
theorem dX0_run_93 : decode cX0_run 93 = .ok (.lsub, 1) := by decide +kernel
theorem dX0_run_94 : decode cX0_run 94 = .ok (.lload 8, 2) := by decide +kernel
theorem dX0_run_96 : decode cX0_run 96 = .ok (.lload 4, 2) := by decide +kernel
theorem dX0_run_98 : decode cX0_run 98 = .ok (.lsub, 1) := by decide +kernel
theorem dX0_run_99 : decode cX0_run 99 = .ok (.invokestatic 50, 3) := by decide +kernel
theorem dX0_run_102 : decode cX0_run 102 = .ok (.invokestatic 54, 3) := by decide +kernel
theorem dX0_run_105 : decode cX0_run 105 = .ok (.istore 10, 2) := by decide +kernel
theorem dX0_run_107 : decode cX0_run 107 = .ok (.iload 10, 2) := by decide +kernel
theorem dX0_run_109 : decode cX0_run 109 = .ok (.ifCond .ne 24, 3) := by decide +kernel
theorem dX0_run_112 : decode cX0_run 112 = .ok (.lload 6, 2) := by decide +kernel
theorem dX0_run_114 : decode cX0_run 114 = .ok (.lload 4, 2) := by decide +kernel
theorem dX0_run_116 : decode cX0_run 116 = .ok (.lsub, 1) := by decide +kernel
theorem dX0_run_117 : decode cX0_run 117 = .ok (.ldc2_w 58, 3) := by decide +kernel
theorem dX0_run_120 : decode cX0_run 120 = .ok (.lcmp, 1) := by decide +kernel
theorem dX0_run_121 : decode cX0_run 121 = .ok (.ifCond .le 12, 3) := by decide +kernel
theorem dX0_run_124 : decode cX0_run 124 = .ok (.aload_n 0, 1) := by decide +kernel
theorem dX0_run_125 : decode cX0_run 125 = .ok (.lload 8, 2) := by decide +kernel
theorem dX0_run_127 : decode cX0_run 127 = .ok (.invokevirtual 34, 3) := by decide +kernel
theorem dX0_run_130 : decode cX0_run 130 = .ok (.goto 30, 3) := by decide +kernel
theorem dX0_run_133 : decode cX0_run 133 = .ok (.iload 10, 2) := by decide +kernel
theorem dX0_run_135 : decode cX0_run 135 = .ok (.ifCond .ne 11, 3) := by decide +kernel
theorem dX0_run_138 : decode cX0_run 138 = .ok (.aload_n 0, 1) := by decide +kernel
theorem dX0_run_139 : decode cX0_run 139 = .ok (.lload 8, 2) := by decide +kernel
theorem dX0_run_141 : decode cX0_run 141 = .ok (.lload 4, 2) := by decide +kernel
theorem dX0_run_143 : decode cX0_run 143 = .ok (.invokevirtual 60, 3) := by decide +kernel
theorem dX0_run_146 : decode cX0_run 146 = .ok (.aload_n 0, 1) := by decide +kernel
theorem dX0_run_147 : decode cX0_run 147 = .ok (.dup, 1) := by decide +kernel
theorem dX0_run_148 : decode cX0_run 148 = .ok (.getfield 29, 3) := by decide +kernel
theorem dX0_run_151 : decode cX0_run 151 = .ok (.iconst 1, 1) := by decide +kernel
theorem dX0_run_152 : decode cX0_run 152 = .ok (.isub, 1) := by decide +kernel
theorem dX0_run_153 : decode cX0_run 153 = .ok (.putfield 29, 3) := by decide +kernel
theorem dX0_run_156 : decode cX0_run 156 = .ok (.lload 6, 2) := by decide +kernel
theorem dX0_run_158 : decode cX0_run 158 = .ok (.lstore 4, 2) := by decide +kernel
theorem dX0_run_160 : decode cX0_run 160 = .ok (.goto (-128), 3) := by decide +kernel
theorem dX0_run_163 : decode cX0_run 163 = .ok (.return_, 1) := by decide +kernel
set_option maxRecDepth 20000 in
theorem ggX0_steepnessOf_X1_top : GoodIn wsX0_steepnessOf wsX1_top := goodIn_r _ [9, 10, 16, 17] (by decide +kernel) (by decide +kernel)
set_option maxRecDepth 20000 in
theorem gX0_steepnessOf_X1_top : GoodIn wsX0_steepnessOf (wsV RX0 64 RX1 yX1_top wsX1_top) := goodIn_app (goodIn_of _ (by decide +kernel)) ggX0_steepnessOf_X1_top
set_option maxRecDepth 20000 in
theorem ggX0_steepnessOf_X1_at : GoodIn wsX0_steepnessOf wsX1_at := goodIn_r _ [14, 15, 16, 17] (by decide +kernel) (by decide +kernel)
set_option maxRecDepth 20000 in
theorem gX0_steepnessOf_X1_at : GoodIn wsX0_steepnessOf (wsV RX0 70 RX1 yX1_at wsX1_at) := goodIn_app (goodIn_of _ (by decide +kernel)) ggX0_steepnessOf_X1_at
theorem dX0_steepnessOf_0 : decode cX0_steepnessOf 0 = .ok (.lconst 0, 1) := by decide +kernel
theorem dX0_steepnessOf_1 : decode cX0_steepnessOf 1 = .ok (.lstore_n 1, 1) := by decide +kernel
theorem dX0_steepnessOf_2 : decode cX0_steepnessOf 2 = .ok (.iconst 1, 1) := by decide +kernel
theorem dX0_steepnessOf_3 : decode cX0_steepnessOf 3 = .ok (.istore_n 3, 1) := by decide +kernel
theorem dX0_steepnessOf_4 : decode cX0_steepnessOf 4 = .ok (.iload_n 3, 1) := by decide +kernel
theorem dX0_steepnessOf_5 : decode cX0_steepnessOf 5 = .ok (.aload_n 0, 1) := by decide +kernel
theorem dX0_steepnessOf_6 : decode cX0_steepnessOf 6 = .ok (.invokevirtual 64, 3) := by decide +kernel
theorem dX0_steepnessOf_9 : decode cX0_steepnessOf 9 = .ok (.if_icmp .gt 25, 3) := by decide +kernel
theorem dX0_steepnessOf_12 : decode cX0_steepnessOf 12 = .ok (.lload_n 1, 1) := by decide +kernel
theorem dX0_steepnessOf_13 : decode cX0_steepnessOf 13 = .ok (.iload_n 3, 1) := by decide +kernel
theorem dX0_steepnessOf_14 : decode cX0_steepnessOf 14 = .ok (.iload_n 3, 1) := by decide +kernel
theorem dX0_steepnessOf_15 : decode cX0_steepnessOf 15 = .ok (.imul, 1) := by decide +kernel
theorem dX0_steepnessOf_16 : decode cX0_steepnessOf 16 = .ok (.i2l, 1) := by decide +kernel
theorem dX0_steepnessOf_17 : decode cX0_steepnessOf 17 = .ok (.aload_n 0, 1) := by decide +kernel
theorem dX0_steepnessOf_18 : decode cX0_steepnessOf 18 = .ok (.iload_n 3, 1) := by decide +kernel
theorem dX0_steepnessOf_19 : decode cX0_steepnessOf 19 = .ok (.invokevirtual 70, 3) := by decide +kernel
theorem dX0_steepnessOf_22 : decode cX0_steepnessOf 22 = .ok (.invokestatic 74, 3) := by decide +kernel
theorem dX0_steepnessOf_25 : decode cX0_steepnessOf 25 = .ok (.lmul, 1) := by decide +kernel
theorem dX0_steepnessOf_26 : decode cX0_steepnessOf 26 = .ok (.ladd, 1) := by decide +kernel
theorem dX0_steepnessOf_27 : decode cX0_steepnessOf 27 = .ok (.lstore_n 1, 1) := by decide +kernel
theorem dX0_steepnessOf_28 : decode cX0_steepnessOf 28 = .ok (.iinc 3 1, 3) := by decide +kernel
theorem dX0_steepnessOf_31 : decode cX0_steepnessOf 31 = .ok (.goto (-27), 3) := by decide +kernel
theorem dX0_steepnessOf_34 : decode cX0_steepnessOf 34 = .ok (.lload_n 1, 1) := by decide +kernel
theorem dX0_steepnessOf_35 : decode cX0_steepnessOf 35 = .ok (.lreturn, 1) := by decide +kernel
set_option maxRecDepth 20000 in
theorem ggX0_isFree_X1_top : GoodIn wsX0_isFree wsX1_top := goodIn_r _ [11, 12, 32, 33] (by decide +kernel) (by decide +kernel)
set_option maxRecDepth 20000 in
theorem gX0_isFree_X1_top : GoodIn wsX0_isFree (wsV RX0 64 RX1 yX1_top wsX1_top) := goodIn_app (goodIn_of _ (by decide +kernel)) ggX0_isFree_X1_top
set_option maxRecDepth 20000 in
theorem ggX0_isFree_X1_valueAt : GoodIn wsX0_isFree wsX1_valueAt := goodIn_r _ [16, 12, 17, 18, 19, 20, 21, 10, 22, 23, 24, 25, 26, 27, 28, 29, 30, 31, 32, 33] (by decide +kernel) (by decide +kernel)
set_option maxRecDepth 20000 in
theorem gX0_isFree_X1_valueAt : GoodIn wsX0_isFree (wsV RX0 80 RX1 yX1_valueAt wsX1_valueAt) := goodIn_app (goodIn_of _ (by decide +kernel)) ggX0_isFree_X1_valueAt
set_option maxRecDepth 20000 in
theorem ggX0_isFree_X2_rounded : GoodIn wsX0_isFree wsX2_rounded := goodIn_r _ [26, 27, 28, 29, 30, 31] (by decide +kernel) (by decide +kernel)
set_option maxRecDepth 20000 in
theorem gX0_isFree_X2_rounded_n83 : GoodIn wsX0_isFree (wsX2_rounded) := ggX0_isFree_X2_rounded
theorem dX0_isFree_0 : decode cX0_isFree 0 = .ok (.ldc2_w 78, 3) := by decide +kernel
theorem dX0_isFree_3 : decode cX0_isFree 3 = .ok (.aload_n 0, 1) := by decide +kernel
theorem dX0_isFree_4 : decode cX0_isFree 4 = .ok (.invokevirtual 64, 3) := by decide +kernel
theorem dX0_isFree_7 : decode cX0_isFree 7 = .ok (.iconst 1, 1) := by decide +kernel
theorem dX0_isFree_8 : decode cX0_isFree 8 = .ok (.iadd, 1) := by decide +kernel
theorem dX0_isFree_9 : decode cX0_isFree 9 = .ok (.i2l, 1) := by decide +kernel
theorem dX0_isFree_10 : decode cX0_isFree 10 = .ok (.lmul, 1) := by decide +kernel
theorem dX0_isFree_11 : decode cX0_isFree 11 = .ok (.lstore 7, 2) := by decide +kernel
theorem dX0_isFree_13 : decode cX0_isFree 13 = .ok (.aload_n 0, 1) := by decide +kernel
theorem dX0_isFree_14 : decode cX0_isFree 14 = .ok (.lload_n 3, 1) := by decide +kernel
theorem dX0_isFree_15 : decode cX0_isFree 15 = .ok (.invokevirtual 80, 3) := by decide +kernel
theorem dX0_isFree_18 : decode cX0_isFree 18 = .ok (.invokestatic 74, 3) := by decide +kernel
theorem dX0_isFree_21 : decode cX0_isFree 21 = .ok (.lload_n 1, 1) := by decide +kernel
theorem dX0_isFree_22 : decode cX0_isFree 22 = .ok (.lload 5, 2) := by decide +kernel
theorem dX0_isFree_24 : decode cX0_isFree 24 = .ok (.lmul, 1) := by decide +kernel
theorem dX0_isFree_25 : decode cX0_isFree 25 = .ok (.ldc2_w 32, 3) := by decide +kernel
theorem dX0_isFree_28 : decode cX0_isFree 28 = .ok (.invokestatic 83, 3) := by decide +kernel
theorem dX0_isFree_31 : decode cX0_isFree 31 = .ok (.lload 7, 2) := by decide +kernel
theorem dX0_isFree_33 : decode cX0_isFree 33 = .ok (.ladd, 1) := by decide +kernel
theorem dX0_isFree_34 : decode cX0_isFree 34 = .ok (.lcmp, 1) := by decide +kernel
theorem dX0_isFree_35 : decode cX0_isFree 35 = .ok (.ifCond .le 7, 3) := by decide +kernel
theorem dX0_isFree_38 : decode cX0_isFree 38 = .ok (.iconst 1, 1) := by decide +kernel
theorem dX0_isFree_39 : decode cX0_isFree 39 = .ok (.goto 4, 3) := by decide +kernel
theorem dX0_isFree_42 : decode cX0_isFree 42 = .ok (.iconst 0, 1) := by decide +kernel
theorem dX0_isFree_43 : decode cX0_isFree 43 = .ok (.ireturn, 1) := by decide +kernel
theorem dX0_push_0 : decode cX0_push 0 = .ok (.aload_n 0, 1) := by decide +kernel
theorem dX0_push_1 : decode cX0_push 1 = .ok (.getfield 29, 3) := by decide +kernel
theorem dX0_push_4 : decode cX0_push 4 = .ok (.ifCond .lt 35, 3) := by decide +kernel
theorem dX0_push_7 : decode cX0_push 7 = .ok (.aload_n 0, 1) := by decide +kernel
theorem dX0_push_8 : decode cX0_push 8 = .ok (.getfield 29, 3) := by decide +kernel
theorem dX0_push_11 : decode cX0_push 11 = .ok (.aload_n 0, 1) := by decide +kernel
theorem dX0_push_12 : decode cX0_push 12 = .ok (.getfield 15, 3) := by decide +kernel
theorem dX0_push_15 : decode cX0_push 15 = .ok (.arraylength, 1) := by decide +kernel
theorem dX0_push_16 : decode cX0_push 16 = .ok (.if_icmp .ge 23, 3) := by decide +kernel
theorem dX0_push_19 : decode cX0_push 19 = .ok (.aload_n 0, 1) := by decide +kernel
theorem dX0_push_20 : decode cX0_push 20 = .ok (.getfield 15, 3) := by decide +kernel
theorem dX0_push_23 : decode cX0_push 23 = .ok (.aload_n 0, 1) := by decide +kernel
theorem dX0_push_24 : decode cX0_push 24 = .ok (.getfield 29, 3) := by decide +kernel
theorem dX0_push_27 : decode cX0_push 27 = .ok (.lload_n 1, 1) := by decide +kernel
theorem dX0_push_28 : decode cX0_push 28 = .ok (.lastore, 1) := by decide +kernel
theorem dX0_push_29 : decode cX0_push 29 = .ok (.aload_n 0, 1) := by decide +kernel
theorem dX0_push_30 : decode cX0_push 30 = .ok (.dup, 1) := by decide +kernel
theorem dX0_push_31 : decode cX0_push 31 = .ok (.getfield 29, 3) := by decide +kernel
theorem dX0_push_34 : decode cX0_push 34 = .ok (.iconst 1, 1) := by decide +kernel
theorem dX0_push_35 : decode cX0_push 35 = .ok (.iadd, 1) := by decide +kernel
theorem dX0_push_36 : decode cX0_push 36 = .ok (.putfield 29, 3) := by decide +kernel
theorem dX0_push_39 : decode cX0_push 39 = .ok (.return_, 1) := by decide +kernel
theorem dX0_nextEnd_0 : decode cX0_nextEnd 0 = .ok (.aload_n 0, 1) := by decide +kernel
theorem dX0_nextEnd_1 : decode cX0_nextEnd 1 = .ok (.getfield 29, 3) := by decide +kernel
theorem dX0_nextEnd_4 : decode cX0_nextEnd 4 = .ok (.iconst 1, 1) := by decide +kernel
theorem dX0_nextEnd_5 : decode cX0_nextEnd 5 = .ok (.isub, 1) := by decide +kernel
theorem dX0_nextEnd_6 : decode cX0_nextEnd 6 = .ok (.istore_n 1, 1) := by decide +kernel
theorem dX0_nextEnd_7 : decode cX0_nextEnd 7 = .ok (.iload_n 1, 1) := by decide +kernel
theorem dX0_nextEnd_8 : decode cX0_nextEnd 8 = .ok (.ifCond .lt 21, 3) := by decide +kernel
theorem dX0_nextEnd_11 : decode cX0_nextEnd 11 = .ok (.iload_n 1, 1) := by decide +kernel
theorem dX0_nextEnd_12 : decode cX0_nextEnd 12 = .ok (.aload_n 0, 1) := by decide +kernel
theorem dX0_nextEnd_13 : decode cX0_nextEnd 13 = .ok (.getfield 15, 3) := by decide +kernel
theorem dX0_nextEnd_16 : decode cX0_nextEnd 16 = .ok (.arraylength, 1) := by decide +kernel
theorem dX0_nextEnd_17 : decode cX0_nextEnd 17 = .ok (.if_icmp .ge 12, 3) := by decide +kernel
theorem dX0_nextEnd_20 : decode cX0_nextEnd 20 = .ok (.aload_n 0, 1) := by decide +kernel
theorem dX0_nextEnd_21 : decode cX0_nextEnd 21 = .ok (.getfield 15, 3) := by decide +kernel
theorem dX0_nextEnd_24 : decode cX0_nextEnd 24 = .ok (.iload_n 1, 1) := by decide +kernel
theorem dX0_nextEnd_25 : decode cX0_nextEnd 25 = .ok (.laload, 1) := by decide +kernel
theorem dX0_nextEnd_26 : decode cX0_nextEnd 26 = .ok (.goto 4, 3) := by decide +kernel
theorem dX0_nextEnd_29 : decode cX0_nextEnd 29 = .ok (.lconst 0, 1) := by decide +kernel
theorem dX0_nextEnd_30 : decode cX0_nextEnd 30 = .ok (.lreturn, 1) := by decide +kernel
set_option maxRecDepth 20000 in
theorem ggX0_note_X0_found : GoodIn wsX0_note wsX0_found := goodIn_r _ [8, 3, 9, 10, 11, 12, 13] (by decide +kernel) (by decide +kernel)
set_option maxRecDepth 20000 in
theorem gX0_note_X0_found : GoodIn wsX0_note (wsV RX0 86 RX0 yX0_found wsX0_found) := goodIn_app (goodIn_of _ (by decide +kernel)) ggX0_note_X0_found
theorem dX0_note_0 : decode cX0_note 0 = .ok (.aload_n 0, 1) := by decide +kernel
theorem dX0_note_1 : decode cX0_note 1 = .ok (.getfield 18, 3) := by decide +kernel
theorem dX0_note_4 : decode cX0_note 4 = .ok (.ifCond .le 23, 3) := by decide +kernel
theorem dX0_note_7 : decode cX0_note 7 = .ok (.aload_n 0, 1) := by decide +kernel
theorem dX0_note_8 : decode cX0_note 8 = .ok (.aload_n 0, 1) := by decide +kernel
theorem dX0_note_9 : decode cX0_note 9 = .ok (.getfield 18, 3) := by decide +kernel
theorem dX0_note_12 : decode cX0_note 12 = .ok (.iconst 1, 1) := by decide +kernel
theorem dX0_note_13 : decode cX0_note 13 = .ok (.isub, 1) := by decide +kernel
theorem dX0_note_14 : decode cX0_note 14 = .ok (.invokevirtual 86, 3) := by decide +kernel
theorem dX0_note_17 : decode cX0_note 17 = .ok (.lload_n 3, 1) := by decide +kernel
theorem dX0_note_18 : decode cX0_note 18 = .ok (.ldc2_w 58, 3) := by decide +kernel
theorem dX0_note_21 : decode cX0_note 21 = .ok (.lsub, 1) := by decide +kernel
theorem dX0_note_22 : decode cX0_note 22 = .ok (.lcmp, 1) := by decide +kernel
theorem dX0_note_23 : decode cX0_note 23 = .ok (.ifCond .lt 4, 3) := by decide +kernel
theorem dX0_note_26 : decode cX0_note 26 = .ok (.return_, 1) := by decide +kernel
theorem dX0_note_27 : decode cX0_note 27 = .ok (.aload_n 0, 1) := by decide +kernel
theorem dX0_note_28 : decode cX0_note 28 = .ok (.getfield 18, 3) := by decide +kernel
theorem dX0_note_31 : decode cX0_note 31 = .ok (.ifCond .lt 35, 3) := by decide +kernel
theorem dX0_note_34 : decode cX0_note 34 = .ok (.aload_n 0, 1) := by decide +kernel
theorem dX0_note_35 : decode cX0_note 35 = .ok (.getfield 18, 3) := by decide +kernel
theorem dX0_note_38 : decode cX0_note 38 = .ok (.aload_n 0, 1) := by decide +kernel
theorem dX0_note_39 : decode cX0_note 39 = .ok (.getfield 11, 3) := by decide +kernel
theorem dX0_note_42 : decode cX0_note 42 = .ok (.arraylength, 1) := by decide +kernel
theorem dX0_note_43 : decode cX0_note 43 = .ok (.if_icmp .ge 23, 3) := by decide +kernel
theorem dX0_note_46 : decode cX0_note 46 = .ok (.aload_n 0, 1) := by decide +kernel
theorem dX0_note_47 : decode cX0_note 47 = .ok (.getfield 11, 3) := by decide +kernel
theorem dX0_note_50 : decode cX0_note 50 = .ok (.aload_n 0, 1) := by decide +kernel
theorem dX0_note_51 : decode cX0_note 51 = .ok (.getfield 18, 3) := by decide +kernel
theorem dX0_note_54 : decode cX0_note 54 = .ok (.lload_n 1, 1) := by decide +kernel
theorem dX0_note_55 : decode cX0_note 55 = .ok (.lastore, 1) := by decide +kernel
theorem dX0_note_56 : decode cX0_note 56 = .ok (.aload_n 0, 1) := by decide +kernel
theorem dX0_note_57 : decode cX0_note 57 = .ok (.dup, 1) := by decide +kernel
theorem dX0_note_58 : decode cX0_note 58 = .ok (.getfield 18, 3) := by decide +kernel
theorem dX0_note_61 : decode cX0_note 61 = .ok (.iconst 1, 1) := by decide +kernel
theorem dX0_note_62 : decode cX0_note 62 = .ok (.iadd, 1) := by decide +kernel
theorem dX0_note_63 : decode cX0_note 63 = .ok (.putfield 18, 3) := by decide +kernel
theorem dX0_note_66 : decode cX0_note 66 = .ok (.return_, 1) := by decide +kernel
theorem dX1_init_0 : decode cX1_init 0 = .ok (.aload_n 0, 1) := by decide +kernel
theorem dX1_init_1 : decode cX1_init 1 = .ok (.invokespecial 3, 3) := by decide +kernel
theorem dX1_init_4 : decode cX1_init 4 = .ok (.aload_n 0, 1) := by decide +kernel
theorem dX1_init_5 : decode cX1_init 5 = .ok (.bipush 49, 2) := by decide +kernel
theorem dX1_init_7 : decode cX1_init 7 = .ok (.newarray .long, 2) := by decide +kernel
theorem dX1_init_9 : decode cX1_init 9 = .ok (.putfield 9, 3) := by decide +kernel
theorem dX1_init_12 : decode cX1_init 12 = .ok (.return_, 1) := by decide +kernel
theorem dX1_top_0 : decode cX1_top 0 = .ok (.aload_n 0, 1) := by decide +kernel
theorem dX1_top_1 : decode cX1_top 1 = .ok (.getfield 15, 3) := by decide +kernel
theorem dX1_top_4 : decode cX1_top 4 = .ok (.ireturn, 1) := by decide +kernel
theorem dX1_at_0 : decode cX1_at 0 = .ok (.iload_n 1, 1) := by decide +kernel
theorem dX1_at_1 : decode cX1_at 1 = .ok (.ifCond .lt 21, 3) := by decide +kernel
theorem dX1_at_4 : decode cX1_at 4 = .ok (.iload_n 1, 1) := by decide +kernel
theorem dX1_at_5 : decode cX1_at 5 = .ok (.aload_n 0, 1) := by decide +kernel
theorem dX1_at_6 : decode cX1_at 6 = .ok (.getfield 9, 3) := by decide +kernel
theorem dX1_at_9 : decode cX1_at 9 = .ok (.arraylength, 1) := by decide +kernel
theorem dX1_at_10 : decode cX1_at 10 = .ok (.if_icmp .ge 12, 3) := by decide +kernel
theorem dX1_at_13 : decode cX1_at 13 = .ok (.aload_n 0, 1) := by decide +kernel
theorem dX1_at_14 : decode cX1_at 14 = .ok (.getfield 9, 3) := by decide +kernel
theorem dX1_at_17 : decode cX1_at 17 = .ok (.iload_n 1, 1) := by decide +kernel
theorem dX1_at_18 : decode cX1_at 18 = .ok (.laload, 1) := by decide +kernel
theorem dX1_at_19 : decode cX1_at 19 = .ok (.goto 4, 3) := by decide +kernel
theorem dX1_at_22 : decode cX1_at 22 = .ok (.lconst 0, 1) := by decide +kernel
theorem dX1_at_23 : decode cX1_at 23 = .ok (.lreturn, 1) := by decide +kernel
theorem dX1_put_0 : decode cX1_put 0 = .ok (.iload_n 1, 1) := by decide +kernel
theorem dX1_put_1 : decode cX1_put 1 = .ok (.ifCond .lt 19, 3) := by decide +kernel
theorem dX1_put_4 : decode cX1_put 4 = .ok (.iload_n 1, 1) := by decide +kernel
theorem dX1_put_5 : decode cX1_put 5 = .ok (.aload_n 0, 1) := by decide +kernel
theorem dX1_put_6 : decode cX1_put 6 = .ok (.getfield 9, 3) := by decide +kernel
theorem dX1_put_9 : decode cX1_put 9 = .ok (.arraylength, 1) := by decide +kernel
theorem dX1_put_10 : decode cX1_put 10 = .ok (.if_icmp .ge 10, 3) := by decide +kernel
theorem dX1_put_13 : decode cX1_put 13 = .ok (.aload_n 0, 1) := by decide +kernel
theorem dX1_put_14 : decode cX1_put 14 = .ok (.getfield 9, 3) := by decide +kernel
theorem dX1_put_17 : decode cX1_put 17 = .ok (.iload_n 1, 1) := by decide +kernel
theorem dX1_put_18 : decode cX1_put 18 = .ok (.lload_n 2, 1) := by decide +kernel
theorem dX1_put_19 : decode cX1_put 19 = .ok (.lastore, 1) := by decide +kernel
theorem dX1_put_20 : decode cX1_put 20 = .ok (.return_, 1) := by decide +kernel
set_option maxRecDepth 20000 in
theorem ggX1_clear_J7_fill_d0a16 : GoodIn wsX1_clear wsJ7_fill_d0a16 := goodIn_r _ [6] (by decide +kernel) (by decide +kernel)
set_option maxRecDepth 20000 in
theorem gX1_clear_J7_fill_d0a16 : GoodIn wsX1_clear (va_wsS RX1 19 yJ7_fill_d0a16 wsJ7_fill_d0a16) := goodIn_app (goodIn_of _ (by decide +kernel)) ggX1_clear_J7_fill_d0a16
theorem dX1_clear_0 : decode cX1_clear 0 = .ok (.aload_n 0, 1) := by decide +kernel
theorem dX1_clear_1 : decode cX1_clear 1 = .ok (.getfield 9, 3) := by decide +kernel
theorem dX1_clear_4 : decode cX1_clear 4 = .ok (.lconst 0, 1) := by decide +kernel
theorem dX1_clear_5 : decode cX1_clear 5 = .ok (.invokestatic 19, 3) := by decide +kernel
theorem dX1_clear_8 : decode cX1_clear 8 = .ok (.aload_n 0, 1) := by decide +kernel
theorem dX1_clear_9 : decode cX1_clear 9 = .ok (.iconst 0, 1) := by decide +kernel
theorem dX1_clear_10 : decode cX1_clear 10 = .ok (.putfield 15, 3) := by decide +kernel
theorem dX1_clear_13 : decode cX1_clear 13 = .ok (.return_, 1) := by decide +kernel
set_option maxRecDepth 20000 in
theorem ggX1_take_X1_at : GoodIn wsX1_take wsX1_at := goodIn_r _ [7, 1, 8, 9] (by decide +kernel) (by decide +kernel)
set_option maxRecDepth 20000 in
theorem gX1_take_X1_at : GoodIn wsX1_take (wsV RX1 25 RX1 yX1_at wsX1_at) := goodIn_app (goodIn_of _ (by decide +kernel)) ggX1_take_X1_at
theorem dX1_take_0 : decode cX1_take 0 = .ok (.iconst 0, 1) := by decide +kernel
theorem dX1_take_1 : decode cX1_take 1 = .ok (.istore_n 2, 1) := by decide +kernel
theorem dX1_take_2 : decode cX1_take 2 = .ok (.iload_n 2, 1) := by decide +kernel
theorem dX1_take_3 : decode cX1_take 3 = .ok (.aload_n 0, 1) := by decide +kernel
theorem dX1_take_4 : decode cX1_take 4 = .ok (.getfield 9, 3) := by decide +kernel
theorem dX1_take_7 : decode cX1_take 7 = .ok (.arraylength, 1) := by decide +kernel
theorem dX1_take_8 : decode cX1_take 8 = .ok (.if_icmp .ge 20, 3) := by decide +kernel
theorem dX1_take_11 : decode cX1_take 11 = .ok (.aload_n 0, 1) := by decide +kernel
theorem dX1_take_12 : decode cX1_take 12 = .ok (.getfield 9, 3) := by decide +kernel
theorem dX1_take_15 : decode cX1_take 15 = .ok (.iload_n 2, 1) := by decide +kernel
theorem dX1_take_16 : decode cX1_take 16 = .ok (.aload_n 1, 1) := by decide +kernel
theorem dX1_take_17 : decode cX1_take 17 = .ok (.iload_n 2, 1) := by decide +kernel
theorem dX1_take_18 : decode cX1_take 18 = .ok (.invokevirtual 25, 3) := by decide +kernel
theorem dX1_take_21 : decode cX1_take 21 = .ok (.lastore, 1) := by decide +kernel
theorem dX1_take_22 : decode cX1_take 22 = .ok (.iinc 2 1, 3) := by decide +kernel
theorem dX1_take_25 : decode cX1_take 25 = .ok (.goto (-23), 3) := by decide +kernel
theorem dX1_take_28 : decode cX1_take 28 = .ok (.aload_n 0, 1) := by decide +kernel
theorem dX1_take_29 : decode cX1_take 29 = .ok (.aload_n 1, 1) := by decide +kernel
theorem dX1_take_30 : decode cX1_take 30 = .ok (.getfield 15, 3) := by decide +kernel
theorem dX1_take_33 : decode cX1_take 33 = .ok (.putfield 15, 3) := by decide +kernel
theorem dX1_take_36 : decode cX1_take 36 = .ok (.return_, 1) := by decide +kernel
theorem dX1_trim_0 : decode cX1_trim 0 = .ok (.aload_n 0, 1) := by decide +kernel
theorem dX1_trim_1 : decode cX1_trim 1 = .ok (.iconst 0, 1) := by decide +kernel
theorem dX1_trim_2 : decode cX1_trim 2 = .ok (.putfield 15, 3) := by decide +kernel
theorem dX1_trim_5 : decode cX1_trim 5 = .ok (.iconst 1, 1) := by decide +kernel
theorem dX1_trim_6 : decode cX1_trim 6 = .ok (.istore_n 1, 1) := by decide +kernel
theorem dX1_trim_7 : decode cX1_trim 7 = .ok (.iload_n 1, 1) := by decide +kernel
theorem dX1_trim_8 : decode cX1_trim 8 = .ok (.aload_n 0, 1) := by decide +kernel
theorem dX1_trim_9 : decode cX1_trim 9 = .ok (.getfield 9, 3) := by decide +kernel
theorem dX1_trim_12 : decode cX1_trim 12 = .ok (.arraylength, 1) := by decide +kernel
theorem dX1_trim_13 : decode cX1_trim 13 = .ok (.if_icmp .ge 25, 3) := by decide +kernel
theorem dX1_trim_16 : decode cX1_trim 16 = .ok (.aload_n 0, 1) := by decide +kernel
theorem dX1_trim_17 : decode cX1_trim 17 = .ok (.getfield 9, 3) := by decide +kernel
theorem dX1_trim_20 : decode cX1_trim 20 = .ok (.iload_n 1, 1) := by decide +kernel
theorem dX1_trim_21 : decode cX1_trim 21 = .ok (.laload, 1) := by decide +kernel
theorem dX1_trim_22 : decode cX1_trim 22 = .ok (.lconst 0, 1) := by decide +kernel
theorem dX1_trim_23 : decode cX1_trim 23 = .ok (.lcmp, 1) := by decide +kernel
theorem dX1_trim_24 : decode cX1_trim 24 = .ok (.ifCond .eq 8, 3) := by decide +kernel
theorem dX1_trim_27 : decode cX1_trim 27 = .ok (.aload_n 0, 1) := by decide +kernel
theorem dX1_trim_28 : decode cX1_trim 28 = .ok (.iload_n 1, 1) := by decide +kernel
theorem dX1_trim_29 : decode cX1_trim 29 = .ok (.putfield 15, 3) := by decide +kernel
theorem dX1_trim_32 : decode cX1_trim 32 = .ok (.iinc 1 1, 3) := by decide +kernel
theorem dX1_trim_35 : decode cX1_trim 35 = .ok (.goto (-28), 3) := by decide +kernel
theorem dX1_trim_38 : decode cX1_trim 38 = .ok (.return_, 1) := by decide +kernel
theorem dX1_error_0 : decode cX1_error 0 = .ok (.aload_n 0, 1) := by decide +kernel
theorem dX1_error_1 : decode cX1_error 1 = .ok (.getfield 15, 3) := by decide +kernel
theorem dX1_error_4 : decode cX1_error 4 = .ok (.bipush 24, 2) := by decide +kernel
theorem dX1_error_6 : decode cX1_error 6 = .ok (.if_icmp .le 7, 3) := by decide +kernel
theorem dX1_error_9 : decode cX1_error 9 = .ok (.ldc2_w 29, 3) := by decide +kernel
theorem dX1_error_12 : decode cX1_error 12 = .ok (.lreturn, 1) := by decide +kernel
theorem dX1_error_13 : decode cX1_error 13 = .ok (.aload_n 0, 1) := by decide +kernel
theorem dX1_error_14 : decode cX1_error 14 = .ok (.getfield 9, 3) := by decide +kernel
theorem dX1_error_17 : decode cX1_error 17 = .ok (.astore_n 1, 1) := by decide +kernel
theorem dX1_error_18 : decode cX1_error 18 = .ok (.aload_n 1, 1) := by decide +kernel
theorem dX1_error_19 : decode cX1_error 19 = .ok (.arraylength, 1) := by decide +kernel
theorem dX1_error_20 : decode cX1_error 20 = .ok (.istore_n 2, 1) := by decide +kernel
theorem dX1_error_21 : decode cX1_error 21 = .ok (.iconst 0, 1) := by decide +kernel
theorem dX1_error_22 : decode cX1_error 22 = .ok (.istore_n 3, 1) := by decide +kernel
theorem dX1_error_23 : decode cX1_error 23 = .ok (.iload_n 3, 1) := by decide +kernel
theorem dX1_error_24 : decode cX1_error 24 = .ok (.iload_n 2, 1) := by decide +kernel
theorem dX1_error_25 : decode cX1_error 25 = .ok (.if_icmp .ge 30, 3) := by decide +kernel
theorem dX1_error_28 : decode cX1_error 28 = .ok (.aload_n 1, 1) := by decide +kernel
theorem dX1_error_29 : decode cX1_error 29 = .ok (.iload_n 3, 1) := by decide +kernel
theorem dX1_error_30 : decode cX1_error 30 = .ok (.laload, 1) := by decide +kernel
theorem dX1_error_31 : decode cX1_error 31 = .ok (.lstore 4, 2) := by decide +kernel
theorem dX1_error_33 : decode cX1_error 33 = .ok (.lload 4, 2) := by decide +kernel
theorem dX1_error_35 : decode cX1_error 35 = .ok (.invokestatic 31, 3) := by decide +kernel
theorem dX1_error_38 : decode cX1_error 38 = .ok (.ldc2_w 37, 3) := by decide +kernel
theorem dX1_error_41 : decode cX1_error 41 = .ok (.lcmp, 1) := by decide +kernel
theorem dX1_error_42 : decode cX1_error 42 = .ok (.ifCond .le 7, 3) := by decide +kernel
theorem dX1_error_45 : decode cX1_error 45 = .ok (.ldc2_w 39, 3) := by decide +kernel
theorem dX1_error_48 : decode cX1_error 48 = .ok (.lreturn, 1) := by decide +kernel
theorem dX1_error_49 : decode cX1_error 49 = .ok (.iinc 3 1, 3) := by decide +kernel
theorem dX1_error_52 : decode cX1_error 52 = .ok (.goto (-29), 3) := by decide +kernel
theorem dX1_error_55 : decode cX1_error 55 = .ok (.lconst 0, 1) := by decide +kernel
theorem dX1_error_56 : decode cX1_error 56 = .ok (.lreturn, 1) := by decide +kernel
set_option maxRecDepth 20000 in
theorem ggX1_valueAt_X1_at : GoodIn wsX1_valueAt wsX1_at := goodIn_r _ [8, 9, 18, 19] (by decide +kernel) (by decide +kernel)
set_option maxRecDepth 20000 in
theorem gX1_valueAt_X1_at : GoodIn wsX1_valueAt (wsV RX1 25 RX1 yX1_at wsX1_at) := goodIn_app (goodIn_of _ (by decide +kernel)) ggX1_valueAt_X1_at
set_option maxRecDepth 20000 in
theorem ggX1_valueAt_X2_rounded : GoodIn wsX1_valueAt wsX2_rounded := goodIn_r _ [12, 13, 14, 15, 16, 17] (by decide +kernel) (by decide +kernel)
set_option maxRecDepth 20000 in
theorem gX1_valueAt_X2_rounded_n45 : GoodIn wsX1_valueAt (wsX2_rounded) := ggX1_valueAt_X2_rounded
theorem dX1_valueAt_0 : decode cX1_valueAt 0 = .ok (.lconst 0, 1) := by decide +kernel
theorem dX1_valueAt_1 : decode cX1_valueAt 1 = .ok (.lstore_n 3, 1) := by decide +kernel
theorem dX1_valueAt_2 : decode cX1_valueAt 2 = .ok (.lconst 0, 1) := by decide +kernel
theorem dX1_valueAt_3 : decode cX1_valueAt 3 = .ok (.lstore 5, 2) := by decide +kernel
theorem dX1_valueAt_5 : decode cX1_valueAt 5 = .ok (.aload_n 0, 1) := by decide +kernel
theorem dX1_valueAt_6 : decode cX1_valueAt 6 = .ok (.getfield 15, 3) := by decide +kernel
theorem dX1_valueAt_9 : decode cX1_valueAt 9 = .ok (.istore 7, 2) := by decide +kernel
theorem dX1_valueAt_11 : decode cX1_valueAt 11 = .ok (.iload 7, 2) := by decide +kernel
theorem dX1_valueAt_13 : decode cX1_valueAt 13 = .ok (.iconst 1, 1) := by decide +kernel
theorem dX1_valueAt_14 : decode cX1_valueAt 14 = .ok (.if_icmp .lt 40, 3) := by decide +kernel
theorem dX1_valueAt_17 : decode cX1_valueAt 17 = .ok (.aload_n 0, 1) := by decide +kernel
theorem dX1_valueAt_18 : decode cX1_valueAt 18 = .ok (.iload 7, 2) := by decide +kernel
theorem dX1_valueAt_20 : decode cX1_valueAt 20 = .ok (.invokevirtual 25, 3) := by decide +kernel
theorem dX1_valueAt_23 : decode cX1_valueAt 23 = .ok (.ldc2_w 41, 3) := by decide +kernel
theorem dX1_valueAt_26 : decode cX1_valueAt 26 = .ok (.lload_n 1, 1) := by decide +kernel
theorem dX1_valueAt_27 : decode cX1_valueAt 27 = .ok (.lmul, 1) := by decide +kernel
theorem dX1_valueAt_28 : decode cX1_valueAt 28 = .ok (.lload_n 3, 1) := by decide +kernel
theorem dX1_valueAt_29 : decode cX1_valueAt 29 = .ok (.lmul, 1) := by decide +kernel
theorem dX1_valueAt_30 : decode cX1_valueAt 30 = .ok (.ldc2_w 43, 3) := by decide +kernel
theorem dX1_valueAt_33 : decode cX1_valueAt 33 = .ok (.invokestatic 45, 3) := by decide +kernel
theorem dX1_valueAt_36 : decode cX1_valueAt 36 = .ok (.ladd, 1) := by decide +kernel
theorem dX1_valueAt_37 : decode cX1_valueAt 37 = .ok (.lload 5, 2) := by decide +kernel
theorem dX1_valueAt_39 : decode cX1_valueAt 39 = .ok (.lsub, 1) := by decide +kernel
theorem dX1_valueAt_40 : decode cX1_valueAt 40 = .ok (.lstore 8, 2) := by decide +kernel
theorem dX1_valueAt_42 : decode cX1_valueAt 42 = .ok (.lload_n 3, 1) := by decide +kernel
theorem dX1_valueAt_43 : decode cX1_valueAt 43 = .ok (.lstore 5, 2) := by decide +kernel
theorem dX1_valueAt_45 : decode cX1_valueAt 45 = .ok (.lload 8, 2) := by decide +kernel
theorem dX1_valueAt_47 : decode cX1_valueAt 47 = .ok (.lstore_n 3, 1) := by decide +kernel
theorem dX1_valueAt_48 : decode cX1_valueAt 48 = .ok (.iinc 7 (-1), 3) := by decide +kernel
theorem dX1_valueAt_51 : decode cX1_valueAt 51 = .ok (.goto (-40), 3) := by decide +kernel
theorem dX1_valueAt_54 : decode cX1_valueAt 54 = .ok (.aload_n 0, 1) := by decide +kernel
theorem dX1_valueAt_55 : decode cX1_valueAt 55 = .ok (.iconst 0, 1) := by decide +kernel
theorem dX1_valueAt_56 : decode cX1_valueAt 56 = .ok (.invokevirtual 25, 3) := by decide +kernel
theorem dX1_valueAt_59 : decode cX1_valueAt 59 = .ok (.lload_n 1, 1) := by decide +kernel
theorem dX1_valueAt_60 : decode cX1_valueAt 60 = .ok (.lload_n 3, 1) := by decide +kernel
theorem dX1_valueAt_61 : decode cX1_valueAt 61 = .ok (.lmul, 1) := by decide +kernel
theorem dX1_valueAt_62 : decode cX1_valueAt 62 = .ok (.ldc2_w 43, 3) := by decide +kernel
theorem dX1_valueAt_65 : decode cX1_valueAt 65 = .ok (.invokestatic 45, 3) := by decide +kernel
theorem dX1_valueAt_68 : decode cX1_valueAt 68 = .ok (.ladd, 1) := by decide +kernel
theorem dX1_valueAt_69 : decode cX1_valueAt 69 = .ok (.lload 5, 2) := by decide +kernel
theorem dX1_valueAt_71 : decode cX1_valueAt 71 = .ok (.lsub, 1) := by decide +kernel
theorem dX1_valueAt_72 : decode cX1_valueAt 72 = .ok (.lreturn, 1) := by decide +kernel
set_option maxRecDepth 20000 in
theorem ggX1_topWithin_X1_at : GoodIn wsX1_topWithin wsX1_at := goodIn_r _ [10, 11, 12, 13] (by decide +kernel) (by decide +kernel)
set_option maxRecDepth 20000 in
theorem gX1_topWithin_X1_at : GoodIn wsX1_topWithin (wsV RX1 25 RX1 yX1_at wsX1_at) := goodIn_app (goodIn_of _ (by decide +kernel)) ggX1_topWithin_X1_at
theorem dX1_topWithin_0 : decode cX1_topWithin 0 = .ok (.aload_n 0, 1) := by decide +kernel
theorem dX1_topWithin_1 : decode cX1_topWithin 1 = .ok (.getfield 15, 3) := by decide +kernel
theorem dX1_topWithin_4 : decode cX1_topWithin 4 = .ok (.istore_n 2, 1) := by decide +kernel
theorem dX1_topWithin_5 : decode cX1_topWithin 5 = .ok (.aload_n 0, 1) := by decide +kernel
theorem dX1_topWithin_6 : decode cX1_topWithin 6 = .ok (.iload_n 2, 1) := by decide +kernel
theorem dX1_topWithin_7 : decode cX1_topWithin 7 = .ok (.invokevirtual 25, 3) := by decide +kernel
theorem dX1_topWithin_10 : decode cX1_topWithin 10 = .ok (.invokestatic 31, 3) := by decide +kernel
theorem dX1_topWithin_13 : decode cX1_topWithin 13 = .ok (.lstore_n 3, 1) := by decide +kernel
theorem dX1_topWithin_14 : decode cX1_topWithin 14 = .ok (.iload_n 2, 1) := by decide +kernel
theorem dX1_topWithin_15 : decode cX1_topWithin 15 = .ok (.ifCond .le 27, 3) := by decide +kernel
theorem dX1_topWithin_18 : decode cX1_topWithin 18 = .ok (.lload_n 3, 1) := by decide +kernel
theorem dX1_topWithin_19 : decode cX1_topWithin 19 = .ok (.iload_n 1, 1) := by decide +kernel
theorem dX1_topWithin_20 : decode cX1_topWithin 20 = .ok (.i2l, 1) := by decide +kernel
theorem dX1_topWithin_21 : decode cX1_topWithin 21 = .ok (.lcmp, 1) := by decide +kernel
theorem dX1_topWithin_22 : decode cX1_topWithin 22 = .ok (.ifCond .gt 20, 3) := by decide +kernel
theorem dX1_topWithin_25 : decode cX1_topWithin 25 = .ok (.iinc 2 (-1), 3) := by decide +kernel
theorem dX1_topWithin_28 : decode cX1_topWithin 28 = .ok (.lload_n 3, 1) := by decide +kernel
theorem dX1_topWithin_29 : decode cX1_topWithin 29 = .ok (.aload_n 0, 1) := by decide +kernel
theorem dX1_topWithin_30 : decode cX1_topWithin 30 = .ok (.iload_n 2, 1) := by decide +kernel
theorem dX1_topWithin_31 : decode cX1_topWithin 31 = .ok (.invokevirtual 25, 3) := by decide +kernel
theorem dX1_topWithin_34 : decode cX1_topWithin 34 = .ok (.invokestatic 31, 3) := by decide +kernel
theorem dX1_topWithin_37 : decode cX1_topWithin 37 = .ok (.ladd, 1) := by decide +kernel
theorem dX1_topWithin_38 : decode cX1_topWithin 38 = .ok (.lstore_n 3, 1) := by decide +kernel
theorem dX1_topWithin_39 : decode cX1_topWithin 39 = .ok (.goto (-25), 3) := by decide +kernel
theorem dX1_topWithin_42 : decode cX1_topWithin 42 = .ok (.iload_n 2, 1) := by decide +kernel
theorem dX1_topWithin_43 : decode cX1_topWithin 43 = .ok (.ireturn, 1) := by decide +kernel
set_option maxRecDepth 20000 in
theorem ggX1_dropAbove_X1_trim : GoodIn wsX1_dropAbove wsX1_trim := goodIn_r _ [10, 11, 5, 12, 13] (by decide +kernel) (by decide +kernel)
set_option maxRecDepth 20000 in
theorem gX1_dropAbove_X1_trim : GoodIn wsX1_dropAbove (wsV RX1 53 RX1 yX1_trim wsX1_trim) := goodIn_app (goodIn_of _ (by decide +kernel)) ggX1_dropAbove_X1_trim
theorem dX1_dropAbove_0 : decode cX1_dropAbove 0 = .ok (.iload_n 1, 1) := by decide +kernel
theorem dX1_dropAbove_1 : decode cX1_dropAbove 1 = .ok (.iconst 0, 1) := by decide +kernel
theorem dX1_dropAbove_2 : decode cX1_dropAbove 2 = .ok (.invokestatic 49, 3) := by decide +kernel
theorem dX1_dropAbove_5 : decode cX1_dropAbove 5 = .ok (.iconst 1, 1) := by decide +kernel
theorem dX1_dropAbove_6 : decode cX1_dropAbove 6 = .ok (.iadd, 1) := by decide +kernel
theorem dX1_dropAbove_7 : decode cX1_dropAbove 7 = .ok (.istore_n 2, 1) := by decide +kernel
theorem dX1_dropAbove_8 : decode cX1_dropAbove 8 = .ok (.iload_n 2, 1) := by decide +kernel
theorem dX1_dropAbove_9 : decode cX1_dropAbove 9 = .ok (.aload_n 0, 1) := by decide +kernel
theorem dX1_dropAbove_10 : decode cX1_dropAbove 10 = .ok (.getfield 9, 3) := by decide +kernel
theorem dX1_dropAbove_13 : decode cX1_dropAbove 13 = .ok (.arraylength, 1) := by decide +kernel
theorem dX1_dropAbove_14 : decode cX1_dropAbove 14 = .ok (.if_icmp .ge 16, 3) := by decide +kernel
theorem dX1_dropAbove_17 : decode cX1_dropAbove 17 = .ok (.aload_n 0, 1) := by decide +kernel
theorem dX1_dropAbove_18 : decode cX1_dropAbove 18 = .ok (.getfield 9, 3) := by decide +kernel
theorem dX1_dropAbove_21 : decode cX1_dropAbove 21 = .ok (.iload_n 2, 1) := by decide +kernel
theorem dX1_dropAbove_22 : decode cX1_dropAbove 22 = .ok (.lconst 0, 1) := by decide +kernel
theorem dX1_dropAbove_23 : decode cX1_dropAbove 23 = .ok (.lastore, 1) := by decide +kernel
theorem dX1_dropAbove_24 : decode cX1_dropAbove 24 = .ok (.iinc 2 1, 3) := by decide +kernel
theorem dX1_dropAbove_27 : decode cX1_dropAbove 27 = .ok (.goto (-19), 3) := by decide +kernel
theorem dX1_dropAbove_30 : decode cX1_dropAbove 30 = .ok (.aload_n 0, 1) := by decide +kernel
theorem dX1_dropAbove_31 : decode cX1_dropAbove 31 = .ok (.invokevirtual 53, 3) := by decide +kernel
theorem dX1_dropAbove_34 : decode cX1_dropAbove 34 = .ok (.return_, 1) := by decide +kernel
set_option maxRecDepth 20000 in
theorem ggX1_placeOf_X1_at : GoodIn wsX1_placeOf wsX1_at := goodIn_r _ [10, 11, 12, 13] (by decide +kernel) (by decide +kernel)
set_option maxRecDepth 20000 in
theorem gX1_placeOf_X1_at : GoodIn wsX1_placeOf (wsV RX1 25 RX1 yX1_at wsX1_at) := goodIn_app (goodIn_of _ (by decide +kernel)) ggX1_placeOf_X1_at
theorem dX1_placeOf_0 : decode cX1_placeOf 0 = .ok (.aload_n 0, 1) := by decide +kernel
theorem dX1_placeOf_1 : decode cX1_placeOf 1 = .ok (.iload_n 1, 1) := by decide +kernel
theorem dX1_placeOf_2 : decode cX1_placeOf 2 = .ok (.invokevirtual 25, 3) := by decide +kernel
theorem dX1_placeOf_5 : decode cX1_placeOf 5 = .ok (.invokestatic 31, 3) := by decide +kernel
theorem dX1_placeOf_8 : decode cX1_placeOf 8 = .ok (.lstore_n 2, 1) := by decide +kernel
theorem dX1_placeOf_9 : decode cX1_placeOf 9 = .ok (.iconst 0, 1) := by decide +kernel
theorem dX1_placeOf_10 : decode cX1_placeOf 10 = .ok (.istore 4, 2) := by decide +kernel
theorem dX1_placeOf_12 : decode cX1_placeOf 12 = .ok (.iconst 0, 1) := by decide +kernel
theorem dX1_placeOf_13 : decode cX1_placeOf 13 = .ok (.istore 5, 2) := by decide +kernel
theorem dX1_placeOf_15 : decode cX1_placeOf 15 = .ok (.iload 5, 2) := by decide +kernel
theorem dX1_placeOf_17 : decode cX1_placeOf 17 = .ok (.aload_n 0, 1) := by decide +kernel
theorem dX1_placeOf_18 : decode cX1_placeOf 18 = .ok (.getfield 15, 3) := by decide +kernel
theorem dX1_placeOf_21 : decode cX1_placeOf 21 = .ok (.if_icmp .gt 43, 3) := by decide +kernel
theorem dX1_placeOf_24 : decode cX1_placeOf 24 = .ok (.aload_n 0, 1) := by decide +kernel
theorem dX1_placeOf_25 : decode cX1_placeOf 25 = .ok (.iload 5, 2) := by decide +kernel
theorem dX1_placeOf_27 : decode cX1_placeOf 27 = .ok (.invokevirtual 25, 3) := by decide +kernel
theorem dX1_placeOf_30 : decode cX1_placeOf 30 = .ok (.invokestatic 31, 3) := by decide +kernel
theorem dX1_placeOf_33 : decode cX1_placeOf 33 = .ok (.lstore 6, 2) := by decide +kernel
theorem dX1_placeOf_35 : decode cX1_placeOf 35 = .ok (.lload 6, 2) := by decide +kernel
theorem dX1_placeOf_37 : decode cX1_placeOf 37 = .ok (.lload_n 2, 1) := by decide +kernel
theorem dX1_placeOf_38 : decode cX1_placeOf 38 = .ok (.lcmp, 1) := by decide +kernel
theorem dX1_placeOf_39 : decode cX1_placeOf 39 = .ok (.ifCond .gt 16, 3) := by decide +kernel
theorem dX1_placeOf_42 : decode cX1_placeOf 42 = .ok (.lload 6, 2) := by decide +kernel
theorem dX1_placeOf_44 : decode cX1_placeOf 44 = .ok (.lload_n 2, 1) := by decide +kernel
theorem dX1_placeOf_45 : decode cX1_placeOf 45 = .ok (.lcmp, 1) := by decide +kernel
theorem dX1_placeOf_46 : decode cX1_placeOf 46 = .ok (.ifCond .ne 12, 3) := by decide +kernel
theorem dX1_placeOf_49 : decode cX1_placeOf 49 = .ok (.iload 5, 2) := by decide +kernel
theorem dX1_placeOf_51 : decode cX1_placeOf 51 = .ok (.iload_n 1, 1) := by decide +kernel
theorem dX1_placeOf_52 : decode cX1_placeOf 52 = .ok (.if_icmp .ge 6, 3) := by decide +kernel
theorem dX1_placeOf_55 : decode cX1_placeOf 55 = .ok (.iinc 4 1, 3) := by decide +kernel
theorem dX1_placeOf_58 : decode cX1_placeOf 58 = .ok (.iinc 5 1, 3) := by decide +kernel
theorem dX1_placeOf_61 : decode cX1_placeOf 61 = .ok (.goto (-46), 3) := by decide +kernel
theorem dX1_placeOf_64 : decode cX1_placeOf 64 = .ok (.iload 4, 2) := by decide +kernel
theorem dX1_placeOf_66 : decode cX1_placeOf 66 = .ok (.ireturn, 1) := by decide +kernel
set_option maxRecDepth 20000 in
theorem ggX1_becomeSum_X1_at : GoodIn wsX1_becomeSum wsX1_at := goodIn_r _ [6, 1, 12, 13] (by decide +kernel) (by decide +kernel)
set_option maxRecDepth 20000 in
theorem gX1_becomeSum_X1_at : GoodIn wsX1_becomeSum (wsV RX1 25 RX1 yX1_at wsX1_at) := goodIn_app (goodIn_of _ (by decide +kernel)) ggX1_becomeSum_X1_at
set_option maxRecDepth 20000 in
theorem ggX1_becomeSum_X1_trim : GoodIn wsX1_becomeSum wsX1_trim := goodIn_r _ [10, 11, 1, 12, 13] (by decide +kernel) (by decide +kernel)
set_option maxRecDepth 20000 in
theorem gX1_becomeSum_X1_trim : GoodIn wsX1_becomeSum (wsV RX1 53 RX1 yX1_trim wsX1_trim) := goodIn_app (goodIn_of _ (by decide +kernel)) ggX1_becomeSum_X1_trim
theorem dX1_becomeSum_0 : decode cX1_becomeSum 0 = .ok (.iconst 0, 1) := by decide +kernel
theorem dX1_becomeSum_1 : decode cX1_becomeSum 1 = .ok (.istore 5, 2) := by decide +kernel
theorem dX1_becomeSum_3 : decode cX1_becomeSum 3 = .ok (.iload 5, 2) := by decide +kernel
theorem dX1_becomeSum_5 : decode cX1_becomeSum 5 = .ok (.aload_n 0, 1) := by decide +kernel
theorem dX1_becomeSum_6 : decode cX1_becomeSum 6 = .ok (.getfield 9, 3) := by decide +kernel
theorem dX1_becomeSum_9 : decode cX1_becomeSum 9 = .ok (.arraylength, 1) := by decide +kernel
theorem dX1_becomeSum_10 : decode cX1_becomeSum 10 = .ok (.if_icmp .ge 36, 3) := by decide +kernel
theorem dX1_becomeSum_13 : decode cX1_becomeSum 13 = .ok (.aload_n 0, 1) := by decide +kernel
theorem dX1_becomeSum_14 : decode cX1_becomeSum 14 = .ok (.getfield 9, 3) := by decide +kernel
theorem dX1_becomeSum_17 : decode cX1_becomeSum 17 = .ok (.iload 5, 2) := by decide +kernel
theorem dX1_becomeSum_19 : decode cX1_becomeSum 19 = .ok (.iload_n 2, 1) := by decide +kernel
theorem dX1_becomeSum_20 : decode cX1_becomeSum 20 = .ok (.i2l, 1) := by decide +kernel
theorem dX1_becomeSum_21 : decode cX1_becomeSum 21 = .ok (.aload_n 1, 1) := by decide +kernel
theorem dX1_becomeSum_22 : decode cX1_becomeSum 22 = .ok (.iload 5, 2) := by decide +kernel
theorem dX1_becomeSum_24 : decode cX1_becomeSum 24 = .ok (.invokevirtual 25, 3) := by decide +kernel
theorem dX1_becomeSum_27 : decode cX1_becomeSum 27 = .ok (.lmul, 1) := by decide +kernel
theorem dX1_becomeSum_28 : decode cX1_becomeSum 28 = .ok (.iload 4, 2) := by decide +kernel
theorem dX1_becomeSum_30 : decode cX1_becomeSum 30 = .ok (.i2l, 1) := by decide +kernel
theorem dX1_becomeSum_31 : decode cX1_becomeSum 31 = .ok (.aload_n 3, 1) := by decide +kernel
theorem dX1_becomeSum_32 : decode cX1_becomeSum 32 = .ok (.iload 5, 2) := by decide +kernel
theorem dX1_becomeSum_34 : decode cX1_becomeSum 34 = .ok (.invokevirtual 25, 3) := by decide +kernel
theorem dX1_becomeSum_37 : decode cX1_becomeSum 37 = .ok (.lmul, 1) := by decide +kernel
theorem dX1_becomeSum_38 : decode cX1_becomeSum 38 = .ok (.ladd, 1) := by decide +kernel
theorem dX1_becomeSum_39 : decode cX1_becomeSum 39 = .ok (.lastore, 1) := by decide +kernel
theorem dX1_becomeSum_40 : decode cX1_becomeSum 40 = .ok (.iinc 5 1, 3) := by decide +kernel
theorem dX1_becomeSum_43 : decode cX1_becomeSum 43 = .ok (.goto (-40), 3) := by decide +kernel
theorem dX1_becomeSum_46 : decode cX1_becomeSum 46 = .ok (.aload_n 0, 1) := by decide +kernel
theorem dX1_becomeSum_47 : decode cX1_becomeSum 47 = .ok (.invokevirtual 53, 3) := by decide +kernel
theorem dX1_becomeSum_50 : decode cX1_becomeSum 50 = .ok (.return_, 1) := by decide +kernel
set_option maxRecDepth 20000 in
theorem ggX1_becomeProduct_X1_clear : GoodIn wsX1_becomeProduct wsX1_clear := goodIn_r _ [12, 6, 1, 13, 14, 15, 16, 37, 38] (by decide +kernel) (by decide +kernel)
set_option maxRecDepth 20000 in
theorem gX1_becomeProduct_X1_clear : GoodIn wsX1_becomeProduct (wsV RX1 56 RX1 yX1_clear wsX1_clear) := goodIn_app (goodIn_of _ (by decide +kernel)) ggX1_becomeProduct_X1_clear
set_option maxRecDepth 20000 in
theorem ggX1_becomeProduct_X1_at : GoodIn wsX1_becomeProduct wsX1_at := goodIn_r _ [20, 6, 37, 38] (by decide +kernel) (by decide +kernel)
set_option maxRecDepth 20000 in
theorem gX1_becomeProduct_X1_at : GoodIn wsX1_becomeProduct (wsV RX1 25 RX1 yX1_at wsX1_at) := goodIn_app (goodIn_of _ (by decide +kernel)) ggX1_becomeProduct_X1_at
set_option maxRecDepth 20000 in
theorem ggX1_becomeProduct_X1_put : GoodIn wsX1_becomeProduct wsX1_put := goodIn_r _ [24, 6, 37, 38] (by decide +kernel) (by decide +kernel)
set_option maxRecDepth 20000 in
theorem gX1_becomeProduct_X1_put : GoodIn wsX1_becomeProduct (wsV RX1 59 RX1 yX1_put wsX1_put) := goodIn_app (goodIn_of _ (by decide +kernel)) ggX1_becomeProduct_X1_put
set_option maxRecDepth 20000 in
theorem ggX1_becomeProduct_X2_rounded : GoodIn wsX1_becomeProduct wsX2_rounded := goodIn_r _ [27, 28, 29, 30, 31, 32] (by decide +kernel) (by decide +kernel)
set_option maxRecDepth 20000 in
theorem gX1_becomeProduct_X2_rounded_n45 : GoodIn wsX1_becomeProduct (wsX2_rounded) := ggX1_becomeProduct_X2_rounded
set_option maxRecDepth 20000 in
theorem ggX1_becomeProduct_X1_trim : GoodIn wsX1_becomeProduct wsX1_trim := goodIn_r _ [36, 1, 6, 37, 38] (by decide +kernel) (by decide +kernel)
set_option maxRecDepth 20000 in
theorem gX1_becomeProduct_X1_trim : GoodIn wsX1_becomeProduct (wsV RX1 53 RX1 yX1_trim wsX1_trim) := goodIn_app (goodIn_of _ (by decide +kernel)) ggX1_becomeProduct_X1_trim
theorem dX1_becomeProduct_0 : decode cX1_becomeProduct 0 = .ok (.aload_n 0, 1) := by decide +kernel
theorem dX1_becomeProduct_1 : decode cX1_becomeProduct 1 = .ok (.invokevirtual 56, 3) := by decide +kernel
theorem dX1_becomeProduct_4 : decode cX1_becomeProduct 4 = .ok (.iconst 0, 1) := by decide +kernel
theorem dX1_becomeProduct_5 : decode cX1_becomeProduct 5 = .ok (.istore_n 3, 1) := by decide +kernel
theorem dX1_becomeProduct_6 : decode cX1_becomeProduct 6 = .ok (.iload_n 3, 1) := by decide +kernel
theorem dX1_becomeProduct_7 : decode cX1_becomeProduct 7 = .ok (.aload_n 1, 1) := by decide +kernel
theorem dX1_becomeProduct_8 : decode cX1_becomeProduct 8 = .ok (.getfield 15, 3) := by decide +kernel
theorem dX1_becomeProduct_11 : decode cX1_becomeProduct 11 = .ok (.if_icmp .gt 84, 3) := by decide +kernel
theorem dX1_becomeProduct_14 : decode cX1_becomeProduct 14 = .ok (.iconst 0, 1) := by decide +kernel
theorem dX1_becomeProduct_15 : decode cX1_becomeProduct 15 = .ok (.istore 4, 2) := by decide +kernel
theorem dX1_becomeProduct_17 : decode cX1_becomeProduct 17 = .ok (.iload 4, 2) := by decide +kernel
theorem dX1_becomeProduct_19 : decode cX1_becomeProduct 19 = .ok (.aload_n 2, 1) := by decide +kernel
theorem dX1_becomeProduct_20 : decode cX1_becomeProduct 20 = .ok (.getfield 15, 3) := by decide +kernel
theorem dX1_becomeProduct_23 : decode cX1_becomeProduct 23 = .ok (.if_icmp .gt 66, 3) := by decide +kernel
theorem dX1_becomeProduct_26 : decode cX1_becomeProduct 26 = .ok (.aload_n 1, 1) := by decide +kernel
theorem dX1_becomeProduct_27 : decode cX1_becomeProduct 27 = .ok (.iload_n 3, 1) := by decide +kernel
theorem dX1_becomeProduct_28 : decode cX1_becomeProduct 28 = .ok (.invokevirtual 25, 3) := by decide +kernel
theorem dX1_becomeProduct_31 : decode cX1_becomeProduct 31 = .ok (.aload_n 2, 1) := by decide +kernel
theorem dX1_becomeProduct_32 : decode cX1_becomeProduct 32 = .ok (.iload 4, 2) := by decide +kernel
theorem dX1_becomeProduct_34 : decode cX1_becomeProduct 34 = .ok (.invokevirtual 25, 3) := by decide +kernel
theorem dX1_becomeProduct_37 : decode cX1_becomeProduct 37 = .ok (.lmul, 1) := by decide +kernel
theorem dX1_becomeProduct_38 : decode cX1_becomeProduct 38 = .ok (.lstore 5, 2) := by decide +kernel
theorem dX1_becomeProduct_40 : decode cX1_becomeProduct 40 = .ok (.aload_n 0, 1) := by decide +kernel
theorem dX1_becomeProduct_41 : decode cX1_becomeProduct 41 = .ok (.iload_n 3, 1) := by decide +kernel
theorem dX1_becomeProduct_42 : decode cX1_becomeProduct 42 = .ok (.iload 4, 2) := by decide +kernel
theorem dX1_becomeProduct_44 : decode cX1_becomeProduct 44 = .ok (.iadd, 1) := by decide +kernel
theorem dX1_becomeProduct_45 : decode cX1_becomeProduct 45 = .ok (.aload_n 0, 1) := by decide +kernel
theorem dX1_becomeProduct_46 : decode cX1_becomeProduct 46 = .ok (.iload_n 3, 1) := by decide +kernel
theorem dX1_becomeProduct_47 : decode cX1_becomeProduct 47 = .ok (.iload 4, 2) := by decide +kernel
theorem dX1_becomeProduct_49 : decode cX1_becomeProduct 49 = .ok (.iadd, 1) := by decide +kernel
theorem dX1_becomeProduct_50 : decode cX1_becomeProduct 50 = .ok (.invokevirtual 25, 3) := by decide +kernel
theorem dX1_becomeProduct_53 : decode cX1_becomeProduct 53 = .ok (.lload 5, 2) := by decide +kernel
theorem dX1_becomeProduct_55 : decode cX1_becomeProduct 55 = .ok (.ladd, 1) := by decide +kernel
theorem dX1_becomeProduct_56 : decode cX1_becomeProduct 56 = .ok (.invokevirtual 59, 3) := by decide +kernel
theorem dX1_becomeProduct_59 : decode cX1_becomeProduct 59 = .ok (.iload_n 3, 1) := by decide +kernel
theorem dX1_becomeProduct_60 : decode cX1_becomeProduct 60 = .ok (.iload 4, 2) := by decide +kernel
theorem dX1_becomeProduct_62 : decode cX1_becomeProduct 62 = .ok (.isub, 1) := by decide +kernel
theorem dX1_becomeProduct_63 : decode cX1_becomeProduct 63 = .ok (.invokestatic 63, 3) := by decide +kernel
theorem dX1_becomeProduct_66 : decode cX1_becomeProduct 66 = .ok (.istore 7, 2) := by decide +kernel
theorem dX1_becomeProduct_68 : decode cX1_becomeProduct 68 = .ok (.aload_n 0, 1) := by decide +kernel
theorem dX1_becomeProduct_69 : decode cX1_becomeProduct 69 = .ok (.iload 7, 2) := by decide +kernel
theorem dX1_becomeProduct_71 : decode cX1_becomeProduct 71 = .ok (.aload_n 0, 1) := by decide +kernel
theorem dX1_becomeProduct_72 : decode cX1_becomeProduct 72 = .ok (.iload 7, 2) := by decide +kernel
theorem dX1_becomeProduct_74 : decode cX1_becomeProduct 74 = .ok (.invokevirtual 25, 3) := by decide +kernel
theorem dX1_becomeProduct_77 : decode cX1_becomeProduct 77 = .ok (.lload 5, 2) := by decide +kernel
theorem dX1_becomeProduct_79 : decode cX1_becomeProduct 79 = .ok (.ladd, 1) := by decide +kernel
theorem dX1_becomeProduct_80 : decode cX1_becomeProduct 80 = .ok (.invokevirtual 59, 3) := by decide +kernel
theorem dX1_becomeProduct_83 : decode cX1_becomeProduct 83 = .ok (.iinc 4 1, 3) := by decide +kernel
theorem dX1_becomeProduct_86 : decode cX1_becomeProduct 86 = .ok (.goto (-69), 3) := by decide +kernel
theorem dX1_becomeProduct_89 : decode cX1_becomeProduct 89 = .ok (.iinc 3 1, 3) := by decide +kernel
theorem dX1_becomeProduct_92 : decode cX1_becomeProduct 92 = .ok (.goto (-86), 3) := by decide +kernel
theorem dX1_becomeProduct_95 : decode cX1_becomeProduct 95 = .ok (.iconst 0, 1) := by decide +kernel
theorem dX1_becomeProduct_96 : decode cX1_becomeProduct 96 = .ok (.istore_n 3, 1) := by decide +kernel
theorem dX1_becomeProduct_97 : decode cX1_becomeProduct 97 = .ok (.iload_n 3, 1) := by decide +kernel
theorem dX1_becomeProduct_98 : decode cX1_becomeProduct 98 = .ok (.aload_n 0, 1) := by decide +kernel
theorem dX1_becomeProduct_99 : decode cX1_becomeProduct 99 = .ok (.getfield 9, 3) := by decide +kernel
theorem dX1_becomeProduct_102 : decode cX1_becomeProduct 102 = .ok (.arraylength, 1) := by decide +kernel
theorem dX1_becomeProduct_103 : decode cX1_becomeProduct 103 = .ok (.if_icmp .ge 27, 3) := by decide +kernel
theorem dX1_becomeProduct_106 : decode cX1_becomeProduct 106 = .ok (.aload_n 0, 1) := by decide +kernel
theorem dX1_becomeProduct_107 : decode cX1_becomeProduct 107 = .ok (.getfield 9, 3) := by decide +kernel
theorem dX1_becomeProduct_110 : decode cX1_becomeProduct 110 = .ok (.iload_n 3, 1) := by decide +kernel
theorem dX1_becomeProduct_111 : decode cX1_becomeProduct 111 = .ok (.aload_n 0, 1) := by decide +kernel
theorem dX1_becomeProduct_112 : decode cX1_becomeProduct 112 = .ok (.getfield 9, 3) := by decide +kernel
end
section
theorem dX1_becomeProduct_115 : decode cX1_becomeProduct 115 = .ok (.iload_n 3, 1) := by decide +kernel
theorem dX1_becomeProduct_116 : decode cX1_becomeProduct 116 = .ok (.laload, 1) := by decide +kernel
theorem dX1_becomeProduct_117 : decode cX1_becomeProduct 117 = .ok (.ldc2_w 66, 3) := by decide +kernel
theorem dX1_becomeProduct_120 : decode cX1_becomeProduct 120 = .ok (.invokestatic 45, 3) := by decide +kernel
theorem dX1_becomeProduct_123 : decode cX1_becomeProduct 123 = .ok (.lastore, 1) := by decide +kernel
theorem dX1_becomeProduct_124 : decode cX1_becomeProduct 124 = .ok (.iinc 3 1, 3) := by decide +kernel
theorem dX1_becomeProduct_127 : decode cX1_becomeProduct 127 = .ok (.goto (-30), 3) := by decide +kernel
theorem dX1_becomeProduct_130 : decode cX1_becomeProduct 130 = .ok (.aload_n 0, 1) := by decide +kernel
theorem dX1_becomeProduct_131 : decode cX1_becomeProduct 131 = .ok (.invokevirtual 53, 3) := by decide +kernel
theorem dX1_becomeProduct_134 : decode cX1_becomeProduct 134 = .ok (.return_, 1) := by decide +kernel
set_option maxRecDepth 20000 in
theorem ggX1_becomeDerivative_X1_clear : GoodIn wsX1_becomeDerivative wsX1_clear := goodIn_r _ [7, 8, 1, 9, 10, 11, 12, 33, 34] (by decide +kernel) (by decide +kernel)
set_option maxRecDepth 20000 in
theorem gX1_becomeDerivative_X1_clear : GoodIn wsX1_becomeDerivative (wsV RX1 56 RX1 yX1_clear wsX1_clear) := goodIn_app (goodIn_of _ (by decide +kernel)) ggX1_becomeDerivative_X1_clear
set_option maxRecDepth 20000 in
theorem ggX1_becomeDerivative_X1_at : GoodIn wsX1_becomeDerivative wsX1_at := goodIn_r _ [16, 8, 33, 34] (by decide +kernel) (by decide +kernel)
set_option maxRecDepth 20000 in
theorem gX1_becomeDerivative_X1_at : GoodIn wsX1_becomeDerivative (wsV RX1 25 RX1 yX1_at wsX1_at) := goodIn_app (goodIn_of _ (by decide +kernel)) ggX1_becomeDerivative_X1_at
set_option maxRecDepth 20000 in
theorem ggX1_becomeDerivative_X1_put : GoodIn wsX1_becomeDerivative wsX1_put := goodIn_r _ [20, 8, 33, 34] (by decide +kernel) (by decide +kernel)
set_option maxRecDepth 20000 in
theorem gX1_becomeDerivative_X1_put : GoodIn wsX1_becomeDerivative (wsV RX1 59 RX1 yX1_put wsX1_put) := goodIn_app (goodIn_of _ (by decide +kernel)) ggX1_becomeDerivative_X1_put
set_option maxRecDepth 20000 in
theorem ggX1_becomeDerivative_X2_rounded : GoodIn wsX1_becomeDerivative wsX2_rounded := goodIn_r _ [23, 24, 25, 26, 27, 28] (by decide +kernel) (by decide +kernel)
set_option maxRecDepth 20000 in
theorem gX1_becomeDerivative_X2_rounded_n45 : GoodIn wsX1_becomeDerivative (wsX2_rounded) := ggX1_becomeDerivative_X2_rounded
set_option maxRecDepth 20000 in
theorem ggX1_becomeDerivative_X1_trim : GoodIn wsX1_becomeDerivative wsX1_trim := goodIn_r _ [32, 1, 8, 33, 34] (by decide +kernel) (by decide +kernel)
set_option maxRecDepth 20000 in
theorem gX1_becomeDerivative_X1_trim : GoodIn wsX1_becomeDerivative (wsV RX1 53 RX1 yX1_trim wsX1_trim) := goodIn_app (goodIn_of _ (by decide +kernel)) ggX1_becomeDerivative_X1_trim
theorem dX1_becomeDerivative_0 : decode cX1_becomeDerivative 0 = .ok (.aload_n 0, 1) := by decide +kernel
theorem dX1_becomeDerivative_1 : decode cX1_becomeDerivative 1 = .ok (.invokevirtual 56, 3) := by decide +kernel
theorem dX1_becomeDerivative_4 : decode cX1_becomeDerivative 4 = .ok (.aload_n 1, 1) := by decide +kernel
theorem dX1_becomeDerivative_5 : decode cX1_becomeDerivative 5 = .ok (.getfield 15, 3) := by decide +kernel
theorem dX1_becomeDerivative_8 : decode cX1_becomeDerivative 8 = .ok (.istore_n 2, 1) := by decide +kernel
theorem dX1_becomeDerivative_9 : decode cX1_becomeDerivative 9 = .ok (.iload_n 2, 1) := by decide +kernel
theorem dX1_becomeDerivative_10 : decode cX1_becomeDerivative 10 = .ok (.iconst 1, 1) := by decide +kernel
theorem dX1_becomeDerivative_11 : decode cX1_becomeDerivative 11 = .ok (.if_icmp .lt 34, 3) := by decide +kernel
theorem dX1_becomeDerivative_14 : decode cX1_becomeDerivative 14 = .ok (.aload_n 0, 1) := by decide +kernel
theorem dX1_becomeDerivative_15 : decode cX1_becomeDerivative 15 = .ok (.iload_n 2, 1) := by decide +kernel
theorem dX1_becomeDerivative_16 : decode cX1_becomeDerivative 16 = .ok (.iconst 1, 1) := by decide +kernel
theorem dX1_becomeDerivative_17 : decode cX1_becomeDerivative 17 = .ok (.isub, 1) := by decide +kernel
theorem dX1_becomeDerivative_18 : decode cX1_becomeDerivative 18 = .ok (.aload_n 0, 1) := by decide +kernel
theorem dX1_becomeDerivative_19 : decode cX1_becomeDerivative 19 = .ok (.iload_n 2, 1) := by decide +kernel
theorem dX1_becomeDerivative_20 : decode cX1_becomeDerivative 20 = .ok (.iconst 1, 1) := by decide +kernel
theorem dX1_becomeDerivative_21 : decode cX1_becomeDerivative 21 = .ok (.iadd, 1) := by decide +kernel
theorem dX1_becomeDerivative_22 : decode cX1_becomeDerivative 22 = .ok (.invokevirtual 25, 3) := by decide +kernel
theorem dX1_becomeDerivative_25 : decode cX1_becomeDerivative 25 = .ok (.iconst 2, 1) := by decide +kernel
theorem dX1_becomeDerivative_26 : decode cX1_becomeDerivative 26 = .ok (.iload_n 2, 1) := by decide +kernel
theorem dX1_becomeDerivative_27 : decode cX1_becomeDerivative 27 = .ok (.imul, 1) := by decide +kernel
theorem dX1_becomeDerivative_28 : decode cX1_becomeDerivative 28 = .ok (.i2l, 1) := by decide +kernel
theorem dX1_becomeDerivative_29 : decode cX1_becomeDerivative 29 = .ok (.aload_n 1, 1) := by decide +kernel
theorem dX1_becomeDerivative_30 : decode cX1_becomeDerivative 30 = .ok (.iload_n 2, 1) := by decide +kernel
theorem dX1_becomeDerivative_31 : decode cX1_becomeDerivative 31 = .ok (.invokevirtual 25, 3) := by decide +kernel
theorem dX1_becomeDerivative_34 : decode cX1_becomeDerivative 34 = .ok (.lmul, 1) := by decide +kernel
theorem dX1_becomeDerivative_35 : decode cX1_becomeDerivative 35 = .ok (.ladd, 1) := by decide +kernel
theorem dX1_becomeDerivative_36 : decode cX1_becomeDerivative 36 = .ok (.invokevirtual 59, 3) := by decide +kernel
theorem dX1_becomeDerivative_39 : decode cX1_becomeDerivative 39 = .ok (.iinc 2 (-1), 3) := by decide +kernel
theorem dX1_becomeDerivative_42 : decode cX1_becomeDerivative 42 = .ok (.goto (-33), 3) := by decide +kernel
theorem dX1_becomeDerivative_45 : decode cX1_becomeDerivative 45 = .ok (.aload_n 0, 1) := by decide +kernel
theorem dX1_becomeDerivative_46 : decode cX1_becomeDerivative 46 = .ok (.iconst 0, 1) := by decide +kernel
theorem dX1_becomeDerivative_47 : decode cX1_becomeDerivative 47 = .ok (.aload_n 0, 1) := by decide +kernel
theorem dX1_becomeDerivative_48 : decode cX1_becomeDerivative 48 = .ok (.iconst 0, 1) := by decide +kernel
theorem dX1_becomeDerivative_49 : decode cX1_becomeDerivative 49 = .ok (.invokevirtual 25, 3) := by decide +kernel
theorem dX1_becomeDerivative_52 : decode cX1_becomeDerivative 52 = .ok (.ldc2_w 41, 3) := by decide +kernel
theorem dX1_becomeDerivative_55 : decode cX1_becomeDerivative 55 = .ok (.invokestatic 45, 3) := by decide +kernel
theorem dX1_becomeDerivative_58 : decode cX1_becomeDerivative 58 = .ok (.invokevirtual 59, 3) := by decide +kernel
theorem dX1_becomeDerivative_61 : decode cX1_becomeDerivative 61 = .ok (.aload_n 0, 1) := by decide +kernel
theorem dX1_becomeDerivative_62 : decode cX1_becomeDerivative 62 = .ok (.invokevirtual 53, 3) := by decide +kernel
theorem dX1_becomeDerivative_65 : decode cX1_becomeDerivative 65 = .ok (.return_, 1) := by decide +kernel
set_option maxRecDepth 20000 in
theorem ggX1_becomeAntiderivative_X1_clear : GoodIn wsX1_becomeAntiderivative wsX1_clear := goodIn_r _ [7, 8, 1, 9, 10, 11, 12, 33, 34] (by decide +kernel) (by decide +kernel)
set_option maxRecDepth 20000 in
theorem gX1_becomeAntiderivative_X1_clear : GoodIn wsX1_becomeAntiderivative (wsV RX1 56 RX1 yX1_clear wsX1_clear) := goodIn_app (goodIn_of _ (by decide +kernel)) ggX1_becomeAntiderivative_X1_clear
set_option maxRecDepth 20000 in
theorem ggX1_becomeAntiderivative_X1_at : GoodIn wsX1_becomeAntiderivative wsX1_at := goodIn_r _ [16, 8, 33, 34] (by decide +kernel) (by decide +kernel)
set_option maxRecDepth 20000 in
theorem gX1_becomeAntiderivative_X1_at : GoodIn wsX1_becomeAntiderivative (wsV RX1 25 RX1 yX1_at wsX1_at) := goodIn_app (goodIn_of _ (by decide +kernel)) ggX1_becomeAntiderivative_X1_at
set_option maxRecDepth 20000 in
theorem ggX1_becomeAntiderivative_X2_rounded : GoodIn wsX1_becomeAntiderivative wsX2_rounded := goodIn_r _ [19, 20, 21, 22, 23, 24] (by decide +kernel) (by decide +kernel)
set_option maxRecDepth 20000 in
theorem gX1_becomeAntiderivative_X2_rounded_n45 : GoodIn wsX1_becomeAntiderivative (wsX2_rounded) := ggX1_becomeAntiderivative_X2_rounded
set_option maxRecDepth 20000 in
theorem ggX1_becomeAntiderivative_X1_put : GoodIn wsX1_becomeAntiderivative wsX1_put := goodIn_r _ [28, 8, 33, 34] (by decide +kernel) (by decide +kernel)
set_option maxRecDepth 20000 in
theorem gX1_becomeAntiderivative_X1_put : GoodIn wsX1_becomeAntiderivative (wsV RX1 59 RX1 yX1_put wsX1_put) := goodIn_app (goodIn_of _ (by decide +kernel)) ggX1_becomeAntiderivative_X1_put
set_option maxRecDepth 20000 in
theorem ggX1_becomeAntiderivative_X1_trim : GoodIn wsX1_becomeAntiderivative wsX1_trim := goodIn_r _ [32, 1, 8, 33, 34] (by decide +kernel) (by decide +kernel)
set_option maxRecDepth 20000 in
theorem gX1_becomeAntiderivative_X1_trim : GoodIn wsX1_becomeAntiderivative (wsV RX1 53 RX1 yX1_trim wsX1_trim) := goodIn_app (goodIn_of _ (by decide +kernel)) ggX1_becomeAntiderivative_X1_trim
theorem dX1_becomeAntiderivative_0 : decode cX1_becomeAntiderivative 0 = .ok (.aload_n 0, 1) := by decide +kernel
theorem dX1_becomeAntiderivative_1 : decode cX1_becomeAntiderivative 1 = .ok (.invokevirtual 56, 3) := by decide +kernel
theorem dX1_becomeAntiderivative_4 : decode cX1_becomeAntiderivative 4 = .ok (.lconst 0, 1) := by decide +kernel
theorem dX1_becomeAntiderivative_5 : decode cX1_becomeAntiderivative 5 = .ok (.lstore_n 2, 1) := by decide +kernel
theorem dX1_becomeAntiderivative_6 : decode cX1_becomeAntiderivative 6 = .ok (.iconst 1, 1) := by decide +kernel
theorem dX1_becomeAntiderivative_7 : decode cX1_becomeAntiderivative 7 = .ok (.istore 4, 2) := by decide +kernel
theorem dX1_becomeAntiderivative_9 : decode cX1_becomeAntiderivative 9 = .ok (.iload 4, 2) := by decide +kernel
theorem dX1_becomeAntiderivative_11 : decode cX1_becomeAntiderivative 11 = .ok (.aload_n 1, 1) := by decide +kernel
theorem dX1_becomeAntiderivative_12 : decode cX1_becomeAntiderivative 12 = .ok (.getfield 15, 3) := by decide +kernel
theorem dX1_becomeAntiderivative_15 : decode cX1_becomeAntiderivative 15 = .ok (.iconst 1, 1) := by decide +kernel
theorem dX1_becomeAntiderivative_16 : decode cX1_becomeAntiderivative 16 = .ok (.iadd, 1) := by decide +kernel
theorem dX1_becomeAntiderivative_17 : decode cX1_becomeAntiderivative 17 = .ok (.if_icmp .gt 86, 3) := by decide +kernel
theorem dX1_becomeAntiderivative_20 : decode cX1_becomeAntiderivative 20 = .ok (.iload 4, 2) := by decide +kernel
theorem dX1_becomeAntiderivative_22 : decode cX1_becomeAntiderivative 22 = .ok (.iconst 1, 1) := by decide +kernel
theorem dX1_becomeAntiderivative_23 : decode cX1_becomeAntiderivative 23 = .ok (.if_icmp .ne 15, 3) := by decide +kernel
theorem dX1_becomeAntiderivative_26 : decode cX1_becomeAntiderivative 26 = .ok (.ldc2_w 41, 3) := by decide +kernel
theorem dX1_becomeAntiderivative_29 : decode cX1_becomeAntiderivative 29 = .ok (.aload_n 1, 1) := by decide +kernel
theorem dX1_becomeAntiderivative_30 : decode cX1_becomeAntiderivative 30 = .ok (.iconst 0, 1) := by decide +kernel
theorem dX1_becomeAntiderivative_31 : decode cX1_becomeAntiderivative 31 = .ok (.invokevirtual 25, 3) := by decide +kernel
theorem dX1_becomeAntiderivative_34 : decode cX1_becomeAntiderivative 34 = .ok (.lmul, 1) := by decide +kernel
theorem dX1_becomeAntiderivative_35 : decode cX1_becomeAntiderivative 35 = .ok (.goto 11, 3) := by decide +kernel
theorem dX1_becomeAntiderivative_38 : decode cX1_becomeAntiderivative 38 = .ok (.aload_n 1, 1) := by decide +kernel
theorem dX1_becomeAntiderivative_39 : decode cX1_becomeAntiderivative 39 = .ok (.iload 4, 2) := by decide +kernel
theorem dX1_becomeAntiderivative_41 : decode cX1_becomeAntiderivative 41 = .ok (.iconst 1, 1) := by decide +kernel
theorem dX1_becomeAntiderivative_42 : decode cX1_becomeAntiderivative 42 = .ok (.isub, 1) := by decide +kernel
theorem dX1_becomeAntiderivative_43 : decode cX1_becomeAntiderivative 43 = .ok (.invokevirtual 25, 3) := by decide +kernel
theorem dX1_becomeAntiderivative_46 : decode cX1_becomeAntiderivative 46 = .ok (.lstore 5, 2) := by decide +kernel
theorem dX1_becomeAntiderivative_48 : decode cX1_becomeAntiderivative 48 = .ok (.lload 5, 2) := by decide +kernel
theorem dX1_becomeAntiderivative_50 : decode cX1_becomeAntiderivative 50 = .ok (.aload_n 1, 1) := by decide +kernel
theorem dX1_becomeAntiderivative_51 : decode cX1_becomeAntiderivative 51 = .ok (.iload 4, 2) := by decide +kernel
theorem dX1_becomeAntiderivative_53 : decode cX1_becomeAntiderivative 53 = .ok (.iconst 1, 1) := by decide +kernel
theorem dX1_becomeAntiderivative_54 : decode cX1_becomeAntiderivative 54 = .ok (.iadd, 1) := by decide +kernel
theorem dX1_becomeAntiderivative_55 : decode cX1_becomeAntiderivative 55 = .ok (.invokevirtual 25, 3) := by decide +kernel
theorem dX1_becomeAntiderivative_58 : decode cX1_becomeAntiderivative 58 = .ok (.lsub, 1) := by decide +kernel
theorem dX1_becomeAntiderivative_59 : decode cX1_becomeAntiderivative 59 = .ok (.ldc2_w 41, 3) := by decide +kernel
theorem dX1_becomeAntiderivative_62 : decode cX1_becomeAntiderivative 62 = .ok (.iload 4, 2) := by decide +kernel
theorem dX1_becomeAntiderivative_64 : decode cX1_becomeAntiderivative 64 = .ok (.i2l, 1) := by decide +kernel
theorem dX1_becomeAntiderivative_65 : decode cX1_becomeAntiderivative 65 = .ok (.lmul, 1) := by decide +kernel
theorem dX1_becomeAntiderivative_66 : decode cX1_becomeAntiderivative 66 = .ok (.invokestatic 45, 3) := by decide +kernel
theorem dX1_becomeAntiderivative_69 : decode cX1_becomeAntiderivative 69 = .ok (.lstore 7, 2) := by decide +kernel
theorem dX1_becomeAntiderivative_71 : decode cX1_becomeAntiderivative 71 = .ok (.aload_n 0, 1) := by decide +kernel
theorem dX1_becomeAntiderivative_72 : decode cX1_becomeAntiderivative 72 = .ok (.iload 4, 2) := by decide +kernel
theorem dX1_becomeAntiderivative_74 : decode cX1_becomeAntiderivative 74 = .ok (.lload 7, 2) := by decide +kernel
theorem dX1_becomeAntiderivative_76 : decode cX1_becomeAntiderivative 76 = .ok (.invokevirtual 59, 3) := by decide +kernel
theorem dX1_becomeAntiderivative_79 : decode cX1_becomeAntiderivative 79 = .ok (.lload_n 2, 1) := by decide +kernel
theorem dX1_becomeAntiderivative_80 : decode cX1_becomeAntiderivative 80 = .ok (.iload 4, 2) := by decide +kernel
theorem dX1_becomeAntiderivative_82 : decode cX1_becomeAntiderivative 82 = .ok (.iconst 2, 1) := by decide +kernel
theorem dX1_becomeAntiderivative_83 : decode cX1_becomeAntiderivative 83 = .ok (.irem, 1) := by decide +kernel
theorem dX1_becomeAntiderivative_84 : decode cX1_becomeAntiderivative 84 = .ok (.ifCond .ne 8, 3) := by decide +kernel
theorem dX1_becomeAntiderivative_87 : decode cX1_becomeAntiderivative 87 = .ok (.lload 7, 2) := by decide +kernel
theorem dX1_becomeAntiderivative_89 : decode cX1_becomeAntiderivative 89 = .ok (.goto 6, 3) := by decide +kernel
theorem dX1_becomeAntiderivative_92 : decode cX1_becomeAntiderivative 92 = .ok (.lload 7, 2) := by decide +kernel
theorem dX1_becomeAntiderivative_94 : decode cX1_becomeAntiderivative 94 = .ok (.lneg, 1) := by decide +kernel
theorem dX1_becomeAntiderivative_95 : decode cX1_becomeAntiderivative 95 = .ok (.ladd, 1) := by decide +kernel
theorem dX1_becomeAntiderivative_96 : decode cX1_becomeAntiderivative 96 = .ok (.lstore_n 2, 1) := by decide +kernel
theorem dX1_becomeAntiderivative_97 : decode cX1_becomeAntiderivative 97 = .ok (.iinc 4 1, 3) := by decide +kernel
theorem dX1_becomeAntiderivative_100 : decode cX1_becomeAntiderivative 100 = .ok (.goto (-91), 3) := by decide +kernel
theorem dX1_becomeAntiderivative_103 : decode cX1_becomeAntiderivative 103 = .ok (.aload_n 0, 1) := by decide +kernel
theorem dX1_becomeAntiderivative_104 : decode cX1_becomeAntiderivative 104 = .ok (.iconst 0, 1) := by decide +kernel
theorem dX1_becomeAntiderivative_105 : decode cX1_becomeAntiderivative 105 = .ok (.lload_n 2, 1) := by decide +kernel
theorem dX1_becomeAntiderivative_106 : decode cX1_becomeAntiderivative 106 = .ok (.lneg, 1) := by decide +kernel
theorem dX1_becomeAntiderivative_107 : decode cX1_becomeAntiderivative 107 = .ok (.invokevirtual 59, 3) := by decide +kernel
theorem dX1_becomeAntiderivative_110 : decode cX1_becomeAntiderivative 110 = .ok (.aload_n 0, 1) := by decide +kernel
theorem dX1_becomeAntiderivative_111 : decode cX1_becomeAntiderivative 111 = .ok (.invokevirtual 53, 3) := by decide +kernel
theorem dX1_becomeAntiderivative_114 : decode cX1_becomeAntiderivative 114 = .ok (.return_, 1) := by decide +kernel
set_option maxRecDepth 20000 in
theorem ggX1_becomeQuotient_X1_clear : GoodIn wsX1_becomeQuotient wsX1_clear := goodIn_r _ [8, 9, 1, 10, 11, 12, 13, 34, 35] (by decide +kernel) (by decide +kernel)
set_option maxRecDepth 20000 in
theorem gX1_becomeQuotient_X1_clear : GoodIn wsX1_becomeQuotient (wsV RX1 56 RX1 yX1_clear wsX1_clear) := goodIn_app (goodIn_of _ (by decide +kernel)) ggX1_becomeQuotient_X1_clear
set_option maxRecDepth 20000 in
theorem ggX1_becomeQuotient_X1_at : GoodIn wsX1_becomeQuotient wsX1_at := goodIn_r _ [17, 9, 34, 35] (by decide +kernel) (by decide +kernel)
set_option maxRecDepth 20000 in
theorem gX1_becomeQuotient_X1_at : GoodIn wsX1_becomeQuotient (wsV RX1 25 RX1 yX1_at wsX1_at) := goodIn_app (goodIn_of _ (by decide +kernel)) ggX1_becomeQuotient_X1_at
set_option maxRecDepth 20000 in
theorem ggX1_becomeQuotient_X2_rounded : GoodIn wsX1_becomeQuotient wsX2_rounded := goodIn_r _ [20, 21, 22, 23, 24, 25] (by decide +kernel) (by decide +kernel)
set_option maxRecDepth 20000 in
theorem gX1_becomeQuotient_X2_rounded_n45 : GoodIn wsX1_becomeQuotient (wsX2_rounded) := ggX1_becomeQuotient_X2_rounded
set_option maxRecDepth 20000 in
theorem ggX1_becomeQuotient_X1_put : GoodIn wsX1_becomeQuotient wsX1_put := goodIn_r _ [29, 9, 34, 35] (by decide +kernel) (by decide +kernel)
set_option maxRecDepth 20000 in
theorem gX1_becomeQuotient_X1_put : GoodIn wsX1_becomeQuotient (wsV RX1 59 RX1 yX1_put wsX1_put) := goodIn_app (goodIn_of _ (by decide +kernel)) ggX1_becomeQuotient_X1_put
set_option maxRecDepth 20000 in
theorem ggX1_becomeQuotient_X1_trim : GoodIn wsX1_becomeQuotient wsX1_trim := goodIn_r _ [33, 1, 9, 34, 35] (by decide +kernel) (by decide +kernel)
set_option maxRecDepth 20000 in
theorem gX1_becomeQuotient_X1_trim : GoodIn wsX1_becomeQuotient (wsV RX1 53 RX1 yX1_trim wsX1_trim) := goodIn_app (goodIn_of _ (by decide +kernel)) ggX1_becomeQuotient_X1_trim
theorem dX1_becomeQuotient_0 : decode cX1_becomeQuotient 0 = .ok (.aload_n 0, 1) := by decide +kernel
theorem dX1_becomeQuotient_1 : decode cX1_becomeQuotient 1 = .ok (.invokevirtual 56, 3) := by decide +kernel
theorem dX1_becomeQuotient_4 : decode cX1_becomeQuotient 4 = .ok (.aload_n 1, 1) := by decide +kernel
theorem dX1_becomeQuotient_5 : decode cX1_becomeQuotient 5 = .ok (.getfield 15, 3) := by decide +kernel
theorem dX1_becomeQuotient_8 : decode cX1_becomeQuotient 8 = .ok (.istore 4, 2) := by decide +kernel
theorem dX1_becomeQuotient_10 : decode cX1_becomeQuotient 10 = .ok (.iload 4, 2) := by decide +kernel
theorem dX1_becomeQuotient_12 : decode cX1_becomeQuotient 12 = .ok (.iconst 2, 1) := by decide +kernel
theorem dX1_becomeQuotient_13 : decode cX1_becomeQuotient 13 = .ok (.if_icmp .lt 55, 3) := by decide +kernel
theorem dX1_becomeQuotient_16 : decode cX1_becomeQuotient 16 = .ok (.aload_n 0, 1) := by decide +kernel
theorem dX1_becomeQuotient_17 : decode cX1_becomeQuotient 17 = .ok (.iload 4, 2) := by decide +kernel
theorem dX1_becomeQuotient_19 : decode cX1_becomeQuotient 19 = .ok (.iconst 1, 1) := by decide +kernel
theorem dX1_becomeQuotient_20 : decode cX1_becomeQuotient 20 = .ok (.isub, 1) := by decide +kernel
theorem dX1_becomeQuotient_21 : decode cX1_becomeQuotient 21 = .ok (.ldc2_w 41, 3) := by decide +kernel
theorem dX1_becomeQuotient_24 : decode cX1_becomeQuotient 24 = .ok (.aload_n 1, 1) := by decide +kernel
theorem dX1_becomeQuotient_25 : decode cX1_becomeQuotient 25 = .ok (.iload 4, 2) := by decide +kernel
theorem dX1_becomeQuotient_27 : decode cX1_becomeQuotient 27 = .ok (.invokevirtual 25, 3) := by decide +kernel
theorem dX1_becomeQuotient_30 : decode cX1_becomeQuotient 30 = .ok (.lmul, 1) := by decide +kernel
theorem dX1_becomeQuotient_31 : decode cX1_becomeQuotient 31 = .ok (.ldc2_w 41, 3) := by decide +kernel
theorem dX1_becomeQuotient_34 : decode cX1_becomeQuotient 34 = .ok (.lload_n 2, 1) := by decide +kernel
theorem dX1_becomeQuotient_35 : decode cX1_becomeQuotient 35 = .ok (.lmul, 1) := by decide +kernel
theorem dX1_becomeQuotient_36 : decode cX1_becomeQuotient 36 = .ok (.aload_n 0, 1) := by decide +kernel
theorem dX1_becomeQuotient_37 : decode cX1_becomeQuotient 37 = .ok (.iload 4, 2) := by decide +kernel
theorem dX1_becomeQuotient_39 : decode cX1_becomeQuotient 39 = .ok (.invokevirtual 25, 3) := by decide +kernel
theorem dX1_becomeQuotient_42 : decode cX1_becomeQuotient 42 = .ok (.lmul, 1) := by decide +kernel
theorem dX1_becomeQuotient_43 : decode cX1_becomeQuotient 43 = .ok (.ldc2_w 43, 3) := by decide +kernel
theorem dX1_becomeQuotient_46 : decode cX1_becomeQuotient 46 = .ok (.invokestatic 45, 3) := by decide +kernel
theorem dX1_becomeQuotient_49 : decode cX1_becomeQuotient 49 = .ok (.ladd, 1) := by decide +kernel
theorem dX1_becomeQuotient_50 : decode cX1_becomeQuotient 50 = .ok (.aload_n 0, 1) := by decide +kernel
theorem dX1_becomeQuotient_51 : decode cX1_becomeQuotient 51 = .ok (.iload 4, 2) := by decide +kernel
theorem dX1_becomeQuotient_53 : decode cX1_becomeQuotient 53 = .ok (.iconst 1, 1) := by decide +kernel
theorem dX1_becomeQuotient_54 : decode cX1_becomeQuotient 54 = .ok (.iadd, 1) := by decide +kernel
theorem dX1_becomeQuotient_55 : decode cX1_becomeQuotient 55 = .ok (.invokevirtual 25, 3) := by decide +kernel
theorem dX1_becomeQuotient_58 : decode cX1_becomeQuotient 58 = .ok (.lsub, 1) := by decide +kernel
theorem dX1_becomeQuotient_59 : decode cX1_becomeQuotient 59 = .ok (.invokevirtual 59, 3) := by decide +kernel
theorem dX1_becomeQuotient_62 : decode cX1_becomeQuotient 62 = .ok (.iinc 4 (-1), 3) := by decide +kernel
theorem dX1_becomeQuotient_65 : decode cX1_becomeQuotient 65 = .ok (.goto (-55), 3) := by decide +kernel
theorem dX1_becomeQuotient_68 : decode cX1_becomeQuotient 68 = .ok (.aload_n 0, 1) := by decide +kernel
theorem dX1_becomeQuotient_69 : decode cX1_becomeQuotient 69 = .ok (.iconst 0, 1) := by decide +kernel
theorem dX1_becomeQuotient_70 : decode cX1_becomeQuotient 70 = .ok (.aload_n 1, 1) := by decide +kernel
theorem dX1_becomeQuotient_71 : decode cX1_becomeQuotient 71 = .ok (.iconst 1, 1) := by decide +kernel
theorem dX1_becomeQuotient_72 : decode cX1_becomeQuotient 72 = .ok (.invokevirtual 25, 3) := by decide +kernel
theorem dX1_becomeQuotient_75 : decode cX1_becomeQuotient 75 = .ok (.lload_n 2, 1) := by decide +kernel
theorem dX1_becomeQuotient_76 : decode cX1_becomeQuotient 76 = .ok (.aload_n 0, 1) := by decide +kernel
theorem dX1_becomeQuotient_77 : decode cX1_becomeQuotient 77 = .ok (.iconst 1, 1) := by decide +kernel
theorem dX1_becomeQuotient_78 : decode cX1_becomeQuotient 78 = .ok (.invokevirtual 25, 3) := by decide +kernel
theorem dX1_becomeQuotient_81 : decode cX1_becomeQuotient 81 = .ok (.lmul, 1) := by decide +kernel
theorem dX1_becomeQuotient_82 : decode cX1_becomeQuotient 82 = .ok (.ldc2_w 43, 3) := by decide +kernel
theorem dX1_becomeQuotient_85 : decode cX1_becomeQuotient 85 = .ok (.invokestatic 45, 3) := by decide +kernel
theorem dX1_becomeQuotient_88 : decode cX1_becomeQuotient 88 = .ok (.ladd, 1) := by decide +kernel
theorem dX1_becomeQuotient_89 : decode cX1_becomeQuotient 89 = .ok (.aload_n 0, 1) := by decide +kernel
theorem dX1_becomeQuotient_90 : decode cX1_becomeQuotient 90 = .ok (.iconst 2, 1) := by decide +kernel
theorem dX1_becomeQuotient_91 : decode cX1_becomeQuotient 91 = .ok (.invokevirtual 25, 3) := by decide +kernel
theorem dX1_becomeQuotient_94 : decode cX1_becomeQuotient 94 = .ok (.ldc2_w 41, 3) := by decide +kernel
theorem dX1_becomeQuotient_97 : decode cX1_becomeQuotient 97 = .ok (.invokestatic 45, 3) := by decide +kernel
theorem dX1_becomeQuotient_100 : decode cX1_becomeQuotient 100 = .ok (.lsub, 1) := by decide +kernel
theorem dX1_becomeQuotient_101 : decode cX1_becomeQuotient 101 = .ok (.invokevirtual 59, 3) := by decide +kernel
theorem dX1_becomeQuotient_104 : decode cX1_becomeQuotient 104 = .ok (.aload_n 0, 1) := by decide +kernel
theorem dX1_becomeQuotient_105 : decode cX1_becomeQuotient 105 = .ok (.invokevirtual 53, 3) := by decide +kernel
theorem dX1_becomeQuotient_108 : decode cX1_becomeQuotient 108 = .ok (.return_, 1) := by decide +kernel
set_option maxRecDepth 20000 in
theorem ggX2_init_X0_init : GoodIn wsX2_init wsX0_init := goodIn_r _ [19, 20, 2, 3, 6, 21, 22, 34, 35, 36, 37, 38] (by decide +kernel) (by decide +kernel)
set_option maxRecDepth 20000 in
theorem gX2_init_X0_init_n21 : GoodIn wsX2_init (wsX0_init) := ggX2_init_X0_init
set_option maxRecDepth 20000 in
theorem ggX2_init_X1_init : GoodIn wsX2_init wsX1_init := goodIn_r _ [24, 25, 2, 3, 6, 26, 39, 40] (by decide +kernel) (by decide +kernel)
set_option maxRecDepth 20000 in
theorem gX2_init_X1_init_n26 : GoodIn wsX2_init (wsX1_init) := ggX2_init_X1_init
theorem dX2_init_0 : decode cX2_init 0 = .ok (.aload_n 0, 1) := by decide +kernel
theorem dX2_init_1 : decode cX2_init 1 = .ok (.invokespecial 1, 3) := by decide +kernel
theorem dX2_init_4 : decode cX2_init 4 = .ok (.aload_n 0, 1) := by decide +kernel
theorem dX2_init_5 : decode cX2_init 5 = .ok (.bipush 8, 2) := by decide +kernel
theorem dX2_init_7 : decode cX2_init 7 = .ok (.anewarray 9, 3) := by decide +kernel
theorem dX2_init_10 : decode cX2_init 10 = .ok (.putfield 11, 3) := by decide +kernel
theorem dX2_init_13 : decode cX2_init 13 = .ok (.aload_n 0, 1) := by decide +kernel
theorem dX2_init_14 : decode cX2_init 14 = .ok (.bipush 17, 2) := by decide +kernel
theorem dX2_init_16 : decode cX2_init 16 = .ok (.newarray .long, 2) := by decide +kernel
theorem dX2_init_18 : decode cX2_init 18 = .ok (.putfield 15, 3) := by decide +kernel
theorem dX2_init_21 : decode cX2_init 21 = .ok (.aload_n 0, 1) := by decide +kernel
theorem dX2_init_22 : decode cX2_init 22 = .ok (.new 19, 3) := by decide +kernel
theorem dX2_init_25 : decode cX2_init 25 = .ok (.dup, 1) := by decide +kernel
theorem dX2_init_26 : decode cX2_init 26 = .ok (.invokespecial 21, 3) := by decide +kernel
theorem dX2_init_29 : decode cX2_init 29 = .ok (.putfield 22, 3) := by decide +kernel
theorem dX2_init_32 : decode cX2_init 32 = .ok (.aload_n 0, 1) := by decide +kernel
theorem dX2_init_33 : decode cX2_init 33 = .ok (.new 9, 3) := by decide +kernel
theorem dX2_init_36 : decode cX2_init 36 = .ok (.dup, 1) := by decide +kernel
theorem dX2_init_37 : decode cX2_init 37 = .ok (.invokespecial 26, 3) := by decide +kernel
theorem dX2_init_40 : decode cX2_init 40 = .ok (.putfield 27, 3) := by decide +kernel
theorem dX2_init_43 : decode cX2_init 43 = .ok (.aload_n 0, 1) := by decide +kernel
theorem dX2_init_44 : decode cX2_init 44 = .ok (.new 9, 3) := by decide +kernel
theorem dX2_init_47 : decode cX2_init 47 = .ok (.dup, 1) := by decide +kernel
theorem dX2_init_48 : decode cX2_init 48 = .ok (.invokespecial 26, 3) := by decide +kernel
theorem dX2_init_51 : decode cX2_init 51 = .ok (.putfield 31, 3) := by decide +kernel
theorem dX2_init_54 : decode cX2_init 54 = .ok (.aload_n 0, 1) := by decide +kernel
theorem dX2_init_55 : decode cX2_init 55 = .ok (.new 9, 3) := by decide +kernel
theorem dX2_init_58 : decode cX2_init 58 = .ok (.dup, 1) := by decide +kernel
theorem dX2_init_59 : decode cX2_init 59 = .ok (.invokespecial 26, 3) := by decide +kernel
theorem dX2_init_62 : decode cX2_init 62 = .ok (.putfield 34, 3) := by decide +kernel
theorem dX2_init_65 : decode cX2_init 65 = .ok (.aload_n 0, 1) := by decide +kernel
theorem dX2_init_66 : decode cX2_init 66 = .ok (.new 9, 3) := by decide +kernel
theorem dX2_init_69 : decode cX2_init 69 = .ok (.dup, 1) := by decide +kernel
theorem dX2_init_70 : decode cX2_init 70 = .ok (.invokespecial 26, 3) := by decide +kernel
theorem dX2_init_73 : decode cX2_init 73 = .ok (.putfield 37, 3) := by decide +kernel
theorem dX2_init_76 : decode cX2_init 76 = .ok (.iconst 0, 1) := by decide +kernel
theorem dX2_init_77 : decode cX2_init 77 = .ok (.istore_n 1, 1) := by decide +kernel
theorem dX2_init_78 : decode cX2_init 78 = .ok (.iload_n 1, 1) := by decide +kernel
theorem dX2_init_79 : decode cX2_init 79 = .ok (.aload_n 0, 1) := by decide +kernel
theorem dX2_init_80 : decode cX2_init 80 = .ok (.getfield 11, 3) := by decide +kernel
theorem dX2_init_83 : decode cX2_init 83 = .ok (.arraylength, 1) := by decide +kernel
theorem dX2_init_84 : decode cX2_init 84 = .ok (.if_icmp .ge 22, 3) := by decide +kernel
theorem dX2_init_87 : decode cX2_init 87 = .ok (.aload_n 0, 1) := by decide +kernel
theorem dX2_init_88 : decode cX2_init 88 = .ok (.getfield 11, 3) := by decide +kernel
theorem dX2_init_91 : decode cX2_init 91 = .ok (.iload_n 1, 1) := by decide +kernel
theorem dX2_init_92 : decode cX2_init 92 = .ok (.new 9, 3) := by decide +kernel
theorem dX2_init_95 : decode cX2_init 95 = .ok (.dup, 1) := by decide +kernel
theorem dX2_init_96 : decode cX2_init 96 = .ok (.invokespecial 26, 3) := by decide +kernel
theorem dX2_init_99 : decode cX2_init 99 = .ok (.aastore, 1) := by decide +kernel
theorem dX2_init_100 : decode cX2_init 100 = .ok (.iinc 1 1, 3) := by decide +kernel
theorem dX2_init_103 : decode cX2_init 103 = .ok (.goto (-25), 3) := by decide +kernel
theorem dX2_init_106 : decode cX2_init 106 = .ok (.return_, 1) := by decide +kernel
set_option maxRecDepth 20000 in
theorem ggX2_setCoefficient_X2_find : GoodIn wsX2_setCoefficient wsX2_find := goodIn_r _ [8, 9, 28, 29, 30, 31, 32, 33, 34] (by decide +kernel) (by decide +kernel)
set_option maxRecDepth 20000 in
theorem gX2_setCoefficient_X2_find : GoodIn wsX2_setCoefficient (wsV RX2 40 RX2 yX2_find wsX2_find) := goodIn_app (goodIn_of _ (by decide +kernel)) ggX2_setCoefficient_X2_find
set_option maxRecDepth 20000 in
theorem ggX2_setCoefficient_X2_isOutside : GoodIn wsX2_setCoefficient wsX2_isOutside := goodIn_r _ [12] (by decide +kernel) (by decide +kernel)
set_option maxRecDepth 20000 in
theorem gX2_setCoefficient_X2_isOutside : GoodIn wsX2_setCoefficient (va_wsS RX2 44 yX2_isOutside wsX2_isOutside) := goodIn_app (goodIn_of _ (by decide +kernel)) ggX2_setCoefficient_X2_isOutside
set_option maxRecDepth 20000 in
theorem ggX2_setCoefficient_X1_put : GoodIn wsX2_setCoefficient wsX1_put := goodIn_r _ [17, 18, 35, 36] (by decide +kernel) (by decide +kernel)
set_option maxRecDepth 20000 in
theorem gX2_setCoefficient_X1_put : GoodIn wsX2_setCoefficient (wsV RX2 52 RX1 yX1_put wsX1_put) := goodIn_app (goodIn_of _ (by decide +kernel)) ggX2_setCoefficient_X1_put
set_option maxRecDepth 20000 in
theorem ggX2_setCoefficient_X1_trim : GoodIn wsX2_setCoefficient wsX1_trim := goodIn_r _ [22, 23, 18, 35, 36] (by decide +kernel) (by decide +kernel)
set_option maxRecDepth 20000 in
theorem gX2_setCoefficient_X1_trim : GoodIn wsX2_setCoefficient (wsV RX2 56 RX1 yX1_trim wsX1_trim) := goodIn_app (goodIn_of _ (by decide +kernel)) ggX2_setCoefficient_X1_trim
set_option maxRecDepth 20000 in
theorem ggX2_setCoefficient_X1_top : GoodIn wsX2_setCoefficient wsX1_top := goodIn_r _ [27, 23, 35, 36] (by decide +kernel) (by decide +kernel)
set_option maxRecDepth 20000 in
theorem gX2_setCoefficient_X1_top : GoodIn wsX2_setCoefficient (wsV RX2 59 RX1 yX1_top wsX1_top) := goodIn_app (goodIn_of _ (by decide +kernel)) ggX2_setCoefficient_X1_top
theorem dX2_setCoefficient_0 : decode cX2_setCoefficient 0 = .ok (.aload_n 0, 1) := by decide +kernel
theorem dX2_setCoefficient_1 : decode cX2_setCoefficient 1 = .ok (.iload_n 1, 1) := by decide +kernel
theorem dX2_setCoefficient_2 : decode cX2_setCoefficient 2 = .ok (.invokevirtual 40, 3) := by decide +kernel
theorem dX2_setCoefficient_5 : decode cX2_setCoefficient 5 = .ok (.astore 4, 2) := by decide +kernel
theorem dX2_setCoefficient_7 : decode cX2_setCoefficient 7 = .ok (.aload 4, 2) := by decide +kernel
theorem dX2_setCoefficient_9 : decode cX2_setCoefficient 9 = .ok (.ifnull 24, 3) := by decide +kernel
theorem dX2_setCoefficient_12 : decode cX2_setCoefficient 12 = .ok (.iload_n 2, 1) := by decide +kernel
theorem dX2_setCoefficient_13 : decode cX2_setCoefficient 13 = .ok (.iconst 0, 1) := by decide +kernel
theorem dX2_setCoefficient_14 : decode cX2_setCoefficient 14 = .ok (.bipush 24, 2) := by decide +kernel
theorem dX2_setCoefficient_16 : decode cX2_setCoefficient 16 = .ok (.invokestatic 44, 3) := by decide +kernel
theorem dX2_setCoefficient_19 : decode cX2_setCoefficient 19 = .ok (.ifCond .ne 14, 3) := by decide +kernel
theorem dX2_setCoefficient_22 : decode cX2_setCoefficient 22 = .ok (.iload_n 3, 1) := by decide +kernel
theorem dX2_setCoefficient_23 : decode cX2_setCoefficient 23 = .ok (.ldc 48, 2) := by decide +kernel
theorem dX2_setCoefficient_25 : decode cX2_setCoefficient 25 = .ok (.ldc 49, 2) := by decide +kernel
theorem dX2_setCoefficient_27 : decode cX2_setCoefficient 27 = .ok (.invokestatic 44, 3) := by decide +kernel
theorem dX2_setCoefficient_30 : decode cX2_setCoefficient 30 = .ok (.ifCond .eq 7, 3) := by decide +kernel
theorem dX2_setCoefficient_33 : decode cX2_setCoefficient 33 = .ok (.ldc2_w 50, 3) := by decide +kernel
theorem dX2_setCoefficient_36 : decode cX2_setCoefficient 36 = .ok (.lreturn, 1) := by decide +kernel
theorem dX2_setCoefficient_37 : decode cX2_setCoefficient 37 = .ok (.aload 4, 2) := by decide +kernel
theorem dX2_setCoefficient_39 : decode cX2_setCoefficient 39 = .ok (.iload_n 2, 1) := by decide +kernel
theorem dX2_setCoefficient_40 : decode cX2_setCoefficient 40 = .ok (.iload_n 3, 1) := by decide +kernel
theorem dX2_setCoefficient_41 : decode cX2_setCoefficient 41 = .ok (.i2l, 1) := by decide +kernel
theorem dX2_setCoefficient_42 : decode cX2_setCoefficient 42 = .ok (.invokevirtual 52, 3) := by decide +kernel
theorem dX2_setCoefficient_45 : decode cX2_setCoefficient 45 = .ok (.aload 4, 2) := by decide +kernel
theorem dX2_setCoefficient_47 : decode cX2_setCoefficient 47 = .ok (.invokevirtual 56, 3) := by decide +kernel
theorem dX2_setCoefficient_50 : decode cX2_setCoefficient 50 = .ok (.aload 4, 2) := by decide +kernel
theorem dX2_setCoefficient_52 : decode cX2_setCoefficient 52 = .ok (.invokevirtual 59, 3) := by decide +kernel
theorem dX2_setCoefficient_55 : decode cX2_setCoefficient 55 = .ok (.i2l, 1) := by decide +kernel
theorem dX2_setCoefficient_56 : decode cX2_setCoefficient 56 = .ok (.lreturn, 1) := by decide +kernel
set_option maxRecDepth 20000 in
theorem ggX2_coefficient_X2_find : GoodIn wsX2_coefficient wsX2_find := goodIn_r _ [6, 7, 17, 18, 19, 20, 21, 22, 23] (by decide +kernel) (by decide +kernel)
set_option maxRecDepth 20000 in
theorem gX2_coefficient_X2_find : GoodIn wsX2_coefficient (wsV RX2 40 RX2 yX2_find wsX2_find) := goodIn_app (goodIn_of _ (by decide +kernel)) ggX2_coefficient_X2_find
set_option maxRecDepth 20000 in
theorem ggX2_coefficient_X2_isOutside : GoodIn wsX2_coefficient wsX2_isOutside := goodIn_r _ [10] (by decide +kernel) (by decide +kernel)
set_option maxRecDepth 20000 in
theorem gX2_coefficient_X2_isOutside : GoodIn wsX2_coefficient (va_wsS RX2 44 yX2_isOutside wsX2_isOutside) := goodIn_app (goodIn_of _ (by decide +kernel)) ggX2_coefficient_X2_isOutside
set_option maxRecDepth 20000 in
theorem ggX2_coefficient_X1_at : GoodIn wsX2_coefficient wsX1_at := goodIn_r _ [15, 16, 24, 25] (by decide +kernel) (by decide +kernel)
set_option maxRecDepth 20000 in
theorem gX2_coefficient_X1_at : GoodIn wsX2_coefficient (wsV RX2 63 RX1 yX1_at wsX1_at) := goodIn_app (goodIn_of _ (by decide +kernel)) ggX2_coefficient_X1_at
theorem dX2_coefficient_0 : decode cX2_coefficient 0 = .ok (.aload_n 0, 1) := by decide +kernel
theorem dX2_coefficient_1 : decode cX2_coefficient 1 = .ok (.iload_n 1, 1) := by decide +kernel
theorem dX2_coefficient_2 : decode cX2_coefficient 2 = .ok (.invokevirtual 40, 3) := by decide +kernel
theorem dX2_coefficient_5 : decode cX2_coefficient 5 = .ok (.astore_n 3, 1) := by decide +kernel
theorem dX2_coefficient_6 : decode cX2_coefficient 6 = .ok (.aload_n 3, 1) := by decide +kernel
theorem dX2_coefficient_7 : decode cX2_coefficient 7 = .ok (.ifnull 13, 3) := by decide +kernel
theorem dX2_coefficient_10 : decode cX2_coefficient 10 = .ok (.iload_n 2, 1) := by decide +kernel
theorem dX2_coefficient_11 : decode cX2_coefficient 11 = .ok (.iconst 0, 1) := by decide +kernel
theorem dX2_coefficient_12 : decode cX2_coefficient 12 = .ok (.bipush 24, 2) := by decide +kernel
theorem dX2_coefficient_14 : decode cX2_coefficient 14 = .ok (.invokestatic 44, 3) := by decide +kernel
theorem dX2_coefficient_17 : decode cX2_coefficient 17 = .ok (.ifCond .eq 7, 3) := by decide +kernel
theorem dX2_coefficient_20 : decode cX2_coefficient 20 = .ok (.ldc2_w 50, 3) := by decide +kernel
theorem dX2_coefficient_23 : decode cX2_coefficient 23 = .ok (.lreturn, 1) := by decide +kernel
theorem dX2_coefficient_24 : decode cX2_coefficient 24 = .ok (.aload_n 3, 1) := by decide +kernel
theorem dX2_coefficient_25 : decode cX2_coefficient 25 = .ok (.iload_n 2, 1) := by decide +kernel
theorem dX2_coefficient_26 : decode cX2_coefficient 26 = .ok (.invokevirtual 63, 3) := by decide +kernel
theorem dX2_coefficient_29 : decode cX2_coefficient 29 = .ok (.lreturn, 1) := by decide +kernel
set_option maxRecDepth 20000 in
theorem ggX2_degree_X2_find : GoodIn wsX2_degree wsX2_find := goodIn_r _ [6, 7, 14, 15, 16, 17, 18, 19, 20] (by decide +kernel) (by decide +kernel)
set_option maxRecDepth 20000 in
theorem gX2_degree_X2_find : GoodIn wsX2_degree (wsV RX2 40 RX2 yX2_find wsX2_find) := goodIn_app (goodIn_of _ (by decide +kernel)) ggX2_degree_X2_find
set_option maxRecDepth 20000 in
theorem ggX2_degree_X1_top : GoodIn wsX2_degree wsX1_top := goodIn_r _ [12, 13, 21, 22] (by decide +kernel) (by decide +kernel)
set_option maxRecDepth 20000 in
theorem gX2_degree_X1_top : GoodIn wsX2_degree (wsV RX2 59 RX1 yX1_top wsX1_top) := goodIn_app (goodIn_of _ (by decide +kernel)) ggX2_degree_X1_top
theorem dX2_degree_0 : decode cX2_degree 0 = .ok (.aload_n 0, 1) := by decide +kernel
theorem dX2_degree_1 : decode cX2_degree 1 = .ok (.iload_n 1, 1) := by decide +kernel
theorem dX2_degree_2 : decode cX2_degree 2 = .ok (.invokevirtual 40, 3) := by decide +kernel
theorem dX2_degree_5 : decode cX2_degree 5 = .ok (.astore_n 2, 1) := by decide +kernel
theorem dX2_degree_6 : decode cX2_degree 6 = .ok (.aload_n 2, 1) := by decide +kernel
theorem dX2_degree_7 : decode cX2_degree 7 = .ok (.ifnonnull 9, 3) := by decide +kernel
theorem dX2_degree_10 : decode cX2_degree 10 = .ok (.ldc2_w 50, 3) := by decide +kernel
theorem dX2_degree_13 : decode cX2_degree 13 = .ok (.goto 8, 3) := by decide +kernel
theorem dX2_degree_16 : decode cX2_degree 16 = .ok (.aload_n 2, 1) := by decide +kernel
theorem dX2_degree_17 : decode cX2_degree 17 = .ok (.invokevirtual 59, 3) := by decide +kernel
theorem dX2_degree_20 : decode cX2_degree 20 = .ok (.i2l, 1) := by decide +kernel
theorem dX2_degree_21 : decode cX2_degree 21 = .ok (.lreturn, 1) := by decide +kernel
set_option maxRecDepth 20000 in
theorem ggX2_copy_X2_find : GoodIn wsX2_copy wsX2_find := goodIn_r _ [6, 7, 23, 24, 25, 26, 27, 28, 29] (by decide +kernel) (by decide +kernel)
set_option maxRecDepth 20000 in
theorem gX2_copy_X2_find : GoodIn wsX2_copy (wsV RX2 40 RX2 yX2_find wsX2_find) := goodIn_app (goodIn_of _ (by decide +kernel)) ggX2_copy_X2_find
set_option maxRecDepth 20000 in
theorem ggX2_copy_X1_take : GoodIn wsX2_copy wsX1_take := goodIn_r _ [12, 13, 14, 15, 16, 17, 11, 18, 30, 31] (by decide +kernel) (by decide +kernel)
set_option maxRecDepth 20000 in
theorem gX2_copy_X1_take : GoodIn wsX2_copy (wsV RX2 67 RX1 yX1_take wsX1_take) := goodIn_app (goodIn_of _ (by decide +kernel)) ggX2_copy_X1_take
set_option maxRecDepth 20000 in
theorem ggX2_copy_X1_top : GoodIn wsX2_copy wsX1_top := goodIn_r _ [22, 14, 30, 31] (by decide +kernel) (by decide +kernel)
set_option maxRecDepth 20000 in
theorem gX2_copy_X1_top : GoodIn wsX2_copy (wsV RX2 59 RX1 yX1_top wsX1_top) := goodIn_app (goodIn_of _ (by decide +kernel)) ggX2_copy_X1_top
theorem dX2_copy_0 : decode cX2_copy 0 = .ok (.aload_n 0, 1) := by decide +kernel
theorem dX2_copy_1 : decode cX2_copy 1 = .ok (.iload_n 1, 1) := by decide +kernel
theorem dX2_copy_2 : decode cX2_copy 2 = .ok (.invokevirtual 40, 3) := by decide +kernel
theorem dX2_copy_5 : decode cX2_copy 5 = .ok (.astore_n 3, 1) := by decide +kernel
theorem dX2_copy_6 : decode cX2_copy 6 = .ok (.aload_n 0, 1) := by decide +kernel
theorem dX2_copy_7 : decode cX2_copy 7 = .ok (.iload_n 2, 1) := by decide +kernel
theorem dX2_copy_8 : decode cX2_copy 8 = .ok (.invokevirtual 40, 3) := by decide +kernel
theorem dX2_copy_11 : decode cX2_copy 11 = .ok (.astore 4, 2) := by decide +kernel
theorem dX2_copy_13 : decode cX2_copy 13 = .ok (.aload_n 3, 1) := by decide +kernel
theorem dX2_copy_14 : decode cX2_copy 14 = .ok (.ifnull 8, 3) := by decide +kernel
theorem dX2_copy_17 : decode cX2_copy 17 = .ok (.aload 4, 2) := by decide +kernel
theorem dX2_copy_19 : decode cX2_copy 19 = .ok (.ifnonnull 7, 3) := by decide +kernel
theorem dX2_copy_22 : decode cX2_copy 22 = .ok (.ldc2_w 50, 3) := by decide +kernel
theorem dX2_copy_25 : decode cX2_copy 25 = .ok (.lreturn, 1) := by decide +kernel
theorem dX2_copy_26 : decode cX2_copy 26 = .ok (.aload 4, 2) := by decide +kernel
theorem dX2_copy_28 : decode cX2_copy 28 = .ok (.aload_n 3, 1) := by decide +kernel
theorem dX2_copy_29 : decode cX2_copy 29 = .ok (.invokevirtual 67, 3) := by decide +kernel
theorem dX2_copy_32 : decode cX2_copy 32 = .ok (.aload 4, 2) := by decide +kernel
theorem dX2_copy_34 : decode cX2_copy 34 = .ok (.invokevirtual 59, 3) := by decide +kernel
theorem dX2_copy_37 : decode cX2_copy 37 = .ok (.i2l, 1) := by decide +kernel
theorem dX2_copy_38 : decode cX2_copy 38 = .ok (.lreturn, 1) := by decide +kernel
set_option maxRecDepth 20000 in
theorem ggX2_value_X2_find : GoodIn wsX2_value wsX2_find := goodIn_r _ [8, 9, 33, 34, 35, 36, 37, 38, 39] (by decide +kernel) (by decide +kernel)
set_option maxRecDepth 20000 in
theorem gX2_value_X2_find : GoodIn wsX2_value (wsV RX2 40 RX2 yX2_find wsX2_find) := goodIn_app (goodIn_of _ (by decide +kernel)) ggX2_value_X2_find
set_option maxRecDepth 20000 in
theorem ggX2_value_X2_isOutside : GoodIn wsX2_value wsX2_isOutside := goodIn_r _ [12] (by decide +kernel) (by decide +kernel)
set_option maxRecDepth 20000 in
theorem gX2_value_X2_isOutside : GoodIn wsX2_value (va_wsS RX2 44 yX2_isOutside wsX2_isOutside) := goodIn_app (goodIn_of _ (by decide +kernel)) ggX2_value_X2_isOutside
set_option maxRecDepth 20000 in
theorem ggX2_value_X1_valueAt : GoodIn wsX2_value wsX1_valueAt := goodIn_r _ [17, 18, 19, 20, 21, 22, 23, 16, 24, 25, 26, 7, 27, 28, 29, 30, 31, 32, 40, 41] (by decide +kernel) (by decide +kernel)
set_option maxRecDepth 20000 in
theorem gX2_value_X1_valueAt : GoodIn wsX2_value (wsV RX2 73 RX1 yX1_valueAt wsX1_valueAt) := goodIn_app (goodIn_of _ (by decide +kernel)) ggX2_value_X1_valueAt
theorem dX2_value_0 : decode cX2_value 0 = .ok (.aload_n 0, 1) := by decide +kernel
theorem dX2_value_1 : decode cX2_value 1 = .ok (.iload_n 1, 1) := by decide +kernel
theorem dX2_value_2 : decode cX2_value 2 = .ok (.invokevirtual 40, 3) := by decide +kernel
theorem dX2_value_5 : decode cX2_value 5 = .ok (.astore_n 3, 1) := by decide +kernel
theorem dX2_value_6 : decode cX2_value 6 = .ok (.aload_n 3, 1) := by decide +kernel
theorem dX2_value_7 : decode cX2_value 7 = .ok (.ifnull 14, 3) := by decide +kernel
theorem dX2_value_10 : decode cX2_value 10 = .ok (.iload_n 2, 1) := by decide +kernel
theorem dX2_value_11 : decode cX2_value 11 = .ok (.ldc 71, 2) := by decide +kernel
theorem dX2_value_13 : decode cX2_value 13 = .ok (.ldc 72, 2) := by decide +kernel
theorem dX2_value_15 : decode cX2_value 15 = .ok (.invokestatic 44, 3) := by decide +kernel
theorem dX2_value_18 : decode cX2_value 18 = .ok (.ifCond .eq 7, 3) := by decide +kernel
theorem dX2_value_21 : decode cX2_value 21 = .ok (.ldc2_w 50, 3) := by decide +kernel
theorem dX2_value_24 : decode cX2_value 24 = .ok (.lreturn, 1) := by decide +kernel
theorem dX2_value_25 : decode cX2_value 25 = .ok (.aload_n 3, 1) := by decide +kernel
theorem dX2_value_26 : decode cX2_value 26 = .ok (.iload_n 2, 1) := by decide +kernel
theorem dX2_value_27 : decode cX2_value 27 = .ok (.i2l, 1) := by decide +kernel
theorem dX2_value_28 : decode cX2_value 28 = .ok (.invokevirtual 73, 3) := by decide +kernel
theorem dX2_value_31 : decode cX2_value 31 = .ok (.lreturn, 1) := by decide +kernel
set_option maxRecDepth 20000 in
theorem ggX2_add_X2_find : GoodIn wsX2_add wsX2_find := goodIn_r _ [7, 8, 50, 51, 52, 53, 54, 55, 56] (by decide +kernel) (by decide +kernel)
set_option maxRecDepth 20000 in
theorem gX2_add_X2_find : GoodIn wsX2_add (wsV RX2 40 RX2 yX2_find wsX2_find) := goodIn_app (goodIn_of _ (by decide +kernel)) ggX2_add_X2_find
set_option maxRecDepth 20000 in
theorem ggX2_add_X2_isOutside : GoodIn wsX2_add wsX2_isOutside := goodIn_r _ [11] (by decide +kernel) (by decide +kernel)
set_option maxRecDepth 20000 in
theorem gX2_add_X2_isOutside : GoodIn wsX2_add (va_wsS RX2 44 yX2_isOutside wsX2_isOutside) := goodIn_app (goodIn_of _ (by decide +kernel)) ggX2_add_X2_isOutside
set_option maxRecDepth 20000 in
theorem ggX2_add_X1_becomeSum : GoodIn wsX2_add wsX1_becomeSum := goodIn_r _ [16, 17, 18, 19, 20, 15, 21, 22, 23, 24, 25, 26, 57, 58] (by decide +kernel) (by decide +kernel)
set_option maxRecDepth 20000 in
theorem gX2_add_X1_becomeSum : GoodIn wsX2_add (wsV RX2 77 RX1 yX1_becomeSum wsX1_becomeSum) := goodIn_app (goodIn_of _ (by decide +kernel)) ggX2_add_X1_becomeSum
set_option maxRecDepth 20000 in
theorem ggX2_add_X2_keepMade : GoodIn wsX2_add wsX2_keepMade := goodIn_r _ [30, 2, 31, 32, 33, 15, 34, 26, 35, 17, 36, 37, 38, 39, 40, 41, 42, 43, 44, 45, 18, 19, 20, 21, 46, 47, 48, 49, 50, 51, 52, 53, 54, 55, 56, 57, 58] (by decide +kernel) (by decide +kernel)
set_option maxRecDepth 20000 in
theorem gX2_add_X2_keepMade : GoodIn wsX2_add (wsV RX2 81 RX2 yX2_keepMade wsX2_keepMade) := goodIn_app (goodIn_of _ (by decide +kernel)) ggX2_add_X2_keepMade
theorem dX2_add_0 : decode cX2_add 0 = .ok (.aload_n 0, 1) := by decide +kernel
theorem dX2_add_1 : decode cX2_add 1 = .ok (.iload_n 1, 1) := by decide +kernel
theorem dX2_add_2 : decode cX2_add 2 = .ok (.invokevirtual 40, 3) := by decide +kernel
theorem dX2_add_5 : decode cX2_add 5 = .ok (.astore 6, 2) := by decide +kernel
theorem dX2_add_7 : decode cX2_add 7 = .ok (.aload_n 0, 1) := by decide +kernel
theorem dX2_add_8 : decode cX2_add 8 = .ok (.iload_n 3, 1) := by decide +kernel
theorem dX2_add_9 : decode cX2_add 9 = .ok (.invokevirtual 40, 3) := by decide +kernel
theorem dX2_add_12 : decode cX2_add 12 = .ok (.astore 7, 2) := by decide +kernel
theorem dX2_add_14 : decode cX2_add 14 = .ok (.aload_n 0, 1) := by decide +kernel
theorem dX2_add_15 : decode cX2_add 15 = .ok (.iload 5, 2) := by decide +kernel
theorem dX2_add_17 : decode cX2_add 17 = .ok (.invokevirtual 40, 3) := by decide +kernel
theorem dX2_add_20 : decode cX2_add 20 = .ok (.astore 8, 2) := by decide +kernel
theorem dX2_add_22 : decode cX2_add 22 = .ok (.aload 6, 2) := by decide +kernel
theorem dX2_add_24 : decode cX2_add 24 = .ok (.ifnull 13, 3) := by decide +kernel
theorem dX2_add_27 : decode cX2_add 27 = .ok (.aload 7, 2) := by decide +kernel
theorem dX2_add_29 : decode cX2_add 29 = .ok (.ifnull 8, 3) := by decide +kernel
theorem dX2_add_32 : decode cX2_add 32 = .ok (.aload 8, 2) := by decide +kernel
theorem dX2_add_34 : decode cX2_add 34 = .ok (.ifnonnull 7, 3) := by decide +kernel
theorem dX2_add_37 : decode cX2_add 37 = .ok (.ldc2_w 50, 3) := by decide +kernel
theorem dX2_add_40 : decode cX2_add 40 = .ok (.lreturn, 1) := by decide +kernel
theorem dX2_add_41 : decode cX2_add 41 = .ok (.iload_n 2, 1) := by decide +kernel
theorem dX2_add_42 : decode cX2_add 42 = .ok (.sipush (-1000), 3) := by decide +kernel
theorem dX2_add_45 : decode cX2_add 45 = .ok (.sipush 1000, 3) := by decide +kernel
theorem dX2_add_48 : decode cX2_add 48 = .ok (.invokestatic 44, 3) := by decide +kernel
theorem dX2_add_51 : decode cX2_add 51 = .ok (.ifCond .ne 17, 3) := by decide +kernel
theorem dX2_add_54 : decode cX2_add 54 = .ok (.iload 4, 2) := by decide +kernel
theorem dX2_add_56 : decode cX2_add 56 = .ok (.sipush (-1000), 3) := by decide +kernel
theorem dX2_add_59 : decode cX2_add 59 = .ok (.sipush 1000, 3) := by decide +kernel
theorem dX2_add_62 : decode cX2_add 62 = .ok (.invokestatic 44, 3) := by decide +kernel
theorem dX2_add_65 : decode cX2_add 65 = .ok (.ifCond .eq 7, 3) := by decide +kernel
theorem dX2_add_68 : decode cX2_add 68 = .ok (.ldc2_w 50, 3) := by decide +kernel
theorem dX2_add_71 : decode cX2_add 71 = .ok (.lreturn, 1) := by decide +kernel
theorem dX2_add_72 : decode cX2_add 72 = .ok (.aload_n 0, 1) := by decide +kernel
theorem dX2_add_73 : decode cX2_add 73 = .ok (.getfield 27, 3) := by decide +kernel
theorem dX2_add_76 : decode cX2_add 76 = .ok (.aload 6, 2) := by decide +kernel
theorem dX2_add_78 : decode cX2_add 78 = .ok (.iload_n 2, 1) := by decide +kernel
theorem dX2_add_79 : decode cX2_add 79 = .ok (.aload 7, 2) := by decide +kernel
theorem dX2_add_81 : decode cX2_add 81 = .ok (.iload 4, 2) := by decide +kernel
theorem dX2_add_83 : decode cX2_add 83 = .ok (.invokevirtual 77, 3) := by decide +kernel
theorem dX2_add_86 : decode cX2_add 86 = .ok (.aload_n 0, 1) := by decide +kernel
theorem dX2_add_87 : decode cX2_add 87 = .ok (.aload 8, 2) := by decide +kernel
theorem dX2_add_89 : decode cX2_add 89 = .ok (.invokevirtual 81, 3) := by decide +kernel
theorem dX2_add_92 : decode cX2_add 92 = .ok (.lreturn, 1) := by decide +kernel
set_option maxRecDepth 20000 in
theorem ggX2_multiply_X2_find : GoodIn wsX2_multiply wsX2_find := goodIn_r _ [7, 8, 70, 71, 72, 73, 74, 75, 76] (by decide +kernel) (by decide +kernel)
set_option maxRecDepth 20000 in
theorem gX2_multiply_X2_find : GoodIn wsX2_multiply (wsV RX2 40 RX2 yX2_find wsX2_find) := goodIn_app (goodIn_of _ (by decide +kernel)) ggX2_multiply_X2_find
set_option maxRecDepth 20000 in
theorem ggX2_multiply_X1_becomeProduct : GoodIn wsX2_multiply wsX1_becomeProduct := goodIn_r _ [13, 14, 15, 16, 17, 18, 19, 20, 21, 22, 23, 12, 24, 25, 26, 27, 28, 29, 30, 31, 32, 33, 34, 35, 36, 37, 6, 38, 39, 40, 41, 42, 43, 44, 45, 46, 47, 77, 78] (by decide +kernel) (by decide +kernel)
set_option maxRecDepth 20000 in
theorem gX2_multiply_X1_becomeProduct : GoodIn wsX2_multiply (wsV RX2 85 RX1 yX1_becomeProduct wsX1_becomeProduct) := goodIn_app (goodIn_of _ (by decide +kernel)) ggX2_multiply_X1_becomeProduct
set_option maxRecDepth 20000 in
theorem ggX2_multiply_X2_keepMade : GoodIn wsX2_multiply wsX2_keepMade := goodIn_r _ [51, 2, 52, 53, 54, 12, 55, 14, 56, 19, 57, 58, 17, 59, 60, 61, 62, 63, 64, 65, 29, 30, 31, 32, 66, 67, 68, 69, 70, 71, 72, 73, 74, 75, 76, 77, 78] (by decide +kernel) (by decide +kernel)
set_option maxRecDepth 20000 in
theorem gX2_multiply_X2_keepMade : GoodIn wsX2_multiply (wsV RX2 81 RX2 yX2_keepMade wsX2_keepMade) := goodIn_app (goodIn_of _ (by decide +kernel)) ggX2_multiply_X2_keepMade
theorem dX2_multiply_0 : decode cX2_multiply 0 = .ok (.aload_n 0, 1) := by decide +kernel
theorem dX2_multiply_1 : decode cX2_multiply 1 = .ok (.iload_n 1, 1) := by decide +kernel
theorem dX2_multiply_2 : decode cX2_multiply 2 = .ok (.invokevirtual 40, 3) := by decide +kernel
theorem dX2_multiply_5 : decode cX2_multiply 5 = .ok (.astore 4, 2) := by decide +kernel
theorem dX2_multiply_7 : decode cX2_multiply 7 = .ok (.aload_n 0, 1) := by decide +kernel
theorem dX2_multiply_8 : decode cX2_multiply 8 = .ok (.iload_n 2, 1) := by decide +kernel
theorem dX2_multiply_9 : decode cX2_multiply 9 = .ok (.invokevirtual 40, 3) := by decide +kernel
theorem dX2_multiply_12 : decode cX2_multiply 12 = .ok (.astore 5, 2) := by decide +kernel
theorem dX2_multiply_14 : decode cX2_multiply 14 = .ok (.aload_n 0, 1) := by decide +kernel
theorem dX2_multiply_15 : decode cX2_multiply 15 = .ok (.iload_n 3, 1) := by decide +kernel
theorem dX2_multiply_16 : decode cX2_multiply 16 = .ok (.invokevirtual 40, 3) := by decide +kernel
theorem dX2_multiply_19 : decode cX2_multiply 19 = .ok (.astore 6, 2) := by decide +kernel
theorem dX2_multiply_21 : decode cX2_multiply 21 = .ok (.aload 4, 2) := by decide +kernel
theorem dX2_multiply_23 : decode cX2_multiply 23 = .ok (.ifnull 13, 3) := by decide +kernel
theorem dX2_multiply_26 : decode cX2_multiply 26 = .ok (.aload 5, 2) := by decide +kernel
theorem dX2_multiply_28 : decode cX2_multiply 28 = .ok (.ifnull 8, 3) := by decide +kernel
theorem dX2_multiply_31 : decode cX2_multiply 31 = .ok (.aload 6, 2) := by decide +kernel
theorem dX2_multiply_33 : decode cX2_multiply 33 = .ok (.ifnonnull 7, 3) := by decide +kernel
theorem dX2_multiply_36 : decode cX2_multiply 36 = .ok (.ldc2_w 50, 3) := by decide +kernel
theorem dX2_multiply_39 : decode cX2_multiply 39 = .ok (.lreturn, 1) := by decide +kernel
theorem dX2_multiply_40 : decode cX2_multiply 40 = .ok (.aload_n 0, 1) := by decide +kernel
theorem dX2_multiply_41 : decode cX2_multiply 41 = .ok (.getfield 27, 3) := by decide +kernel
theorem dX2_multiply_44 : decode cX2_multiply 44 = .ok (.aload 4, 2) := by decide +kernel
theorem dX2_multiply_46 : decode cX2_multiply 46 = .ok (.aload 5, 2) := by decide +kernel
theorem dX2_multiply_48 : decode cX2_multiply 48 = .ok (.invokevirtual 85, 3) := by decide +kernel
theorem dX2_multiply_51 : decode cX2_multiply 51 = .ok (.aload_n 0, 1) := by decide +kernel
theorem dX2_multiply_52 : decode cX2_multiply 52 = .ok (.aload 6, 2) := by decide +kernel
theorem dX2_multiply_54 : decode cX2_multiply 54 = .ok (.invokevirtual 81, 3) := by decide +kernel
theorem dX2_multiply_57 : decode cX2_multiply 57 = .ok (.lreturn, 1) := by decide +kernel
set_option maxRecDepth 20000 in
theorem ggX2_differentiate_X2_find : GoodIn wsX2_differentiate wsX2_find := goodIn_r _ [7, 8, 67, 68, 69, 70, 71, 72, 73] (by decide +kernel) (by decide +kernel)
set_option maxRecDepth 20000 in
theorem gX2_differentiate_X2_find : GoodIn wsX2_differentiate (wsV RX2 40 RX2 yX2_find wsX2_find) := goodIn_app (goodIn_of _ (by decide +kernel)) ggX2_differentiate_X2_find
set_option maxRecDepth 20000 in
theorem ggX2_differentiate_X1_becomeDerivative : GoodIn wsX2_differentiate wsX1_becomeDerivative := goodIn_r _ [13, 14, 15, 16, 17, 18, 12, 19, 20, 21, 22, 23, 24, 25, 26, 27, 28, 29, 30, 31, 32, 33, 6, 34, 35, 36, 37, 38, 39, 40, 41, 42, 43, 74, 75] (by decide +kernel) (by decide +kernel)
set_option maxRecDepth 20000 in
theorem gX2_differentiate_X1_becomeDerivative : GoodIn wsX2_differentiate (wsV RX2 89 RX1 yX1_becomeDerivative wsX1_becomeDerivative) := goodIn_app (goodIn_of _ (by decide +kernel)) ggX2_differentiate_X1_becomeDerivative
set_option maxRecDepth 20000 in
theorem ggX2_differentiate_X2_keepMade : GoodIn wsX2_differentiate wsX2_keepMade := goodIn_r _ [47, 2, 48, 49, 50, 12, 51, 14, 52, 20, 53, 54, 55, 56, 57, 58, 59, 60, 61, 62, 25, 26, 27, 28, 63, 64, 65, 66, 67, 68, 69, 70, 71, 72, 73, 74, 75] (by decide +kernel) (by decide +kernel)
set_option maxRecDepth 20000 in
theorem gX2_differentiate_X2_keepMade : GoodIn wsX2_differentiate (wsV RX2 81 RX2 yX2_keepMade wsX2_keepMade) := goodIn_app (goodIn_of _ (by decide +kernel)) ggX2_differentiate_X2_keepMade
theorem dX2_differentiate_0 : decode cX2_differentiate 0 = .ok (.aload_n 0, 1) := by decide +kernel
theorem dX2_differentiate_1 : decode cX2_differentiate 1 = .ok (.iload_n 1, 1) := by decide +kernel
theorem dX2_differentiate_2 : decode cX2_differentiate 2 = .ok (.invokevirtual 40, 3) := by decide +kernel
theorem dX2_differentiate_5 : decode cX2_differentiate 5 = .ok (.astore_n 3, 1) := by decide +kernel
theorem dX2_differentiate_6 : decode cX2_differentiate 6 = .ok (.aload_n 0, 1) := by decide +kernel
theorem dX2_differentiate_7 : decode cX2_differentiate 7 = .ok (.iload_n 2, 1) := by decide +kernel
theorem dX2_differentiate_8 : decode cX2_differentiate 8 = .ok (.invokevirtual 40, 3) := by decide +kernel
theorem dX2_differentiate_11 : decode cX2_differentiate 11 = .ok (.astore 4, 2) := by decide +kernel
theorem dX2_differentiate_13 : decode cX2_differentiate 13 = .ok (.aload_n 3, 1) := by decide +kernel
theorem dX2_differentiate_14 : decode cX2_differentiate 14 = .ok (.ifnull 8, 3) := by decide +kernel
theorem dX2_differentiate_17 : decode cX2_differentiate 17 = .ok (.aload 4, 2) := by decide +kernel
theorem dX2_differentiate_19 : decode cX2_differentiate 19 = .ok (.ifnonnull 7, 3) := by decide +kernel
theorem dX2_differentiate_22 : decode cX2_differentiate 22 = .ok (.ldc2_w 50, 3) := by decide +kernel
theorem dX2_differentiate_25 : decode cX2_differentiate 25 = .ok (.lreturn, 1) := by decide +kernel
theorem dX2_differentiate_26 : decode cX2_differentiate 26 = .ok (.aload_n 0, 1) := by decide +kernel
theorem dX2_differentiate_27 : decode cX2_differentiate 27 = .ok (.getfield 27, 3) := by decide +kernel
theorem dX2_differentiate_30 : decode cX2_differentiate 30 = .ok (.aload_n 3, 1) := by decide +kernel
theorem dX2_differentiate_31 : decode cX2_differentiate 31 = .ok (.invokevirtual 89, 3) := by decide +kernel
theorem dX2_differentiate_34 : decode cX2_differentiate 34 = .ok (.aload_n 0, 1) := by decide +kernel
theorem dX2_differentiate_35 : decode cX2_differentiate 35 = .ok (.aload 4, 2) := by decide +kernel
theorem dX2_differentiate_37 : decode cX2_differentiate 37 = .ok (.invokevirtual 81, 3) := by decide +kernel
theorem dX2_differentiate_40 : decode cX2_differentiate 40 = .ok (.lreturn, 1) := by decide +kernel
set_option maxRecDepth 20000 in
theorem ggX2_antidifferentiate_X2_find : GoodIn wsX2_antidifferentiate wsX2_find := goodIn_r _ [7, 8, 67, 68, 69, 70, 71, 72, 73] (by decide +kernel) (by decide +kernel)
set_option maxRecDepth 20000 in
theorem gX2_antidifferentiate_X2_find : GoodIn wsX2_antidifferentiate (wsV RX2 40 RX2 yX2_find wsX2_find) := goodIn_app (goodIn_of _ (by decide +kernel)) ggX2_antidifferentiate_X2_find
set_option maxRecDepth 20000 in
theorem ggX2_antidifferentiate_X1_becomeAntiderivative : GoodIn wsX2_antidifferentiate wsX1_becomeAntiderivative := goodIn_r _ [13, 14, 15, 16, 17, 18, 12, 19, 20, 21, 22, 23, 24, 25, 26, 27, 28, 29, 6, 30, 31, 32, 33, 34, 35, 36, 37, 38, 39, 40, 41, 42, 43, 74, 75] (by decide +kernel) (by decide +kernel)
set_option maxRecDepth 20000 in
theorem gX2_antidifferentiate_X1_becomeAntiderivative : GoodIn wsX2_antidifferentiate (wsV RX2 92 RX1 yX1_becomeAntiderivative wsX1_becomeAntiderivative) := goodIn_app (goodIn_of _ (by decide +kernel)) ggX2_antidifferentiate_X1_becomeAntiderivative
set_option maxRecDepth 20000 in
theorem ggX2_antidifferentiate_X2_keepMade : GoodIn wsX2_antidifferentiate wsX2_keepMade := goodIn_r _ [47, 2, 48, 49, 50, 12, 51, 14, 52, 20, 53, 54, 55, 56, 57, 58, 59, 60, 61, 62, 25, 26, 27, 28, 63, 64, 65, 66, 67, 68, 69, 70, 71, 72, 73, 74, 75] (by decide +kernel) (by decide +kernel)
set_option maxRecDepth 20000 in
theorem gX2_antidifferentiate_X2_keepMade : GoodIn wsX2_antidifferentiate (wsV RX2 81 RX2 yX2_keepMade wsX2_keepMade) := goodIn_app (goodIn_of _ (by decide +kernel)) ggX2_antidifferentiate_X2_keepMade
theorem dX2_antidifferentiate_0 : decode cX2_antidifferentiate 0 = .ok (.aload_n 0, 1) := by decide +kernel
theorem dX2_antidifferentiate_1 : decode cX2_antidifferentiate 1 = .ok (.iload_n 1, 1) := by decide +kernel
theorem dX2_antidifferentiate_2 : decode cX2_antidifferentiate 2 = .ok (.invokevirtual 40, 3) := by decide +kernel
theorem dX2_antidifferentiate_5 : decode cX2_antidifferentiate 5 = .ok (.astore_n 3, 1) := by decide +kernel
theorem dX2_antidifferentiate_6 : decode cX2_antidifferentiate 6 = .ok (.aload_n 0, 1) := by decide +kernel
theorem dX2_antidifferentiate_7 : decode cX2_antidifferentiate 7 = .ok (.iload_n 2, 1) := by decide +kernel
theorem dX2_antidifferentiate_8 : decode cX2_antidifferentiate 8 = .ok (.invokevirtual 40, 3) := by decide +kernel
theorem dX2_antidifferentiate_11 : decode cX2_antidifferentiate 11 = .ok (.astore 4, 2) := by decide +kernel
theorem dX2_antidifferentiate_13 : decode cX2_antidifferentiate 13 = .ok (.aload_n 3, 1) := by decide +kernel
theorem dX2_antidifferentiate_14 : decode cX2_antidifferentiate 14 = .ok (.ifnull 8, 3) := by decide +kernel
theorem dX2_antidifferentiate_17 : decode cX2_antidifferentiate 17 = .ok (.aload 4, 2) := by decide +kernel
theorem dX2_antidifferentiate_19 : decode cX2_antidifferentiate 19 = .ok (.ifnonnull 7, 3) := by decide +kernel
theorem dX2_antidifferentiate_22 : decode cX2_antidifferentiate 22 = .ok (.ldc2_w 50, 3) := by decide +kernel
theorem dX2_antidifferentiate_25 : decode cX2_antidifferentiate 25 = .ok (.lreturn, 1) := by decide +kernel
theorem dX2_antidifferentiate_26 : decode cX2_antidifferentiate 26 = .ok (.aload_n 0, 1) := by decide +kernel
theorem dX2_antidifferentiate_27 : decode cX2_antidifferentiate 27 = .ok (.getfield 27, 3) := by decide +kernel
theorem dX2_antidifferentiate_30 : decode cX2_antidifferentiate 30 = .ok (.aload_n 3, 1) := by decide +kernel
theorem dX2_antidifferentiate_31 : decode cX2_antidifferentiate 31 = .ok (.invokevirtual 92, 3) := by decide +kernel
theorem dX2_antidifferentiate_34 : decode cX2_antidifferentiate 34 = .ok (.aload_n 0, 1) := by decide +kernel
theorem dX2_antidifferentiate_35 : decode cX2_antidifferentiate 35 = .ok (.aload 4, 2) := by decide +kernel
theorem dX2_antidifferentiate_37 : decode cX2_antidifferentiate 37 = .ok (.invokevirtual 81, 3) := by decide +kernel
theorem dX2_antidifferentiate_40 : decode cX2_antidifferentiate 40 = .ok (.lreturn, 1) := by decide +kernel
set_option maxRecDepth 20000 in
theorem ggX2_compose_X2_find : GoodIn wsX2_compose wsX2_find := goodIn_r _ [6, 7, 89, 90, 91, 92, 93, 94, 95] (by decide +kernel) (by decide +kernel)
set_option maxRecDepth 20000 in
theorem gX2_compose_X2_find : GoodIn wsX2_compose (wsV RX2 40 RX2 yX2_find wsX2_find) := goodIn_app (goodIn_of _ (by decide +kernel)) ggX2_compose_X2_find
set_option maxRecDepth 20000 in
theorem ggX2_compose_X2_makeComposition : GoodIn wsX2_compose wsX2_makeComposition := goodIn_r _ [11, 12, 13, 14, 15, 16, 17, 18, 19, 20, 21, 22, 23, 24, 25, 26, 27, 28, 29, 30, 31, 32, 33, 34, 35, 36, 5, 37, 38, 39, 40, 41, 42, 43, 44, 45, 46, 47, 48, 49, 50, 51, 52, 53, 54, 55, 56, 57, 58, 59, 60, 61, 62, 63, 64, 65, 66, 67, 68, 69, 70, 71, 72, 73, 74, 75, 76, 77, 78, 79, 80, 81, 82, 83, 84, 89, 90, 91, 92, 93, 94, 95, 96, 97] (by decide +kernel) (by decide +kernel)
set_option maxRecDepth 20000 in
theorem gX2_compose_X2_makeComposition : GoodIn wsX2_compose (wsV RX2 95 RX2 yX2_makeComposition wsX2_makeComposition) := goodIn_app (goodIn_of _ (by decide +kernel)) ggX2_compose_X2_makeComposition
set_option maxRecDepth 20000 in
theorem ggX2_compose_X2_keepMade : GoodIn wsX2_compose wsX2_keepMade := goodIn_r _ [88, 14, 65, 66, 67, 18, 68, 21, 69, 20, 70, 71, 45, 72, 73, 74, 81, 82, 83, 84, 49, 31, 32, 33, 26, 27, 28, 29, 89, 90, 91, 92, 93, 94, 95, 96, 97] (by decide +kernel) (by decide +kernel)
set_option maxRecDepth 20000 in
theorem gX2_compose_X2_keepMade : GoodIn wsX2_compose (wsV RX2 81 RX2 yX2_keepMade wsX2_keepMade) := goodIn_app (goodIn_of _ (by decide +kernel)) ggX2_compose_X2_keepMade
theorem dX2_compose_0 : decode cX2_compose 0 = .ok (.aload_n 0, 1) := by decide +kernel
theorem dX2_compose_1 : decode cX2_compose 1 = .ok (.iload_n 1, 1) := by decide +kernel
theorem dX2_compose_2 : decode cX2_compose 2 = .ok (.invokevirtual 40, 3) := by decide +kernel
theorem dX2_compose_5 : decode cX2_compose 5 = .ok (.astore 4, 2) := by decide +kernel
theorem dX2_compose_7 : decode cX2_compose 7 = .ok (.aload_n 0, 1) := by decide +kernel
theorem dX2_compose_8 : decode cX2_compose 8 = .ok (.iload_n 2, 1) := by decide +kernel
theorem dX2_compose_9 : decode cX2_compose 9 = .ok (.invokevirtual 40, 3) := by decide +kernel
theorem dX2_compose_12 : decode cX2_compose 12 = .ok (.astore 5, 2) := by decide +kernel
theorem dX2_compose_14 : decode cX2_compose 14 = .ok (.aload_n 0, 1) := by decide +kernel
theorem dX2_compose_15 : decode cX2_compose 15 = .ok (.iload_n 3, 1) := by decide +kernel
theorem dX2_compose_16 : decode cX2_compose 16 = .ok (.invokevirtual 40, 3) := by decide +kernel
theorem dX2_compose_19 : decode cX2_compose 19 = .ok (.astore 6, 2) := by decide +kernel
theorem dX2_compose_21 : decode cX2_compose 21 = .ok (.aload 4, 2) := by decide +kernel
theorem dX2_compose_23 : decode cX2_compose 23 = .ok (.ifnull 13, 3) := by decide +kernel
theorem dX2_compose_26 : decode cX2_compose 26 = .ok (.aload 5, 2) := by decide +kernel
end
section
theorem dX2_compose_28 : decode cX2_compose 28 = .ok (.ifnull 8, 3) := by decide +kernel
theorem dX2_compose_31 : decode cX2_compose 31 = .ok (.aload 6, 2) := by decide +kernel
theorem dX2_compose_33 : decode cX2_compose 33 = .ok (.ifnonnull 7, 3) := by decide +kernel
theorem dX2_compose_36 : decode cX2_compose 36 = .ok (.ldc2_w 50, 3) := by decide +kernel
theorem dX2_compose_39 : decode cX2_compose 39 = .ok (.lreturn, 1) := by decide +kernel
theorem dX2_compose_40 : decode cX2_compose 40 = .ok (.aload_n 0, 1) := by decide +kernel
theorem dX2_compose_41 : decode cX2_compose 41 = .ok (.aload 4, 2) := by decide +kernel
theorem dX2_compose_43 : decode cX2_compose 43 = .ok (.aload 5, 2) := by decide +kernel
theorem dX2_compose_45 : decode cX2_compose 45 = .ok (.invokevirtual 95, 3) := by decide +kernel
theorem dX2_compose_48 : decode cX2_compose 48 = .ok (.lstore 7, 2) := by decide +kernel
theorem dX2_compose_50 : decode cX2_compose 50 = .ok (.lload 7, 2) := by decide +kernel
theorem dX2_compose_52 : decode cX2_compose 52 = .ok (.lconst 0, 1) := by decide +kernel
theorem dX2_compose_53 : decode cX2_compose 53 = .ok (.lcmp, 1) := by decide +kernel
theorem dX2_compose_54 : decode cX2_compose 54 = .ok (.ifCond .eq 8, 3) := by decide +kernel
theorem dX2_compose_57 : decode cX2_compose 57 = .ok (.lload 7, 2) := by decide +kernel
theorem dX2_compose_59 : decode cX2_compose 59 = .ok (.goto 9, 3) := by decide +kernel
theorem dX2_compose_62 : decode cX2_compose 62 = .ok (.aload_n 0, 1) := by decide +kernel
theorem dX2_compose_63 : decode cX2_compose 63 = .ok (.aload 6, 2) := by decide +kernel
theorem dX2_compose_65 : decode cX2_compose 65 = .ok (.invokevirtual 81, 3) := by decide +kernel
theorem dX2_compose_68 : decode cX2_compose 68 = .ok (.lreturn, 1) := by decide +kernel
set_option maxRecDepth 20000 in
theorem ggX2_divide_X2_find : GoodIn wsX2_divide wsX2_find := goodIn_r _ [9, 10, 77, 78, 79, 80, 81, 82, 83] (by decide +kernel) (by decide +kernel)
set_option maxRecDepth 20000 in
theorem gX2_divide_X2_find : GoodIn wsX2_divide (wsV RX2 40 RX2 yX2_find wsX2_find) := goodIn_app (goodIn_of _ (by decide +kernel)) ggX2_divide_X2_find
set_option maxRecDepth 20000 in
theorem ggX2_divide_X2_isOutside : GoodIn wsX2_divide wsX2_isOutside := goodIn_r _ [13] (by decide +kernel) (by decide +kernel)
set_option maxRecDepth 20000 in
theorem gX2_divide_X2_isOutside : GoodIn wsX2_divide (va_wsS RX2 44 yX2_isOutside wsX2_isOutside) := goodIn_app (goodIn_of _ (by decide +kernel)) ggX2_divide_X2_isOutside
set_option maxRecDepth 20000 in
theorem ggX2_divide_X1_valueAt : GoodIn wsX2_divide wsX1_valueAt := goodIn_r _ [18, 19, 20, 21, 22, 23, 24, 17, 25, 26, 27, 8, 28, 29, 30, 31, 32, 33, 84, 85] (by decide +kernel) (by decide +kernel)
set_option maxRecDepth 20000 in
theorem gX2_divide_X1_valueAt : GoodIn wsX2_divide (wsV RX2 73 RX1 yX1_valueAt wsX1_valueAt) := goodIn_app (goodIn_of _ (by decide +kernel)) ggX2_divide_X1_valueAt
set_option maxRecDepth 20000 in
theorem ggX2_divide_X1_becomeQuotient : GoodIn wsX2_divide wsX1_becomeQuotient := goodIn_r _ [37, 19, 20, 21, 38, 39, 40, 17, 41, 26, 42, 43, 44, 45, 22, 23, 24, 25, 27, 8, 28, 29, 30, 31, 32, 33, 46, 47, 48, 49, 50, 51, 52, 53, 84, 85] (by decide +kernel) (by decide +kernel)
set_option maxRecDepth 20000 in
theorem gX2_divide_X1_becomeQuotient : GoodIn wsX2_divide (wsV RX2 99 RX1 yX1_becomeQuotient wsX1_becomeQuotient) := goodIn_app (goodIn_of _ (by decide +kernel)) ggX2_divide_X1_becomeQuotient
set_option maxRecDepth 20000 in
theorem ggX2_divide_X2_keepMade : GoodIn wsX2_divide wsX2_keepMade := goodIn_r _ [57, 4, 58, 59, 60, 17, 61, 19, 62, 26, 63, 64, 65, 66, 67, 68, 69, 70, 71, 72, 22, 23, 24, 25, 73, 74, 75, 76, 77, 78, 79, 80, 81, 82, 83, 84, 85] (by decide +kernel) (by decide +kernel)
set_option maxRecDepth 20000 in
theorem gX2_divide_X2_keepMade : GoodIn wsX2_divide (wsV RX2 81 RX2 yX2_keepMade wsX2_keepMade) := goodIn_app (goodIn_of _ (by decide +kernel)) ggX2_divide_X2_keepMade
theorem dX2_divide_0 : decode cX2_divide 0 = .ok (.aload_n 0, 1) := by decide +kernel
theorem dX2_divide_1 : decode cX2_divide 1 = .ok (.iload_n 1, 1) := by decide +kernel
theorem dX2_divide_2 : decode cX2_divide 2 = .ok (.invokevirtual 40, 3) := by decide +kernel
theorem dX2_divide_5 : decode cX2_divide 5 = .ok (.astore 4, 2) := by decide +kernel
theorem dX2_divide_7 : decode cX2_divide 7 = .ok (.aload_n 0, 1) := by decide +kernel
theorem dX2_divide_8 : decode cX2_divide 8 = .ok (.iload_n 3, 1) := by decide +kernel
theorem dX2_divide_9 : decode cX2_divide 9 = .ok (.invokevirtual 40, 3) := by decide +kernel
theorem dX2_divide_12 : decode cX2_divide 12 = .ok (.astore 5, 2) := by decide +kernel
theorem dX2_divide_14 : decode cX2_divide 14 = .ok (.aload 4, 2) := by decide +kernel
theorem dX2_divide_16 : decode cX2_divide 16 = .ok (.ifnull 19, 3) := by decide +kernel
theorem dX2_divide_19 : decode cX2_divide 19 = .ok (.aload 5, 2) := by decide +kernel
theorem dX2_divide_21 : decode cX2_divide 21 = .ok (.ifnull 14, 3) := by decide +kernel
theorem dX2_divide_24 : decode cX2_divide 24 = .ok (.iload_n 2, 1) := by decide +kernel
theorem dX2_divide_25 : decode cX2_divide 25 = .ok (.ldc 71, 2) := by decide +kernel
theorem dX2_divide_27 : decode cX2_divide 27 = .ok (.ldc 72, 2) := by decide +kernel
theorem dX2_divide_29 : decode cX2_divide 29 = .ok (.invokestatic 44, 3) := by decide +kernel
theorem dX2_divide_32 : decode cX2_divide 32 = .ok (.ifCond .eq 7, 3) := by decide +kernel
theorem dX2_divide_35 : decode cX2_divide 35 = .ok (.ldc2_w 50, 3) := by decide +kernel
theorem dX2_divide_38 : decode cX2_divide 38 = .ok (.lreturn, 1) := by decide +kernel
theorem dX2_divide_39 : decode cX2_divide 39 = .ok (.aload 4, 2) := by decide +kernel
theorem dX2_divide_41 : decode cX2_divide 41 = .ok (.iload_n 2, 1) := by decide +kernel
theorem dX2_divide_42 : decode cX2_divide 42 = .ok (.i2l, 1) := by decide +kernel
theorem dX2_divide_43 : decode cX2_divide 43 = .ok (.invokevirtual 73, 3) := by decide +kernel
theorem dX2_divide_46 : decode cX2_divide 46 = .ok (.lstore 6, 2) := by decide +kernel
theorem dX2_divide_48 : decode cX2_divide 48 = .ok (.aload_n 0, 1) := by decide +kernel
theorem dX2_divide_49 : decode cX2_divide 49 = .ok (.getfield 27, 3) := by decide +kernel
theorem dX2_divide_52 : decode cX2_divide 52 = .ok (.aload 4, 2) := by decide +kernel
theorem dX2_divide_54 : decode cX2_divide 54 = .ok (.iload_n 2, 1) := by decide +kernel
theorem dX2_divide_55 : decode cX2_divide 55 = .ok (.i2l, 1) := by decide +kernel
theorem dX2_divide_56 : decode cX2_divide 56 = .ok (.invokevirtual 99, 3) := by decide +kernel
theorem dX2_divide_59 : decode cX2_divide 59 = .ok (.aload_n 0, 1) := by decide +kernel
theorem dX2_divide_60 : decode cX2_divide 60 = .ok (.aload 5, 2) := by decide +kernel
theorem dX2_divide_62 : decode cX2_divide 62 = .ok (.invokevirtual 81, 3) := by decide +kernel
theorem dX2_divide_65 : decode cX2_divide 65 = .ok (.lstore 8, 2) := by decide +kernel
theorem dX2_divide_67 : decode cX2_divide 67 = .ok (.lload 8, 2) := by decide +kernel
theorem dX2_divide_69 : decode cX2_divide 69 = .ok (.lconst 0, 1) := by decide +kernel
theorem dX2_divide_70 : decode cX2_divide 70 = .ok (.lcmp, 1) := by decide +kernel
theorem dX2_divide_71 : decode cX2_divide 71 = .ok (.ifCond .ge 8, 3) := by decide +kernel
theorem dX2_divide_74 : decode cX2_divide 74 = .ok (.lload 8, 2) := by decide +kernel
theorem dX2_divide_76 : decode cX2_divide 76 = .ok (.goto 5, 3) := by decide +kernel
theorem dX2_divide_79 : decode cX2_divide 79 = .ok (.lload 6, 2) := by decide +kernel
theorem dX2_divide_81 : decode cX2_divide 81 = .ok (.lreturn, 1) := by decide +kernel
set_option maxRecDepth 20000 in
theorem ggX2_cut_X2_find : GoodIn wsX2_cut wsX2_find := goodIn_r _ [7, 8, 42, 43, 44, 45, 46, 47, 48] (by decide +kernel) (by decide +kernel)
set_option maxRecDepth 20000 in
theorem gX2_cut_X2_find : GoodIn wsX2_cut (wsV RX2 40 RX2 yX2_find wsX2_find) := goodIn_app (goodIn_of _ (by decide +kernel)) ggX2_cut_X2_find
set_option maxRecDepth 20000 in
theorem ggX2_cut_X2_isOutside : GoodIn wsX2_cut wsX2_isOutside := goodIn_r _ [11] (by decide +kernel) (by decide +kernel)
set_option maxRecDepth 20000 in
theorem gX2_cut_X2_isOutside : GoodIn wsX2_cut (va_wsS RX2 44 yX2_isOutside wsX2_isOutside) := goodIn_app (goodIn_of _ (by decide +kernel)) ggX2_cut_X2_isOutside
set_option maxRecDepth 20000 in
theorem ggX2_cut_X1_top : GoodIn wsX2_cut wsX1_top := goodIn_r _ [16, 17, 49, 50] (by decide +kernel) (by decide +kernel)
set_option maxRecDepth 20000 in
theorem gX2_cut_X1_top : GoodIn wsX2_cut (wsV RX2 59 RX1 yX1_top wsX1_top) := goodIn_app (goodIn_of _ (by decide +kernel)) ggX2_cut_X1_top
set_option maxRecDepth 20000 in
theorem ggX2_cut_X1_topWithin : GoodIn wsX2_cut wsX1_topWithin := goodIn_r _ [21, 17, 22, 23, 24, 25, 26, 27, 28, 15, 29, 30, 49, 50] (by decide +kernel) (by decide +kernel)
set_option maxRecDepth 20000 in
theorem gX2_cut_X1_topWithin : GoodIn wsX2_cut (wsV RX2 104 RX1 yX1_topWithin wsX1_topWithin) := goodIn_app (goodIn_of _ (by decide +kernel)) ggX2_cut_X1_topWithin
set_option maxRecDepth 20000 in
theorem ggX2_cut_X1_dropAbove : GoodIn wsX2_cut wsX1_dropAbove := goodIn_r _ [34, 35, 36, 24, 37, 30, 38, 39, 40, 15, 41, 17, 49, 50] (by decide +kernel) (by decide +kernel)
set_option maxRecDepth 20000 in
theorem gX2_cut_X1_dropAbove : GoodIn wsX2_cut (wsV RX2 108 RX1 yX1_dropAbove wsX1_dropAbove) := goodIn_app (goodIn_of _ (by decide +kernel)) ggX2_cut_X1_dropAbove
theorem dX2_cut_0 : decode cX2_cut 0 = .ok (.aload_n 0, 1) := by decide +kernel
theorem dX2_cut_1 : decode cX2_cut 1 = .ok (.iload_n 1, 1) := by decide +kernel
theorem dX2_cut_2 : decode cX2_cut 2 = .ok (.invokevirtual 40, 3) := by decide +kernel
theorem dX2_cut_5 : decode cX2_cut 5 = .ok (.astore_n 3, 1) := by decide +kernel
theorem dX2_cut_6 : decode cX2_cut 6 = .ok (.aload_n 3, 1) := by decide +kernel
theorem dX2_cut_7 : decode cX2_cut 7 = .ok (.ifnull 13, 3) := by decide +kernel
theorem dX2_cut_10 : decode cX2_cut 10 = .ok (.iload_n 2, 1) := by decide +kernel
theorem dX2_cut_11 : decode cX2_cut 11 = .ok (.iconst 0, 1) := by decide +kernel
theorem dX2_cut_12 : decode cX2_cut 12 = .ok (.ldc 103, 2) := by decide +kernel
theorem dX2_cut_14 : decode cX2_cut 14 = .ok (.invokestatic 44, 3) := by decide +kernel
theorem dX2_cut_17 : decode cX2_cut 17 = .ok (.ifCond .eq 7, 3) := by decide +kernel
theorem dX2_cut_20 : decode cX2_cut 20 = .ok (.ldc2_w 50, 3) := by decide +kernel
theorem dX2_cut_23 : decode cX2_cut 23 = .ok (.lreturn, 1) := by decide +kernel
theorem dX2_cut_24 : decode cX2_cut 24 = .ok (.aload_n 3, 1) := by decide +kernel
theorem dX2_cut_25 : decode cX2_cut 25 = .ok (.invokevirtual 59, 3) := by decide +kernel
theorem dX2_cut_28 : decode cX2_cut 28 = .ok (.istore 4, 2) := by decide +kernel
theorem dX2_cut_30 : decode cX2_cut 30 = .ok (.aload_n 3, 1) := by decide +kernel
theorem dX2_cut_31 : decode cX2_cut 31 = .ok (.aload_n 3, 1) := by decide +kernel
theorem dX2_cut_32 : decode cX2_cut 32 = .ok (.iload_n 2, 1) := by decide +kernel
theorem dX2_cut_33 : decode cX2_cut 33 = .ok (.invokevirtual 104, 3) := by decide +kernel
theorem dX2_cut_36 : decode cX2_cut 36 = .ok (.invokevirtual 108, 3) := by decide +kernel
theorem dX2_cut_39 : decode cX2_cut 39 = .ok (.iload 4, 2) := by decide +kernel
theorem dX2_cut_41 : decode cX2_cut 41 = .ok (.aload_n 3, 1) := by decide +kernel
theorem dX2_cut_42 : decode cX2_cut 42 = .ok (.invokevirtual 59, 3) := by decide +kernel
theorem dX2_cut_45 : decode cX2_cut 45 = .ok (.isub, 1) := by decide +kernel
theorem dX2_cut_46 : decode cX2_cut 46 = .ok (.i2l, 1) := by decide +kernel
theorem dX2_cut_47 : decode cX2_cut 47 = .ok (.lreturn, 1) := by decide +kernel
set_option maxRecDepth 20000 in
theorem ggX2_basis_X2_find : GoodIn wsX2_basis wsX2_find := goodIn_r _ [7, 8, 31, 32, 33, 34, 35, 36, 37] (by decide +kernel) (by decide +kernel)
set_option maxRecDepth 20000 in
theorem gX2_basis_X2_find : GoodIn wsX2_basis (wsV RX2 40 RX2 yX2_find wsX2_find) := goodIn_app (goodIn_of _ (by decide +kernel)) ggX2_basis_X2_find
set_option maxRecDepth 20000 in
theorem ggX2_basis_X2_isOutside : GoodIn wsX2_basis wsX2_isOutside := goodIn_r _ [11] (by decide +kernel) (by decide +kernel)
set_option maxRecDepth 20000 in
theorem gX2_basis_X2_isOutside : GoodIn wsX2_basis (va_wsS RX2 44 yX2_isOutside wsX2_isOutside) := goodIn_app (goodIn_of _ (by decide +kernel)) ggX2_basis_X2_isOutside
set_option maxRecDepth 20000 in
theorem ggX2_basis_X1_clear : GoodIn wsX2_basis wsX1_clear := goodIn_r _ [16, 17, 18, 19, 20, 21, 22, 38, 39] (by decide +kernel) (by decide +kernel)
set_option maxRecDepth 20000 in
theorem gX2_basis_X1_clear : GoodIn wsX2_basis (wsV RX2 112 RX1 yX1_clear wsX1_clear) := goodIn_app (goodIn_of _ (by decide +kernel)) ggX2_basis_X1_clear
set_option maxRecDepth 20000 in
theorem ggX2_basis_X1_put : GoodIn wsX2_basis wsX1_put := goodIn_r _ [26, 17, 38, 39] (by decide +kernel) (by decide +kernel)
set_option maxRecDepth 20000 in
theorem gX2_basis_X1_put : GoodIn wsX2_basis (wsV RX2 52 RX1 yX1_put wsX1_put) := goodIn_app (goodIn_of _ (by decide +kernel)) ggX2_basis_X1_put
set_option maxRecDepth 20000 in
theorem ggX2_basis_X1_trim : GoodIn wsX2_basis wsX1_trim := goodIn_r _ [30, 18, 17, 38, 39] (by decide +kernel) (by decide +kernel)
set_option maxRecDepth 20000 in
theorem gX2_basis_X1_trim : GoodIn wsX2_basis (wsV RX2 56 RX1 yX1_trim wsX1_trim) := goodIn_app (goodIn_of _ (by decide +kernel)) ggX2_basis_X1_trim
theorem dX2_basis_0 : decode cX2_basis 0 = .ok (.aload_n 0, 1) := by decide +kernel
theorem dX2_basis_1 : decode cX2_basis 1 = .ok (.iload_n 2, 1) := by decide +kernel
theorem dX2_basis_2 : decode cX2_basis 2 = .ok (.invokevirtual 40, 3) := by decide +kernel
theorem dX2_basis_5 : decode cX2_basis 5 = .ok (.astore_n 3, 1) := by decide +kernel
theorem dX2_basis_6 : decode cX2_basis 6 = .ok (.aload_n 3, 1) := by decide +kernel
theorem dX2_basis_7 : decode cX2_basis 7 = .ok (.ifnull 13, 3) := by decide +kernel
theorem dX2_basis_10 : decode cX2_basis 10 = .ok (.iload_n 1, 1) := by decide +kernel
theorem dX2_basis_11 : decode cX2_basis 11 = .ok (.iconst 0, 1) := by decide +kernel
theorem dX2_basis_12 : decode cX2_basis 12 = .ok (.bipush 24, 2) := by decide +kernel
theorem dX2_basis_14 : decode cX2_basis 14 = .ok (.invokestatic 44, 3) := by decide +kernel
theorem dX2_basis_17 : decode cX2_basis 17 = .ok (.ifCond .eq 7, 3) := by decide +kernel
theorem dX2_basis_20 : decode cX2_basis 20 = .ok (.ldc2_w 50, 3) := by decide +kernel
theorem dX2_basis_23 : decode cX2_basis 23 = .ok (.lreturn, 1) := by decide +kernel
theorem dX2_basis_24 : decode cX2_basis 24 = .ok (.aload_n 3, 1) := by decide +kernel
theorem dX2_basis_25 : decode cX2_basis 25 = .ok (.invokevirtual 112, 3) := by decide +kernel
theorem dX2_basis_28 : decode cX2_basis 28 = .ok (.aload_n 3, 1) := by decide +kernel
theorem dX2_basis_29 : decode cX2_basis 29 = .ok (.iload_n 1, 1) := by decide +kernel
theorem dX2_basis_30 : decode cX2_basis 30 = .ok (.ldc2_w 115, 3) := by decide +kernel
theorem dX2_basis_33 : decode cX2_basis 33 = .ok (.invokevirtual 52, 3) := by decide +kernel
theorem dX2_basis_36 : decode cX2_basis 36 = .ok (.aload_n 3, 1) := by decide +kernel
theorem dX2_basis_37 : decode cX2_basis 37 = .ok (.invokevirtual 56, 3) := by decide +kernel
theorem dX2_basis_40 : decode cX2_basis 40 = .ok (.iload_n 1, 1) := by decide +kernel
theorem dX2_basis_41 : decode cX2_basis 41 = .ok (.i2l, 1) := by decide +kernel
theorem dX2_basis_42 : decode cX2_basis 42 = .ok (.lreturn, 1) := by decide +kernel
set_option maxRecDepth 20000 in
theorem ggX2_integral_X2_find : GoodIn wsX2_integral wsX2_find := goodIn_r _ [8, 9, 28, 29, 30, 31, 32, 33, 34] (by decide +kernel) (by decide +kernel)
set_option maxRecDepth 20000 in
theorem gX2_integral_X2_find : GoodIn wsX2_integral (wsV RX2 40 RX2 yX2_find wsX2_find) := goodIn_app (goodIn_of _ (by decide +kernel)) ggX2_integral_X2_find
set_option maxRecDepth 20000 in
theorem ggX2_integral_X1_at : GoodIn wsX2_integral wsX1_at := goodIn_r _ [14, 15, 35, 36] (by decide +kernel) (by decide +kernel)
set_option maxRecDepth 20000 in
theorem gX2_integral_X1_at : GoodIn wsX2_integral (wsV RX2 63 RX1 yX1_at wsX1_at) := goodIn_app (goodIn_of _ (by decide +kernel)) ggX2_integral_X1_at
set_option maxRecDepth 20000 in
theorem ggX2_integral_X1_top : GoodIn wsX2_integral wsX1_top := goodIn_r _ [19, 20, 35, 36] (by decide +kernel) (by decide +kernel)
set_option maxRecDepth 20000 in
theorem gX2_integral_X1_top : GoodIn wsX2_integral (wsV RX2 59 RX1 yX1_top wsX1_top) := goodIn_app (goodIn_of _ (by decide +kernel)) ggX2_integral_X1_top
set_option maxRecDepth 20000 in
theorem ggX2_integral_X2_rounded : GoodIn wsX2_integral wsX2_rounded := goodIn_r _ [23, 2, 24, 25, 26, 27] (by decide +kernel) (by decide +kernel)
set_option maxRecDepth 20000 in
theorem gX2_integral_X2_rounded : GoodIn wsX2_integral (va_wsS RX2 121 yX2_rounded wsX2_rounded) := goodIn_app (goodIn_of _ (by decide +kernel)) ggX2_integral_X2_rounded
theorem dX2_integral_0 : decode cX2_integral 0 = .ok (.aload_n 0, 1) := by decide +kernel
theorem dX2_integral_1 : decode cX2_integral 1 = .ok (.iload_n 1, 1) := by decide +kernel
theorem dX2_integral_2 : decode cX2_integral 2 = .ok (.invokevirtual 40, 3) := by decide +kernel
theorem dX2_integral_5 : decode cX2_integral 5 = .ok (.astore_n 2, 1) := by decide +kernel
theorem dX2_integral_6 : decode cX2_integral 6 = .ok (.aload_n 2, 1) := by decide +kernel
theorem dX2_integral_7 : decode cX2_integral 7 = .ok (.ifnonnull 7, 3) := by decide +kernel
theorem dX2_integral_10 : decode cX2_integral 10 = .ok (.ldc2_w 50, 3) := by decide +kernel
theorem dX2_integral_13 : decode cX2_integral 13 = .ok (.lreturn, 1) := by decide +kernel
theorem dX2_integral_14 : decode cX2_integral 14 = .ok (.ldc2_w 117, 3) := by decide +kernel
theorem dX2_integral_17 : decode cX2_integral 17 = .ok (.aload_n 2, 1) := by decide +kernel
theorem dX2_integral_18 : decode cX2_integral 18 = .ok (.iconst 0, 1) := by decide +kernel
theorem dX2_integral_19 : decode cX2_integral 19 = .ok (.invokevirtual 63, 3) := by decide +kernel
theorem dX2_integral_22 : decode cX2_integral 22 = .ok (.lmul, 1) := by decide +kernel
theorem dX2_integral_23 : decode cX2_integral 23 = .ok (.lstore_n 3, 1) := by decide +kernel
theorem dX2_integral_24 : decode cX2_integral 24 = .ok (.iconst 2, 1) := by decide +kernel
theorem dX2_integral_25 : decode cX2_integral 25 = .ok (.istore 5, 2) := by decide +kernel
theorem dX2_integral_27 : decode cX2_integral 27 = .ok (.iload 5, 2) := by decide +kernel
theorem dX2_integral_29 : decode cX2_integral 29 = .ok (.aload_n 2, 1) := by decide +kernel
theorem dX2_integral_30 : decode cX2_integral 30 = .ok (.invokevirtual 59, 3) := by decide +kernel
theorem dX2_integral_33 : decode cX2_integral 33 = .ok (.if_icmp .gt 34, 3) := by decide +kernel
theorem dX2_integral_36 : decode cX2_integral 36 = .ok (.lload_n 3, 1) := by decide +kernel
theorem dX2_integral_37 : decode cX2_integral 37 = .ok (.ldc2_w 119, 3) := by decide +kernel
theorem dX2_integral_40 : decode cX2_integral 40 = .ok (.aload_n 2, 1) := by decide +kernel
theorem dX2_integral_41 : decode cX2_integral 41 = .ok (.iload 5, 2) := by decide +kernel
theorem dX2_integral_43 : decode cX2_integral 43 = .ok (.invokevirtual 63, 3) := by decide +kernel
theorem dX2_integral_46 : decode cX2_integral 46 = .ok (.lmul, 1) := by decide +kernel
theorem dX2_integral_47 : decode cX2_integral 47 = .ok (.iload 5, 2) := by decide +kernel
theorem dX2_integral_49 : decode cX2_integral 49 = .ok (.i2l, 1) := by decide +kernel
theorem dX2_integral_50 : decode cX2_integral 50 = .ok (.iload 5, 2) := by decide +kernel
theorem dX2_integral_52 : decode cX2_integral 52 = .ok (.i2l, 1) := by decide +kernel
theorem dX2_integral_53 : decode cX2_integral 53 = .ok (.lmul, 1) := by decide +kernel
theorem dX2_integral_54 : decode cX2_integral 54 = .ok (.lconst 1, 1) := by decide +kernel
theorem dX2_integral_55 : decode cX2_integral 55 = .ok (.lsub, 1) := by decide +kernel
theorem dX2_integral_56 : decode cX2_integral 56 = .ok (.invokestatic 121, 3) := by decide +kernel
theorem dX2_integral_59 : decode cX2_integral 59 = .ok (.ladd, 1) := by decide +kernel
theorem dX2_integral_60 : decode cX2_integral 60 = .ok (.lstore_n 3, 1) := by decide +kernel
theorem dX2_integral_61 : decode cX2_integral 61 = .ok (.iinc 5 2, 3) := by decide +kernel
theorem dX2_integral_64 : decode cX2_integral 64 = .ok (.goto (-37), 3) := by decide +kernel
theorem dX2_integral_67 : decode cX2_integral 67 = .ok (.lload_n 3, 1) := by decide +kernel
theorem dX2_integral_68 : decode cX2_integral 68 = .ok (.lreturn, 1) := by decide +kernel
set_option maxRecDepth 20000 in
theorem ggX2_inner_X2_find : GoodIn wsX2_inner wsX2_find := goodIn_r _ [8, 9, 23, 24, 25, 26, 27, 28, 29] (by decide +kernel) (by decide +kernel)
set_option maxRecDepth 20000 in
theorem gX2_inner_X2_find : GoodIn wsX2_inner (wsV RX2 40 RX2 yX2_find wsX2_find) := goodIn_app (goodIn_of _ (by decide +kernel)) ggX2_inner_X2_find
set_option maxRecDepth 20000 in
theorem ggX2_inner_X1_at : GoodIn wsX2_inner wsX1_at := goodIn_r _ [14, 15, 30, 31] (by decide +kernel) (by decide +kernel)
set_option maxRecDepth 20000 in
theorem gX2_inner_X1_at : GoodIn wsX2_inner (wsV RX2 63 RX1 yX1_at wsX1_at) := goodIn_app (goodIn_of _ (by decide +kernel)) ggX2_inner_X1_at
set_option maxRecDepth 20000 in
theorem ggX2_inner_X2_rounded : GoodIn wsX2_inner wsX2_rounded := goodIn_r _ [18, 2, 19, 20, 21, 22] (by decide +kernel) (by decide +kernel)
set_option maxRecDepth 20000 in
theorem gX2_inner_X2_rounded : GoodIn wsX2_inner (va_wsS RX2 121 yX2_rounded wsX2_rounded) := goodIn_app (goodIn_of _ (by decide +kernel)) ggX2_inner_X2_rounded
theorem dX2_inner_0 : decode cX2_inner 0 = .ok (.aload_n 0, 1) := by decide +kernel
theorem dX2_inner_1 : decode cX2_inner 1 = .ok (.iload_n 1, 1) := by decide +kernel
theorem dX2_inner_2 : decode cX2_inner 2 = .ok (.invokevirtual 40, 3) := by decide +kernel
theorem dX2_inner_5 : decode cX2_inner 5 = .ok (.astore_n 3, 1) := by decide +kernel
theorem dX2_inner_6 : decode cX2_inner 6 = .ok (.aload_n 0, 1) := by decide +kernel
theorem dX2_inner_7 : decode cX2_inner 7 = .ok (.iload_n 2, 1) := by decide +kernel
theorem dX2_inner_8 : decode cX2_inner 8 = .ok (.invokevirtual 40, 3) := by decide +kernel
theorem dX2_inner_11 : decode cX2_inner 11 = .ok (.astore 4, 2) := by decide +kernel
theorem dX2_inner_13 : decode cX2_inner 13 = .ok (.aload_n 3, 1) := by decide +kernel
theorem dX2_inner_14 : decode cX2_inner 14 = .ok (.ifnull 8, 3) := by decide +kernel
theorem dX2_inner_17 : decode cX2_inner 17 = .ok (.aload 4, 2) := by decide +kernel
theorem dX2_inner_19 : decode cX2_inner 19 = .ok (.ifnonnull 7, 3) := by decide +kernel
theorem dX2_inner_22 : decode cX2_inner 22 = .ok (.ldc2_w 50, 3) := by decide +kernel
theorem dX2_inner_25 : decode cX2_inner 25 = .ok (.lreturn, 1) := by decide +kernel
theorem dX2_inner_26 : decode cX2_inner 26 = .ok (.ldc2_w 117, 3) := by decide +kernel
theorem dX2_inner_29 : decode cX2_inner 29 = .ok (.aload_n 3, 1) := by decide +kernel
theorem dX2_inner_30 : decode cX2_inner 30 = .ok (.iconst 0, 1) := by decide +kernel
theorem dX2_inner_31 : decode cX2_inner 31 = .ok (.invokevirtual 63, 3) := by decide +kernel
theorem dX2_inner_34 : decode cX2_inner 34 = .ok (.lmul, 1) := by decide +kernel
theorem dX2_inner_35 : decode cX2_inner 35 = .ok (.aload 4, 2) := by decide +kernel
theorem dX2_inner_37 : decode cX2_inner 37 = .ok (.iconst 0, 1) := by decide +kernel
theorem dX2_inner_38 : decode cX2_inner 38 = .ok (.invokevirtual 63, 3) := by decide +kernel
theorem dX2_inner_41 : decode cX2_inner 41 = .ok (.lmul, 1) := by decide +kernel
theorem dX2_inner_42 : decode cX2_inner 42 = .ok (.lstore 5, 2) := by decide +kernel
theorem dX2_inner_44 : decode cX2_inner 44 = .ok (.iconst 1, 1) := by decide +kernel
theorem dX2_inner_45 : decode cX2_inner 45 = .ok (.istore 7, 2) := by decide +kernel
theorem dX2_inner_47 : decode cX2_inner 47 = .ok (.iload 7, 2) := by decide +kernel
theorem dX2_inner_49 : decode cX2_inner 49 = .ok (.bipush 24, 2) := by decide +kernel
theorem dX2_inner_51 : decode cX2_inner 51 = .ok (.if_icmp .gt 28, 3) := by decide +kernel
theorem dX2_inner_54 : decode cX2_inner 54 = .ok (.lload 5, 2) := by decide +kernel
theorem dX2_inner_56 : decode cX2_inner 56 = .ok (.aload_n 3, 1) := by decide +kernel
theorem dX2_inner_57 : decode cX2_inner 57 = .ok (.iload 7, 2) := by decide +kernel
theorem dX2_inner_59 : decode cX2_inner 59 = .ok (.invokevirtual 63, 3) := by decide +kernel
theorem dX2_inner_62 : decode cX2_inner 62 = .ok (.aload 4, 2) := by decide +kernel
theorem dX2_inner_64 : decode cX2_inner 64 = .ok (.iload 7, 2) := by decide +kernel
theorem dX2_inner_66 : decode cX2_inner 66 = .ok (.invokevirtual 63, 3) := by decide +kernel
theorem dX2_inner_69 : decode cX2_inner 69 = .ok (.lmul, 1) := by decide +kernel
theorem dX2_inner_70 : decode cX2_inner 70 = .ok (.ladd, 1) := by decide +kernel
theorem dX2_inner_71 : decode cX2_inner 71 = .ok (.lstore 5, 2) := by decide +kernel
theorem dX2_inner_73 : decode cX2_inner 73 = .ok (.iinc 7 1, 3) := by decide +kernel
theorem dX2_inner_76 : decode cX2_inner 76 = .ok (.goto (-29), 3) := by decide +kernel
theorem dX2_inner_79 : decode cX2_inner 79 = .ok (.lload 5, 2) := by decide +kernel
theorem dX2_inner_81 : decode cX2_inner 81 = .ok (.ldc2_w 115, 3) := by decide +kernel
theorem dX2_inner_84 : decode cX2_inner 84 = .ok (.invokestatic 121, 3) := by decide +kernel
theorem dX2_inner_87 : decode cX2_inner 87 = .ok (.lreturn, 1) := by decide +kernel
set_option maxRecDepth 20000 in
theorem ggX2_bound_X2_find : GoodIn wsX2_bound wsX2_find := goodIn_r _ [10, 11, 18, 19, 20, 21, 22, 23, 24] (by decide +kernel) (by decide +kernel)
set_option maxRecDepth 20000 in
theorem gX2_bound_X2_find : GoodIn wsX2_bound (wsV RX2 40 RX2 yX2_find wsX2_find) := goodIn_app (goodIn_of _ (by decide +kernel)) ggX2_bound_X2_find
set_option maxRecDepth 20000 in
theorem ggX2_bound_X1_at : GoodIn wsX2_bound wsX1_at := goodIn_r _ [16, 17, 25, 26] (by decide +kernel) (by decide +kernel)
set_option maxRecDepth 20000 in
theorem gX2_bound_X1_at : GoodIn wsX2_bound (wsV RX2 63 RX1 yX1_at wsX1_at) := goodIn_app (goodIn_of _ (by decide +kernel)) ggX2_bound_X1_at
theorem dX2_bound_0 : decode cX2_bound 0 = .ok (.aload_n 0, 1) := by decide +kernel
theorem dX2_bound_1 : decode cX2_bound 1 = .ok (.iload_n 1, 1) := by decide +kernel
theorem dX2_bound_2 : decode cX2_bound 2 = .ok (.invokevirtual 40, 3) := by decide +kernel
theorem dX2_bound_5 : decode cX2_bound 5 = .ok (.astore_n 2, 1) := by decide +kernel
theorem dX2_bound_6 : decode cX2_bound 6 = .ok (.aload_n 2, 1) := by decide +kernel
theorem dX2_bound_7 : decode cX2_bound 7 = .ok (.ifnonnull 7, 3) := by decide +kernel
theorem dX2_bound_10 : decode cX2_bound 10 = .ok (.ldc2_w 50, 3) := by decide +kernel
theorem dX2_bound_13 : decode cX2_bound 13 = .ok (.lreturn, 1) := by decide +kernel
theorem dX2_bound_14 : decode cX2_bound 14 = .ok (.lconst 0, 1) := by decide +kernel
theorem dX2_bound_15 : decode cX2_bound 15 = .ok (.lstore_n 3, 1) := by decide +kernel
theorem dX2_bound_16 : decode cX2_bound 16 = .ok (.iconst 0, 1) := by decide +kernel
theorem dX2_bound_17 : decode cX2_bound 17 = .ok (.istore 5, 2) := by decide +kernel
theorem dX2_bound_19 : decode cX2_bound 19 = .ok (.iload 5, 2) := by decide +kernel
theorem dX2_bound_21 : decode cX2_bound 21 = .ok (.bipush 24, 2) := by decide +kernel
theorem dX2_bound_23 : decode cX2_bound 23 = .ok (.if_icmp .gt 21, 3) := by decide +kernel
theorem dX2_bound_26 : decode cX2_bound 26 = .ok (.lload_n 3, 1) := by decide +kernel
theorem dX2_bound_27 : decode cX2_bound 27 = .ok (.aload_n 2, 1) := by decide +kernel
theorem dX2_bound_28 : decode cX2_bound 28 = .ok (.iload 5, 2) := by decide +kernel
theorem dX2_bound_30 : decode cX2_bound 30 = .ok (.invokevirtual 63, 3) := by decide +kernel
theorem dX2_bound_33 : decode cX2_bound 33 = .ok (.invokestatic 125, 3) := by decide +kernel
theorem dX2_bound_36 : decode cX2_bound 36 = .ok (.ladd, 1) := by decide +kernel
theorem dX2_bound_37 : decode cX2_bound 37 = .ok (.lstore_n 3, 1) := by decide +kernel
theorem dX2_bound_38 : decode cX2_bound 38 = .ok (.iinc 5 1, 3) := by decide +kernel
theorem dX2_bound_41 : decode cX2_bound 41 = .ok (.goto (-22), 3) := by decide +kernel
theorem dX2_bound_44 : decode cX2_bound 44 = .ok (.lload_n 3, 1) := by decide +kernel
theorem dX2_bound_45 : decode cX2_bound 45 = .ok (.lreturn, 1) := by decide +kernel
set_option maxRecDepth 20000 in
theorem ggX2_degreeWith_X2_find : GoodIn wsX2_degreeWith wsX2_find := goodIn_r _ [7, 8, 27, 28, 29, 30, 31, 32, 33] (by decide +kernel) (by decide +kernel)
set_option maxRecDepth 20000 in
theorem gX2_degreeWith_X2_find : GoodIn wsX2_degreeWith (wsV RX2 40 RX2 yX2_find wsX2_find) := goodIn_app (goodIn_of _ (by decide +kernel)) ggX2_degreeWith_X2_find
set_option maxRecDepth 20000 in
theorem ggX2_degreeWith_X2_isOutside : GoodIn wsX2_degreeWith wsX2_isOutside := goodIn_r _ [11] (by decide +kernel) (by decide +kernel)
set_option maxRecDepth 20000 in
theorem gX2_degreeWith_X2_isOutside : GoodIn wsX2_degreeWith (va_wsS RX2 44 yX2_isOutside wsX2_isOutside) := goodIn_app (goodIn_of _ (by decide +kernel)) ggX2_degreeWith_X2_isOutside
set_option maxRecDepth 20000 in
theorem ggX2_degreeWith_X1_topWithin : GoodIn wsX2_degreeWith wsX1_topWithin := goodIn_r _ [16, 17, 18, 19, 20, 21, 22, 23, 24, 15, 25, 26, 34, 35] (by decide +kernel) (by decide +kernel)
set_option maxRecDepth 20000 in
theorem gX2_degreeWith_X1_topWithin : GoodIn wsX2_degreeWith (wsV RX2 104 RX1 yX1_topWithin wsX1_topWithin) := goodIn_app (goodIn_of _ (by decide +kernel)) ggX2_degreeWith_X1_topWithin
theorem dX2_degreeWith_0 : decode cX2_degreeWith 0 = .ok (.aload_n 0, 1) := by decide +kernel
theorem dX2_degreeWith_1 : decode cX2_degreeWith 1 = .ok (.iload_n 1, 1) := by decide +kernel
theorem dX2_degreeWith_2 : decode cX2_degreeWith 2 = .ok (.invokevirtual 40, 3) := by decide +kernel
theorem dX2_degreeWith_5 : decode cX2_degreeWith 5 = .ok (.astore_n 3, 1) := by decide +kernel
theorem dX2_degreeWith_6 : decode cX2_degreeWith 6 = .ok (.aload_n 3, 1) := by decide +kernel
theorem dX2_degreeWith_7 : decode cX2_degreeWith 7 = .ok (.ifnull 13, 3) := by decide +kernel
theorem dX2_degreeWith_10 : decode cX2_degreeWith 10 = .ok (.iload_n 2, 1) := by decide +kernel
theorem dX2_degreeWith_11 : decode cX2_degreeWith 11 = .ok (.iconst 0, 1) := by decide +kernel
theorem dX2_degreeWith_12 : decode cX2_degreeWith 12 = .ok (.ldc 103, 2) := by decide +kernel
theorem dX2_degreeWith_14 : decode cX2_degreeWith 14 = .ok (.invokestatic 44, 3) := by decide +kernel
theorem dX2_degreeWith_17 : decode cX2_degreeWith 17 = .ok (.ifCond .eq 7, 3) := by decide +kernel
theorem dX2_degreeWith_20 : decode cX2_degreeWith 20 = .ok (.ldc2_w 50, 3) := by decide +kernel
theorem dX2_degreeWith_23 : decode cX2_degreeWith 23 = .ok (.lreturn, 1) := by decide +kernel
theorem dX2_degreeWith_24 : decode cX2_degreeWith 24 = .ok (.aload_n 3, 1) := by decide +kernel
theorem dX2_degreeWith_25 : decode cX2_degreeWith 25 = .ok (.iload_n 2, 1) := by decide +kernel
theorem dX2_degreeWith_26 : decode cX2_degreeWith 26 = .ok (.invokevirtual 104, 3) := by decide +kernel
theorem dX2_degreeWith_29 : decode cX2_degreeWith 29 = .ok (.i2l, 1) := by decide +kernel
theorem dX2_degreeWith_30 : decode cX2_degreeWith 30 = .ok (.lreturn, 1) := by decide +kernel
set_option maxRecDepth 20000 in
theorem ggX2_byValue_X2_find : GoodIn wsX2_byValue wsX2_find := goodIn_r _ [7, 8, 31, 32, 33, 34, 35, 36, 37] (by decide +kernel) (by decide +kernel)
set_option maxRecDepth 20000 in
theorem gX2_byValue_X2_find : GoodIn wsX2_byValue (wsV RX2 40 RX2 yX2_find wsX2_find) := goodIn_app (goodIn_of _ (by decide +kernel)) ggX2_byValue_X2_find
set_option maxRecDepth 20000 in
theorem ggX2_byValue_X2_isOutside : GoodIn wsX2_byValue wsX2_isOutside := goodIn_r _ [11] (by decide +kernel) (by decide +kernel)
set_option maxRecDepth 20000 in
theorem gX2_byValue_X2_isOutside : GoodIn wsX2_byValue (va_wsS RX2 44 yX2_isOutside wsX2_isOutside) := goodIn_app (goodIn_of _ (by decide +kernel)) ggX2_byValue_X2_isOutside
set_option maxRecDepth 20000 in
theorem ggX2_byValue_X1_top : GoodIn wsX2_byValue wsX1_top := goodIn_r _ [16, 17, 38, 39] (by decide +kernel) (by decide +kernel)
set_option maxRecDepth 20000 in
theorem gX2_byValue_X1_top : GoodIn wsX2_byValue (wsV RX2 59 RX1 yX1_top wsX1_top) := goodIn_app (goodIn_of _ (by decide +kernel)) ggX2_byValue_X1_top
set_option maxRecDepth 20000 in
theorem ggX2_byValue_X1_placeOf : GoodIn wsX2_byValue wsX1_placeOf := goodIn_r _ [21, 22, 23, 24, 25, 17, 26, 27, 28, 15, 29, 30, 38, 39] (by decide +kernel) (by decide +kernel)
set_option maxRecDepth 20000 in
theorem gX2_byValue_X1_placeOf : GoodIn wsX2_byValue (wsV RX2 130 RX1 yX1_placeOf wsX1_placeOf) := goodIn_app (goodIn_of _ (by decide +kernel)) ggX2_byValue_X1_placeOf
theorem dX2_byValue_0 : decode cX2_byValue 0 = .ok (.aload_n 0, 1) := by decide +kernel
theorem dX2_byValue_1 : decode cX2_byValue 1 = .ok (.iload_n 1, 1) := by decide +kernel
theorem dX2_byValue_2 : decode cX2_byValue 2 = .ok (.invokevirtual 40, 3) := by decide +kernel
theorem dX2_byValue_5 : decode cX2_byValue 5 = .ok (.astore_n 3, 1) := by decide +kernel
theorem dX2_byValue_6 : decode cX2_byValue 6 = .ok (.aload_n 3, 1) := by decide +kernel
theorem dX2_byValue_7 : decode cX2_byValue 7 = .ok (.ifnull 13, 3) := by decide +kernel
theorem dX2_byValue_10 : decode cX2_byValue 10 = .ok (.iload_n 2, 1) := by decide +kernel
theorem dX2_byValue_11 : decode cX2_byValue 11 = .ok (.iconst 0, 1) := by decide +kernel
theorem dX2_byValue_12 : decode cX2_byValue 12 = .ok (.bipush 24, 2) := by decide +kernel
theorem dX2_byValue_14 : decode cX2_byValue 14 = .ok (.invokestatic 44, 3) := by decide +kernel
theorem dX2_byValue_17 : decode cX2_byValue 17 = .ok (.ifCond .eq 7, 3) := by decide +kernel
theorem dX2_byValue_20 : decode cX2_byValue 20 = .ok (.ldc2_w 50, 3) := by decide +kernel
theorem dX2_byValue_23 : decode cX2_byValue 23 = .ok (.lreturn, 1) := by decide +kernel
theorem dX2_byValue_24 : decode cX2_byValue 24 = .ok (.iconst 0, 1) := by decide +kernel
theorem dX2_byValue_25 : decode cX2_byValue 25 = .ok (.istore 4, 2) := by decide +kernel
theorem dX2_byValue_27 : decode cX2_byValue 27 = .ok (.iload 4, 2) := by decide +kernel
theorem dX2_byValue_29 : decode cX2_byValue 29 = .ok (.aload_n 3, 1) := by decide +kernel
theorem dX2_byValue_30 : decode cX2_byValue 30 = .ok (.invokevirtual 59, 3) := by decide +kernel
theorem dX2_byValue_33 : decode cX2_byValue 33 = .ok (.if_icmp .gt 23, 3) := by decide +kernel
theorem dX2_byValue_36 : decode cX2_byValue 36 = .ok (.aload_n 3, 1) := by decide +kernel
theorem dX2_byValue_37 : decode cX2_byValue 37 = .ok (.iload 4, 2) := by decide +kernel
theorem dX2_byValue_39 : decode cX2_byValue 39 = .ok (.invokevirtual 130, 3) := by decide +kernel
theorem dX2_byValue_42 : decode cX2_byValue 42 = .ok (.iload_n 2, 1) := by decide +kernel
theorem dX2_byValue_43 : decode cX2_byValue 43 = .ok (.if_icmp .ne 7, 3) := by decide +kernel
theorem dX2_byValue_46 : decode cX2_byValue 46 = .ok (.iload 4, 2) := by decide +kernel
theorem dX2_byValue_48 : decode cX2_byValue 48 = .ok (.i2l, 1) := by decide +kernel
theorem dX2_byValue_49 : decode cX2_byValue 49 = .ok (.lreturn, 1) := by decide +kernel
theorem dX2_byValue_50 : decode cX2_byValue 50 = .ok (.iinc 4 1, 3) := by decide +kernel
theorem dX2_byValue_53 : decode cX2_byValue 53 = .ok (.goto (-26), 3) := by decide +kernel
theorem dX2_byValue_56 : decode cX2_byValue 56 = .ok (.ldc2_w 133, 3) := by decide +kernel
theorem dX2_byValue_59 : decode cX2_byValue 59 = .ok (.lreturn, 1) := by decide +kernel
set_option maxRecDepth 20000 in
theorem ggX2_setValue_X2_isOutside : GoodIn wsX2_setValue wsX2_isOutside := goodIn_r _ [8] (by decide +kernel) (by decide +kernel)
set_option maxRecDepth 20000 in
theorem gX2_setValue_X2_isOutside : GoodIn wsX2_setValue (va_wsS RX2 44 yX2_isOutside wsX2_isOutside) := goodIn_app (goodIn_of _ (by decide +kernel)) ggX2_setValue_X2_isOutside
theorem dX2_setValue_0 : decode cX2_setValue 0 = .ok (.iload_n 1, 1) := by decide +kernel
theorem dX2_setValue_1 : decode cX2_setValue 1 = .ok (.iconst 0, 1) := by decide +kernel
theorem dX2_setValue_2 : decode cX2_setValue 2 = .ok (.bipush 16, 2) := by decide +kernel
theorem dX2_setValue_4 : decode cX2_setValue 4 = .ok (.invokestatic 44, 3) := by decide +kernel
theorem dX2_setValue_7 : decode cX2_setValue 7 = .ok (.ifCond .ne 14, 3) := by decide +kernel
theorem dX2_setValue_10 : decode cX2_setValue 10 = .ok (.iload_n 2, 1) := by decide +kernel
theorem dX2_setValue_11 : decode cX2_setValue 11 = .ok (.ldc 135, 2) := by decide +kernel
theorem dX2_setValue_13 : decode cX2_setValue 13 = .ok (.ldc 136, 2) := by decide +kernel
theorem dX2_setValue_15 : decode cX2_setValue 15 = .ok (.invokestatic 44, 3) := by decide +kernel
theorem dX2_setValue_18 : decode cX2_setValue 18 = .ok (.ifCond .eq 7, 3) := by decide +kernel
theorem dX2_setValue_21 : decode cX2_setValue 21 = .ok (.ldc2_w 50, 3) := by decide +kernel
theorem dX2_setValue_24 : decode cX2_setValue 24 = .ok (.lreturn, 1) := by decide +kernel
theorem dX2_setValue_25 : decode cX2_setValue 25 = .ok (.aload_n 0, 1) := by decide +kernel
theorem dX2_setValue_26 : decode cX2_setValue 26 = .ok (.getfield 15, 3) := by decide +kernel
theorem dX2_setValue_29 : decode cX2_setValue 29 = .ok (.iload_n 1, 1) := by decide +kernel
theorem dX2_setValue_30 : decode cX2_setValue 30 = .ok (.laload, 1) := by decide +kernel
theorem dX2_setValue_31 : decode cX2_setValue 31 = .ok (.lstore_n 3, 1) := by decide +kernel
theorem dX2_setValue_32 : decode cX2_setValue 32 = .ok (.aload_n 0, 1) := by decide +kernel
theorem dX2_setValue_33 : decode cX2_setValue 33 = .ok (.getfield 15, 3) := by decide +kernel
theorem dX2_setValue_36 : decode cX2_setValue 36 = .ok (.iload_n 1, 1) := by decide +kernel
theorem dX2_setValue_37 : decode cX2_setValue 37 = .ok (.iload_n 2, 1) := by decide +kernel
theorem dX2_setValue_38 : decode cX2_setValue 38 = .ok (.i2l, 1) := by decide +kernel
theorem dX2_setValue_39 : decode cX2_setValue 39 = .ok (.lastore, 1) := by decide +kernel
theorem dX2_setValue_40 : decode cX2_setValue 40 = .ok (.lload_n 3, 1) := by decide +kernel
theorem dX2_setValue_41 : decode cX2_setValue 41 = .ok (.lreturn, 1) := by decide +kernel
set_option maxRecDepth 20000 in
theorem ggX2_interpolate_X2_find : GoodIn wsX2_interpolate wsX2_find := goodIn_r _ [9, 10, 79, 80, 81, 82, 83, 84, 85] (by decide +kernel) (by decide +kernel)
set_option maxRecDepth 20000 in
theorem gX2_interpolate_X2_find : GoodIn wsX2_interpolate (wsV RX2 40 RX2 yX2_find wsX2_find) := goodIn_app (goodIn_of _ (by decide +kernel)) ggX2_interpolate_X2_find
set_option maxRecDepth 20000 in
theorem ggX2_interpolate_X2_isOutside : GoodIn wsX2_interpolate wsX2_isOutside := goodIn_r _ [13] (by decide +kernel) (by decide +kernel)
set_option maxRecDepth 20000 in
theorem gX2_interpolate_X2_isOutside : GoodIn wsX2_interpolate (va_wsS RX2 44 yX2_isOutside wsX2_isOutside) := goodIn_app (goodIn_of _ (by decide +kernel)) ggX2_interpolate_X2_isOutside
set_option maxRecDepth 20000 in
theorem ggX2_interpolate_X1_clear : GoodIn wsX2_interpolate wsX1_clear := goodIn_r _ [18, 19, 20, 21, 22, 23, 24, 86, 87] (by decide +kernel) (by decide +kernel)
set_option maxRecDepth 20000 in
theorem gX2_interpolate_X1_clear : GoodIn wsX2_interpolate (wsV RX2 112 RX1 yX1_clear wsX1_clear) := goodIn_app (goodIn_of _ (by decide +kernel)) ggX2_interpolate_X1_clear
set_option maxRecDepth 20000 in
theorem ggX2_interpolate_X2_cosineSum : GoodIn wsX2_interpolate wsX2_cosineSum := goodIn_r _ [28, 29, 30, 31, 8, 32, 33, 34, 35, 36, 11, 12, 13, 79, 80, 81, 82, 83, 84, 85] (by decide +kernel) (by decide +kernel)
set_option maxRecDepth 20000 in
theorem gX2_interpolate_X2_cosineSum : GoodIn wsX2_interpolate (wsV RX2 137 RX2 yX2_cosineSum wsX2_cosineSum) := goodIn_app (goodIn_of _ (by decide +kernel)) ggX2_interpolate_X2_cosineSum
set_option maxRecDepth 20000 in
theorem ggX2_interpolate_X2_rounded : GoodIn wsX2_interpolate wsX2_rounded := goodIn_r _ [39, 3, 40, 41, 42, 43] (by decide +kernel) (by decide +kernel)
set_option maxRecDepth 20000 in
theorem gX2_interpolate_X2_rounded : GoodIn wsX2_interpolate (va_wsS RX2 121 yX2_rounded wsX2_rounded) := goodIn_app (goodIn_of _ (by decide +kernel)) ggX2_interpolate_X2_rounded
set_option maxRecDepth 20000 in
theorem ggX2_interpolate_X1_put : GoodIn wsX2_interpolate wsX1_put := goodIn_r _ [47, 19, 86, 87] (by decide +kernel) (by decide +kernel)
set_option maxRecDepth 20000 in
theorem gX2_interpolate_X1_put : GoodIn wsX2_interpolate (wsV RX2 52 RX1 yX1_put wsX1_put) := goodIn_app (goodIn_of _ (by decide +kernel)) ggX2_interpolate_X1_put
set_option maxRecDepth 20000 in
theorem ggX2_interpolate_X1_trim : GoodIn wsX2_interpolate wsX1_trim := goodIn_r _ [51, 20, 19, 86, 87] (by decide +kernel) (by decide +kernel)
set_option maxRecDepth 20000 in
theorem gX2_interpolate_X1_trim : GoodIn wsX2_interpolate (wsV RX2 56 RX1 yX1_trim wsX1_trim) := goodIn_app (goodIn_of _ (by decide +kernel)) ggX2_interpolate_X1_trim
set_option maxRecDepth 20000 in
theorem ggX2_interpolate_X2_keepMade : GoodIn wsX2_interpolate wsX2_keepMade := goodIn_r _ [55, 2, 56, 57, 58, 17, 59, 20, 60, 19, 61, 62, 63, 64, 65, 66, 67, 68, 69, 70, 71, 72, 73, 74, 75, 76, 77, 78, 79, 80, 81, 82, 83, 84, 85, 86, 87] (by decide +kernel) (by decide +kernel)
set_option maxRecDepth 20000 in
theorem gX2_interpolate_X2_keepMade : GoodIn wsX2_interpolate (wsV RX2 81 RX2 yX2_keepMade wsX2_keepMade) := goodIn_app (goodIn_of _ (by decide +kernel)) ggX2_interpolate_X2_keepMade
theorem dX2_interpolate_0 : decode cX2_interpolate 0 = .ok (.aload_n 0, 1) := by decide +kernel
theorem dX2_interpolate_1 : decode cX2_interpolate 1 = .ok (.iload_n 2, 1) := by decide +kernel
theorem dX2_interpolate_2 : decode cX2_interpolate 2 = .ok (.invokevirtual 40, 3) := by decide +kernel
theorem dX2_interpolate_5 : decode cX2_interpolate 5 = .ok (.astore_n 3, 1) := by decide +kernel
theorem dX2_interpolate_6 : decode cX2_interpolate 6 = .ok (.aload_n 3, 1) := by decide +kernel
theorem dX2_interpolate_7 : decode cX2_interpolate 7 = .ok (.ifnull 12, 3) := by decide +kernel
theorem dX2_interpolate_10 : decode cX2_interpolate 10 = .ok (.iload_n 1, 1) := by decide +kernel
theorem dX2_interpolate_11 : decode cX2_interpolate 11 = .ok (.iconst 0, 1) := by decide +kernel
theorem dX2_interpolate_12 : decode cX2_interpolate 12 = .ok (.iconst 4, 1) := by decide +kernel
theorem dX2_interpolate_13 : decode cX2_interpolate 13 = .ok (.invokestatic 44, 3) := by decide +kernel
theorem dX2_interpolate_16 : decode cX2_interpolate 16 = .ok (.ifCond .eq 7, 3) := by decide +kernel
theorem dX2_interpolate_19 : decode cX2_interpolate 19 = .ok (.ldc2_w 50, 3) := by decide +kernel
theorem dX2_interpolate_22 : decode cX2_interpolate 22 = .ok (.lreturn, 1) := by decide +kernel
theorem dX2_interpolate_23 : decode cX2_interpolate 23 = .ok (.iconst 1, 1) := by decide +kernel
theorem dX2_interpolate_24 : decode cX2_interpolate 24 = .ok (.iload_n 1, 1) := by decide +kernel
theorem dX2_interpolate_25 : decode cX2_interpolate 25 = .ok (.ishl, 1) := by decide +kernel
theorem dX2_interpolate_26 : decode cX2_interpolate 26 = .ok (.istore 4, 2) := by decide +kernel
theorem dX2_interpolate_28 : decode cX2_interpolate 28 = .ok (.aload_n 0, 1) := by decide +kernel
theorem dX2_interpolate_29 : decode cX2_interpolate 29 = .ok (.getfield 27, 3) := by decide +kernel
theorem dX2_interpolate_32 : decode cX2_interpolate 32 = .ok (.invokevirtual 112, 3) := by decide +kernel
theorem dX2_interpolate_35 : decode cX2_interpolate 35 = .ok (.iconst 0, 1) := by decide +kernel
theorem dX2_interpolate_36 : decode cX2_interpolate 36 = .ok (.istore 5, 2) := by decide +kernel
theorem dX2_interpolate_38 : decode cX2_interpolate 38 = .ok (.iload 5, 2) := by decide +kernel
theorem dX2_interpolate_40 : decode cX2_interpolate 40 = .ok (.iload 4, 2) := by decide +kernel
theorem dX2_interpolate_42 : decode cX2_interpolate 42 = .ok (.if_icmp .gt 62, 3) := by decide +kernel
theorem dX2_interpolate_45 : decode cX2_interpolate 45 = .ok (.iload 5, 2) := by decide +kernel
theorem dX2_interpolate_47 : decode cX2_interpolate 47 = .ok (.ifCond .eq 10, 3) := by decide +kernel
theorem dX2_interpolate_50 : decode cX2_interpolate 50 = .ok (.iload 5, 2) := by decide +kernel
theorem dX2_interpolate_52 : decode cX2_interpolate 52 = .ok (.iload 4, 2) := by decide +kernel
theorem dX2_interpolate_54 : decode cX2_interpolate 54 = .ok (.if_icmp .ne 7, 3) := by decide +kernel
theorem dX2_interpolate_57 : decode cX2_interpolate 57 = .ok (.iconst 1, 1) := by decide +kernel
theorem dX2_interpolate_58 : decode cX2_interpolate 58 = .ok (.goto 4, 3) := by decide +kernel
theorem dX2_interpolate_61 : decode cX2_interpolate 61 = .ok (.iconst 2, 1) := by decide +kernel
theorem dX2_interpolate_62 : decode cX2_interpolate 62 = .ok (.istore 6, 2) := by decide +kernel
theorem dX2_interpolate_64 : decode cX2_interpolate 64 = .ok (.aload_n 0, 1) := by decide +kernel
theorem dX2_interpolate_65 : decode cX2_interpolate 65 = .ok (.getfield 27, 3) := by decide +kernel
theorem dX2_interpolate_68 : decode cX2_interpolate 68 = .ok (.iload 5, 2) := by decide +kernel
theorem dX2_interpolate_70 : decode cX2_interpolate 70 = .ok (.iload 6, 2) := by decide +kernel
theorem dX2_interpolate_72 : decode cX2_interpolate 72 = .ok (.i2l, 1) := by decide +kernel
theorem dX2_interpolate_73 : decode cX2_interpolate 73 = .ok (.aload_n 0, 1) := by decide +kernel
theorem dX2_interpolate_74 : decode cX2_interpolate 74 = .ok (.iload_n 1, 1) := by decide +kernel
theorem dX2_interpolate_75 : decode cX2_interpolate 75 = .ok (.iload 5, 2) := by decide +kernel
theorem dX2_interpolate_77 : decode cX2_interpolate 77 = .ok (.invokevirtual 137, 3) := by decide +kernel
theorem dX2_interpolate_80 : decode cX2_interpolate 80 = .ok (.lmul, 1) := by decide +kernel
theorem dX2_interpolate_81 : decode cX2_interpolate 81 = .ok (.ldc2_w 117, 3) := by decide +kernel
theorem dX2_interpolate_84 : decode cX2_interpolate 84 = .ok (.iload 4, 2) := by decide +kernel
theorem dX2_interpolate_86 : decode cX2_interpolate 86 = .ok (.i2l, 1) := by decide +kernel
theorem dX2_interpolate_87 : decode cX2_interpolate 87 = .ok (.lmul, 1) := by decide +kernel
theorem dX2_interpolate_88 : decode cX2_interpolate 88 = .ok (.ldc2_w 115, 3) := by decide +kernel
theorem dX2_interpolate_91 : decode cX2_interpolate 91 = .ok (.lmul, 1) := by decide +kernel
theorem dX2_interpolate_92 : decode cX2_interpolate 92 = .ok (.invokestatic 121, 3) := by decide +kernel
theorem dX2_interpolate_95 : decode cX2_interpolate 95 = .ok (.invokevirtual 52, 3) := by decide +kernel
theorem dX2_interpolate_98 : decode cX2_interpolate 98 = .ok (.iinc 5 1, 3) := by decide +kernel
theorem dX2_interpolate_101 : decode cX2_interpolate 101 = .ok (.goto (-63), 3) := by decide +kernel
theorem dX2_interpolate_104 : decode cX2_interpolate 104 = .ok (.aload_n 0, 1) := by decide +kernel
theorem dX2_interpolate_105 : decode cX2_interpolate 105 = .ok (.getfield 27, 3) := by decide +kernel
theorem dX2_interpolate_108 : decode cX2_interpolate 108 = .ok (.invokevirtual 56, 3) := by decide +kernel
theorem dX2_interpolate_111 : decode cX2_interpolate 111 = .ok (.aload_n 0, 1) := by decide +kernel
theorem dX2_interpolate_112 : decode cX2_interpolate 112 = .ok (.aload_n 3, 1) := by decide +kernel
theorem dX2_interpolate_113 : decode cX2_interpolate 113 = .ok (.invokevirtual 81, 3) := by decide +kernel
theorem dX2_interpolate_116 : decode cX2_interpolate 116 = .ok (.lreturn, 1) := by decide +kernel
set_option maxRecDepth 20000 in
theorem ggX2_sample_X2_find : GoodIn wsX2_sample wsX2_find := goodIn_r _ [13, 14, 45, 46, 47, 48, 49, 50, 51] (by decide +kernel) (by decide +kernel)
set_option maxRecDepth 20000 in
theorem gX2_sample_X2_find : GoodIn wsX2_sample (wsV RX2 40 RX2 yX2_find wsX2_find) := goodIn_app (goodIn_of _ (by decide +kernel)) ggX2_sample_X2_find
set_option maxRecDepth 20000 in
theorem ggX2_sample_X2_isOutside : GoodIn wsX2_sample wsX2_isOutside := goodIn_r _ [17] (by decide +kernel) (by decide +kernel)
set_option maxRecDepth 20000 in
theorem gX2_sample_X2_isOutside : GoodIn wsX2_sample (va_wsS RX2 44 yX2_isOutside wsX2_isOutside) := goodIn_app (goodIn_of _ (by decide +kernel)) ggX2_sample_X2_isOutside
set_option maxRecDepth 20000 in
theorem ggX2_sample_X2_pointAt : GoodIn wsX2_sample wsX2_pointAt := goodIn_r _ [20, 21, 22, 12, 23, 24, 15, 16, 17] (by decide +kernel) (by decide +kernel)
set_option maxRecDepth 20000 in
theorem gX2_sample_X2_pointAt : GoodIn wsX2_sample (va_wsS RX2 141 yX2_pointAt wsX2_pointAt) := goodIn_app (goodIn_of _ (by decide +kernel)) ggX2_sample_X2_pointAt
set_option maxRecDepth 20000 in
theorem ggX2_sample_X1_valueAt : GoodIn wsX2_sample wsX1_valueAt := goodIn_r _ [29, 30, 31, 32, 33, 34, 35, 28, 36, 37, 38, 12, 39, 40, 41, 42, 43, 44, 52, 53] (by decide +kernel) (by decide +kernel)
set_option maxRecDepth 20000 in
theorem gX2_sample_X1_valueAt : GoodIn wsX2_sample (wsV RX2 73 RX1 yX1_valueAt wsX1_valueAt) := goodIn_app (goodIn_of _ (by decide +kernel)) ggX2_sample_X1_valueAt
theorem dX2_sample_0 : decode cX2_sample 0 = .ok (.aload_n 0, 1) := by decide +kernel
theorem dX2_sample_1 : decode cX2_sample 1 = .ok (.iload_n 1, 1) := by decide +kernel
theorem dX2_sample_2 : decode cX2_sample 2 = .ok (.invokevirtual 40, 3) := by decide +kernel
theorem dX2_sample_5 : decode cX2_sample 5 = .ok (.astore_n 3, 1) := by decide +kernel
theorem dX2_sample_6 : decode cX2_sample 6 = .ok (.aload_n 3, 1) := by decide +kernel
theorem dX2_sample_7 : decode cX2_sample 7 = .ok (.ifnull 12, 3) := by decide +kernel
theorem dX2_sample_10 : decode cX2_sample 10 = .ok (.iload_n 2, 1) := by decide +kernel
theorem dX2_sample_11 : decode cX2_sample 11 = .ok (.iconst 0, 1) := by decide +kernel
theorem dX2_sample_12 : decode cX2_sample 12 = .ok (.iconst 4, 1) := by decide +kernel
theorem dX2_sample_13 : decode cX2_sample 13 = .ok (.invokestatic 44, 3) := by decide +kernel
theorem dX2_sample_16 : decode cX2_sample 16 = .ok (.ifCond .eq 7, 3) := by decide +kernel
theorem dX2_sample_19 : decode cX2_sample 19 = .ok (.ldc2_w 50, 3) := by decide +kernel
theorem dX2_sample_22 : decode cX2_sample 22 = .ok (.lreturn, 1) := by decide +kernel
theorem dX2_sample_23 : decode cX2_sample 23 = .ok (.iconst 1, 1) := by decide +kernel
theorem dX2_sample_24 : decode cX2_sample 24 = .ok (.iload_n 2, 1) := by decide +kernel
theorem dX2_sample_25 : decode cX2_sample 25 = .ok (.ishl, 1) := by decide +kernel
theorem dX2_sample_26 : decode cX2_sample 26 = .ok (.istore 4, 2) := by decide +kernel
theorem dX2_sample_28 : decode cX2_sample 28 = .ok (.iconst 0, 1) := by decide +kernel
theorem dX2_sample_29 : decode cX2_sample 29 = .ok (.istore 5, 2) := by decide +kernel
theorem dX2_sample_31 : decode cX2_sample 31 = .ok (.iload 5, 2) := by decide +kernel
theorem dX2_sample_33 : decode cX2_sample 33 = .ok (.iload 4, 2) := by decide +kernel
theorem dX2_sample_35 : decode cX2_sample 35 = .ok (.if_icmp .gt 34, 3) := by decide +kernel
theorem dX2_sample_38 : decode cX2_sample 38 = .ok (.aload_n 3, 1) := by decide +kernel
theorem dX2_sample_39 : decode cX2_sample 39 = .ok (.iload_n 2, 1) := by decide +kernel
theorem dX2_sample_40 : decode cX2_sample 40 = .ok (.iload 5, 2) := by decide +kernel
theorem dX2_sample_42 : decode cX2_sample 42 = .ok (.invokestatic 141, 3) := by decide +kernel
theorem dX2_sample_45 : decode cX2_sample 45 = .ok (.i2l, 1) := by decide +kernel
theorem dX2_sample_46 : decode cX2_sample 46 = .ok (.invokevirtual 73, 3) := by decide +kernel
theorem dX2_sample_49 : decode cX2_sample 49 = .ok (.invokestatic 125, 3) := by decide +kernel
theorem dX2_sample_52 : decode cX2_sample 52 = .ok (.ldc2_w 145, 3) := by decide +kernel
theorem dX2_sample_55 : decode cX2_sample 55 = .ok (.lcmp, 1) := by decide +kernel
theorem dX2_sample_56 : decode cX2_sample 56 = .ok (.ifCond .le 7, 3) := by decide +kernel
theorem dX2_sample_59 : decode cX2_sample 59 = .ok (.ldc2_w 147, 3) := by decide +kernel
theorem dX2_sample_62 : decode cX2_sample 62 = .ok (.lreturn, 1) := by decide +kernel
theorem dX2_sample_63 : decode cX2_sample 63 = .ok (.iinc 5 1, 3) := by decide +kernel
theorem dX2_sample_66 : decode cX2_sample 66 = .ok (.goto (-35), 3) := by decide +kernel
theorem dX2_sample_69 : decode cX2_sample 69 = .ok (.iconst 0, 1) := by decide +kernel
theorem dX2_sample_70 : decode cX2_sample 70 = .ok (.istore 5, 2) := by decide +kernel
theorem dX2_sample_72 : decode cX2_sample 72 = .ok (.iload 5, 2) := by decide +kernel
theorem dX2_sample_74 : decode cX2_sample 74 = .ok (.iload 4, 2) := by decide +kernel
theorem dX2_sample_76 : decode cX2_sample 76 = .ok (.if_icmp .gt 37, 3) := by decide +kernel
theorem dX2_sample_79 : decode cX2_sample 79 = .ok (.iload 5, 2) := by decide +kernel
theorem dX2_sample_81 : decode cX2_sample 81 = .ok (.aload_n 0, 1) := by decide +kernel
theorem dX2_sample_82 : decode cX2_sample 82 = .ok (.getfield 15, 3) := by decide +kernel
theorem dX2_sample_85 : decode cX2_sample 85 = .ok (.arraylength, 1) := by decide +kernel
theorem dX2_sample_86 : decode cX2_sample 86 = .ok (.if_icmp .ge 27, 3) := by decide +kernel
theorem dX2_sample_89 : decode cX2_sample 89 = .ok (.aload_n 0, 1) := by decide +kernel
theorem dX2_sample_90 : decode cX2_sample 90 = .ok (.getfield 15, 3) := by decide +kernel
theorem dX2_sample_93 : decode cX2_sample 93 = .ok (.iload 5, 2) := by decide +kernel
theorem dX2_sample_95 : decode cX2_sample 95 = .ok (.aload_n 3, 1) := by decide +kernel
theorem dX2_sample_96 : decode cX2_sample 96 = .ok (.iload_n 2, 1) := by decide +kernel
theorem dX2_sample_97 : decode cX2_sample 97 = .ok (.iload 5, 2) := by decide +kernel
theorem dX2_sample_99 : decode cX2_sample 99 = .ok (.invokestatic 141, 3) := by decide +kernel
theorem dX2_sample_102 : decode cX2_sample 102 = .ok (.i2l, 1) := by decide +kernel
theorem dX2_sample_103 : decode cX2_sample 103 = .ok (.invokevirtual 73, 3) := by decide +kernel
theorem dX2_sample_106 : decode cX2_sample 106 = .ok (.lastore, 1) := by decide +kernel
theorem dX2_sample_107 : decode cX2_sample 107 = .ok (.iinc 5 1, 3) := by decide +kernel
theorem dX2_sample_110 : decode cX2_sample 110 = .ok (.goto (-38), 3) := by decide +kernel
theorem dX2_sample_113 : decode cX2_sample 113 = .ok (.iload 4, 2) := by decide +kernel
theorem dX2_sample_115 : decode cX2_sample 115 = .ok (.iconst 1, 1) := by decide +kernel
theorem dX2_sample_116 : decode cX2_sample 116 = .ok (.iadd, 1) := by decide +kernel
theorem dX2_sample_117 : decode cX2_sample 117 = .ok (.i2l, 1) := by decide +kernel
theorem dX2_sample_118 : decode cX2_sample 118 = .ok (.lreturn, 1) := by decide +kernel
set_option maxRecDepth 20000 in
theorem ggX2_misfit_X2_find : GoodIn wsX2_misfit wsX2_find := goodIn_r _ [14, 15, 46, 47, 48, 49, 50, 51, 52] (by decide +kernel) (by decide +kernel)
set_option maxRecDepth 20000 in
theorem gX2_misfit_X2_find : GoodIn wsX2_misfit (wsV RX2 40 RX2 yX2_find wsX2_find) := goodIn_app (goodIn_of _ (by decide +kernel)) ggX2_misfit_X2_find
set_option maxRecDepth 20000 in
theorem ggX2_misfit_X2_isOutside : GoodIn wsX2_misfit wsX2_isOutside := goodIn_r _ [18] (by decide +kernel) (by decide +kernel)
set_option maxRecDepth 20000 in
theorem gX2_misfit_X2_isOutside : GoodIn wsX2_misfit (va_wsS RX2 44 yX2_isOutside wsX2_isOutside) := goodIn_app (goodIn_of _ (by decide +kernel)) ggX2_misfit_X2_isOutside
set_option maxRecDepth 20000 in
theorem ggX2_misfit_X2_pointAt : GoodIn wsX2_misfit wsX2_pointAt := goodIn_r _ [21, 22, 23, 13, 24, 25, 16, 17, 18] (by decide +kernel) (by decide +kernel)
set_option maxRecDepth 20000 in
theorem gX2_misfit_X2_pointAt : GoodIn wsX2_misfit (va_wsS RX2 141 yX2_pointAt wsX2_pointAt) := goodIn_app (goodIn_of _ (by decide +kernel)) ggX2_misfit_X2_pointAt
set_option maxRecDepth 20000 in
theorem ggX2_misfit_X1_valueAt : GoodIn wsX2_misfit wsX1_valueAt := goodIn_r _ [30, 31, 32, 33, 34, 35, 36, 29, 37, 38, 39, 13, 40, 41, 42, 43, 44, 45, 53, 54] (by decide +kernel) (by decide +kernel)
set_option maxRecDepth 20000 in
theorem gX2_misfit_X1_valueAt : GoodIn wsX2_misfit (wsV RX2 73 RX1 yX1_valueAt wsX1_valueAt) := goodIn_app (goodIn_of _ (by decide +kernel)) ggX2_misfit_X1_valueAt
theorem dX2_misfit_0 : decode cX2_misfit 0 = .ok (.aload_n 0, 1) := by decide +kernel
theorem dX2_misfit_1 : decode cX2_misfit 1 = .ok (.iload_n 1, 1) := by decide +kernel
theorem dX2_misfit_2 : decode cX2_misfit 2 = .ok (.invokevirtual 40, 3) := by decide +kernel
theorem dX2_misfit_5 : decode cX2_misfit 5 = .ok (.astore_n 3, 1) := by decide +kernel
theorem dX2_misfit_6 : decode cX2_misfit 6 = .ok (.aload_n 3, 1) := by decide +kernel
theorem dX2_misfit_7 : decode cX2_misfit 7 = .ok (.ifnull 12, 3) := by decide +kernel
theorem dX2_misfit_10 : decode cX2_misfit 10 = .ok (.iload_n 2, 1) := by decide +kernel
theorem dX2_misfit_11 : decode cX2_misfit 11 = .ok (.iconst 0, 1) := by decide +kernel
theorem dX2_misfit_12 : decode cX2_misfit 12 = .ok (.iconst 4, 1) := by decide +kernel
theorem dX2_misfit_13 : decode cX2_misfit 13 = .ok (.invokestatic 44, 3) := by decide +kernel
theorem dX2_misfit_16 : decode cX2_misfit 16 = .ok (.ifCond .eq 7, 3) := by decide +kernel
theorem dX2_misfit_19 : decode cX2_misfit 19 = .ok (.ldc2_w 50, 3) := by decide +kernel
theorem dX2_misfit_22 : decode cX2_misfit 22 = .ok (.lreturn, 1) := by decide +kernel
theorem dX2_misfit_23 : decode cX2_misfit 23 = .ok (.iconst 1, 1) := by decide +kernel
theorem dX2_misfit_24 : decode cX2_misfit 24 = .ok (.iload_n 2, 1) := by decide +kernel
theorem dX2_misfit_25 : decode cX2_misfit 25 = .ok (.ishl, 1) := by decide +kernel
theorem dX2_misfit_26 : decode cX2_misfit 26 = .ok (.istore 4, 2) := by decide +kernel
theorem dX2_misfit_28 : decode cX2_misfit 28 = .ok (.lconst 0, 1) := by decide +kernel
theorem dX2_misfit_29 : decode cX2_misfit 29 = .ok (.lstore 5, 2) := by decide +kernel
theorem dX2_misfit_31 : decode cX2_misfit 31 = .ok (.iconst 0, 1) := by decide +kernel
theorem dX2_misfit_32 : decode cX2_misfit 32 = .ok (.istore 7, 2) := by decide +kernel
theorem dX2_misfit_34 : decode cX2_misfit 34 = .ok (.iload 7, 2) := by decide +kernel
theorem dX2_misfit_36 : decode cX2_misfit 36 = .ok (.iload 4, 2) := by decide +kernel
theorem dX2_misfit_38 : decode cX2_misfit 38 = .ok (.if_icmp .gt 48, 3) := by decide +kernel
theorem dX2_misfit_41 : decode cX2_misfit 41 = .ok (.iload 7, 2) := by decide +kernel
theorem dX2_misfit_43 : decode cX2_misfit 43 = .ok (.aload_n 0, 1) := by decide +kernel
theorem dX2_misfit_44 : decode cX2_misfit 44 = .ok (.getfield 15, 3) := by decide +kernel
theorem dX2_misfit_47 : decode cX2_misfit 47 = .ok (.arraylength, 1) := by decide +kernel
theorem dX2_misfit_48 : decode cX2_misfit 48 = .ok (.if_icmp .ge 38, 3) := by decide +kernel
theorem dX2_misfit_51 : decode cX2_misfit 51 = .ok (.lload 5, 2) := by decide +kernel
theorem dX2_misfit_53 : decode cX2_misfit 53 = .ok (.aload_n 3, 1) := by decide +kernel
theorem dX2_misfit_54 : decode cX2_misfit 54 = .ok (.iload_n 2, 1) := by decide +kernel
theorem dX2_misfit_55 : decode cX2_misfit 55 = .ok (.iload 7, 2) := by decide +kernel
theorem dX2_misfit_57 : decode cX2_misfit 57 = .ok (.invokestatic 141, 3) := by decide +kernel
theorem dX2_misfit_60 : decode cX2_misfit 60 = .ok (.i2l, 1) := by decide +kernel
theorem dX2_misfit_61 : decode cX2_misfit 61 = .ok (.invokevirtual 73, 3) := by decide +kernel
end
section
theorem dX2_misfit_64 : decode cX2_misfit 64 = .ok (.aload_n 0, 1) := by decide +kernel
theorem dX2_misfit_65 : decode cX2_misfit 65 = .ok (.getfield 15, 3) := by decide +kernel
theorem dX2_misfit_68 : decode cX2_misfit 68 = .ok (.iload 7, 2) := by decide +kernel
theorem dX2_misfit_70 : decode cX2_misfit 70 = .ok (.laload, 1) := by decide +kernel
theorem dX2_misfit_71 : decode cX2_misfit 71 = .ok (.lsub, 1) := by decide +kernel
theorem dX2_misfit_72 : decode cX2_misfit 72 = .ok (.invokestatic 125, 3) := by decide +kernel
theorem dX2_misfit_75 : decode cX2_misfit 75 = .ok (.invokestatic 149, 3) := by decide +kernel
theorem dX2_misfit_78 : decode cX2_misfit 78 = .ok (.lstore 5, 2) := by decide +kernel
theorem dX2_misfit_80 : decode cX2_misfit 80 = .ok (.iinc 7 1, 3) := by decide +kernel
theorem dX2_misfit_83 : decode cX2_misfit 83 = .ok (.goto (-49), 3) := by decide +kernel
theorem dX2_misfit_86 : decode cX2_misfit 86 = .ok (.lload 5, 2) := by decide +kernel
theorem dX2_misfit_88 : decode cX2_misfit 88 = .ok (.lreturn, 1) := by decide +kernel
set_option maxRecDepth 20000 in
theorem ggX2_extremePoint_X2_isOutside : GoodIn wsX2_extremePoint wsX2_isOutside := goodIn_r _ [5] (by decide +kernel) (by decide +kernel)
set_option maxRecDepth 20000 in
theorem gX2_extremePoint_X2_isOutside : GoodIn wsX2_extremePoint (va_wsS RX2 44 yX2_isOutside wsX2_isOutside) := goodIn_app (goodIn_of _ (by decide +kernel)) ggX2_extremePoint_X2_isOutside
set_option maxRecDepth 20000 in
theorem ggX2_extremePoint_X2_pointAt : GoodIn wsX2_extremePoint wsX2_pointAt := goodIn_r _ [8, 9, 10, 4, 11, 12, 2, 3, 5] (by decide +kernel) (by decide +kernel)
set_option maxRecDepth 20000 in
theorem gX2_extremePoint_X2_pointAt : GoodIn wsX2_extremePoint (va_wsS RX2 141 yX2_pointAt wsX2_pointAt) := goodIn_app (goodIn_of _ (by decide +kernel)) ggX2_extremePoint_X2_pointAt
theorem dX2_extremePoint_0 : decode cX2_extremePoint 0 = .ok (.iload_n 1, 1) := by decide +kernel
theorem dX2_extremePoint_1 : decode cX2_extremePoint 1 = .ok (.iconst 0, 1) := by decide +kernel
theorem dX2_extremePoint_2 : decode cX2_extremePoint 2 = .ok (.iconst 4, 1) := by decide +kernel
theorem dX2_extremePoint_3 : decode cX2_extremePoint 3 = .ok (.invokestatic 44, 3) := by decide +kernel
theorem dX2_extremePoint_6 : decode cX2_extremePoint 6 = .ok (.ifCond .ne 14, 3) := by decide +kernel
theorem dX2_extremePoint_9 : decode cX2_extremePoint 9 = .ok (.iload_n 2, 1) := by decide +kernel
theorem dX2_extremePoint_10 : decode cX2_extremePoint 10 = .ok (.iconst 0, 1) := by decide +kernel
theorem dX2_extremePoint_11 : decode cX2_extremePoint 11 = .ok (.iconst 1, 1) := by decide +kernel
theorem dX2_extremePoint_12 : decode cX2_extremePoint 12 = .ok (.iload_n 1, 1) := by decide +kernel
theorem dX2_extremePoint_13 : decode cX2_extremePoint 13 = .ok (.ishl, 1) := by decide +kernel
theorem dX2_extremePoint_14 : decode cX2_extremePoint 14 = .ok (.invokestatic 44, 3) := by decide +kernel
theorem dX2_extremePoint_17 : decode cX2_extremePoint 17 = .ok (.ifCond .eq 7, 3) := by decide +kernel
theorem dX2_extremePoint_20 : decode cX2_extremePoint 20 = .ok (.ldc2_w 50, 3) := by decide +kernel
theorem dX2_extremePoint_23 : decode cX2_extremePoint 23 = .ok (.lreturn, 1) := by decide +kernel
theorem dX2_extremePoint_24 : decode cX2_extremePoint 24 = .ok (.iload_n 1, 1) := by decide +kernel
theorem dX2_extremePoint_25 : decode cX2_extremePoint 25 = .ok (.iload_n 2, 1) := by decide +kernel
theorem dX2_extremePoint_26 : decode cX2_extremePoint 26 = .ok (.invokestatic 141, 3) := by decide +kernel
theorem dX2_extremePoint_29 : decode cX2_extremePoint 29 = .ok (.i2l, 1) := by decide +kernel
theorem dX2_extremePoint_30 : decode cX2_extremePoint 30 = .ok (.lreturn, 1) := by decide +kernel
set_option maxRecDepth 20000 in
theorem ggX2_root_X2_find : GoodIn wsX2_root wsX2_find := goodIn_r _ [8, 9, 87, 88, 89, 90, 91, 92, 93] (by decide +kernel) (by decide +kernel)
set_option maxRecDepth 20000 in
theorem gX2_root_X2_find : GoodIn wsX2_root (wsV RX2 40 RX2 yX2_find wsX2_find) := goodIn_app (goodIn_of _ (by decide +kernel)) ggX2_root_X2_find
set_option maxRecDepth 20000 in
theorem ggX2_root_X0_run : GoodIn wsX2_root wsX0_run := goodIn_r _ [14, 15, 16, 17, 18, 19, 20, 21, 22, 23, 24, 25, 26, 13, 27, 28, 29, 30, 31, 32, 33, 34, 35, 36, 37, 38, 39, 40, 41, 42, 43, 44, 45, 46, 47, 48, 49, 50, 51, 52, 53, 54, 55, 56, 57, 58, 59, 60, 61, 62, 63, 64, 65, 66, 67, 68, 69, 7, 70, 71, 72, 73, 74, 75, 76, 77, 78, 79, 80, 81, 94, 95, 96, 97, 98, 99, 100] (by decide +kernel) (by decide +kernel)
set_option maxRecDepth 20000 in
theorem gX2_root_X0_run : GoodIn wsX2_root (wsV RX2 152 RX0 yX0_run wsX0_run) := goodIn_app (goodIn_of _ (by decide +kernel)) ggX2_root_X0_run
set_option maxRecDepth 20000 in
theorem ggX2_root_X0_count : GoodIn wsX2_root wsX0_count := goodIn_r _ [85, 15, 94, 95, 96, 97, 98] (by decide +kernel) (by decide +kernel)
set_option maxRecDepth 20000 in
theorem gX2_root_X0_count : GoodIn wsX2_root (wsV RX2 155 RX0 yX0_count wsX0_count) := goodIn_app (goodIn_of _ (by decide +kernel)) ggX2_root_X0_count
set_option maxRecDepth 20000 in
theorem ggX2_root_X0_found : GoodIn wsX2_root wsX0_found := goodIn_r _ [81, 77, 94, 95, 96, 97, 98] (by decide +kernel) (by decide +kernel)
set_option maxRecDepth 20000 in
theorem gX2_root_X0_found : GoodIn wsX2_root (wsV RX2 158 RX0 yX0_found wsX0_found) := goodIn_app (goodIn_of _ (by decide +kernel)) ggX2_root_X0_found
theorem dX2_root_0 : decode cX2_root 0 = .ok (.aload_n 0, 1) := by decide +kernel
theorem dX2_root_1 : decode cX2_root 1 = .ok (.iload_n 1, 1) := by decide +kernel
theorem dX2_root_2 : decode cX2_root 2 = .ok (.invokevirtual 40, 3) := by decide +kernel
theorem dX2_root_5 : decode cX2_root 5 = .ok (.astore_n 3, 1) := by decide +kernel
theorem dX2_root_6 : decode cX2_root 6 = .ok (.aload_n 3, 1) := by decide +kernel
theorem dX2_root_7 : decode cX2_root 7 = .ok (.ifnull 8, 3) := by decide +kernel
theorem dX2_root_10 : decode cX2_root 10 = .ok (.iload_n 2, 1) := by decide +kernel
theorem dX2_root_11 : decode cX2_root 11 = .ok (.iconst (-1), 1) := by decide +kernel
theorem dX2_root_12 : decode cX2_root 12 = .ok (.if_icmp .ge 7, 3) := by decide +kernel
theorem dX2_root_15 : decode cX2_root 15 = .ok (.ldc2_w 50, 3) := by decide +kernel
theorem dX2_root_18 : decode cX2_root 18 = .ok (.lreturn, 1) := by decide +kernel
theorem dX2_root_19 : decode cX2_root 19 = .ok (.aload_n 0, 1) := by decide +kernel
theorem dX2_root_20 : decode cX2_root 20 = .ok (.getfield 22, 3) := by decide +kernel
theorem dX2_root_23 : decode cX2_root 23 = .ok (.aload_n 3, 1) := by decide +kernel
theorem dX2_root_24 : decode cX2_root 24 = .ok (.invokevirtual 152, 3) := by decide +kernel
theorem dX2_root_27 : decode cX2_root 27 = .ok (.iload_n 2, 1) := by decide +kernel
theorem dX2_root_28 : decode cX2_root 28 = .ok (.iconst (-1), 1) := by decide +kernel
theorem dX2_root_29 : decode cX2_root 29 = .ok (.if_icmp .ne 12, 3) := by decide +kernel
theorem dX2_root_32 : decode cX2_root 32 = .ok (.aload_n 0, 1) := by decide +kernel
theorem dX2_root_33 : decode cX2_root 33 = .ok (.getfield 22, 3) := by decide +kernel
theorem dX2_root_36 : decode cX2_root 36 = .ok (.invokevirtual 155, 3) := by decide +kernel
theorem dX2_root_39 : decode cX2_root 39 = .ok (.i2l, 1) := by decide +kernel
theorem dX2_root_40 : decode cX2_root 40 = .ok (.lreturn, 1) := by decide +kernel
theorem dX2_root_41 : decode cX2_root 41 = .ok (.iload_n 2, 1) := by decide +kernel
theorem dX2_root_42 : decode cX2_root 42 = .ok (.aload_n 0, 1) := by decide +kernel
theorem dX2_root_43 : decode cX2_root 43 = .ok (.getfield 22, 3) := by decide +kernel
theorem dX2_root_46 : decode cX2_root 46 = .ok (.invokevirtual 155, 3) := by decide +kernel
theorem dX2_root_49 : decode cX2_root 49 = .ok (.if_icmp .ge 14, 3) := by decide +kernel
theorem dX2_root_52 : decode cX2_root 52 = .ok (.aload_n 0, 1) := by decide +kernel
theorem dX2_root_53 : decode cX2_root 53 = .ok (.getfield 22, 3) := by decide +kernel
theorem dX2_root_56 : decode cX2_root 56 = .ok (.iload_n 2, 1) := by decide +kernel
theorem dX2_root_57 : decode cX2_root 57 = .ok (.invokevirtual 158, 3) := by decide +kernel
theorem dX2_root_60 : decode cX2_root 60 = .ok (.goto 6, 3) := by decide +kernel
theorem dX2_root_63 : decode cX2_root 63 = .ok (.ldc2_w 133, 3) := by decide +kernel
theorem dX2_root_66 : decode cX2_root 66 = .ok (.lreturn, 1) := by decide +kernel
set_option maxRecDepth 20000 in
theorem ggX2_intervals_X2_find : GoodIn wsX2_intervals wsX2_find := goodIn_r _ [7, 8, 85, 86, 87, 88, 89, 90, 91] (by decide +kernel) (by decide +kernel)
set_option maxRecDepth 20000 in
theorem gX2_intervals_X2_find : GoodIn wsX2_intervals (wsV RX2 40 RX2 yX2_find wsX2_find) := goodIn_app (goodIn_of _ (by decide +kernel)) ggX2_intervals_X2_find
set_option maxRecDepth 20000 in
theorem ggX2_intervals_X0_run : GoodIn wsX2_intervals wsX0_run := goodIn_r _ [13, 14, 15, 16, 17, 18, 19, 20, 21, 22, 23, 24, 25, 12, 26, 27, 28, 29, 30, 31, 32, 33, 34, 35, 36, 37, 38, 39, 40, 41, 42, 43, 44, 45, 46, 47, 48, 49, 50, 51, 52, 53, 54, 55, 56, 57, 58, 59, 60, 61, 62, 63, 64, 65, 66, 67, 68, 6, 69, 70, 71, 72, 73, 74, 75, 76, 77, 78, 79, 80, 92, 93, 94, 95, 96, 97, 98] (by decide +kernel) (by decide +kernel)
set_option maxRecDepth 20000 in
theorem gX2_intervals_X0_run : GoodIn wsX2_intervals (wsV RX2 152 RX0 yX0_run wsX0_run) := goodIn_app (goodIn_of _ (by decide +kernel)) ggX2_intervals_X0_run
set_option maxRecDepth 20000 in
theorem ggX2_intervals_X0_lookedAt : GoodIn wsX2_intervals wsX0_lookedAt := goodIn_r _ [84, 15, 92, 93, 94, 95, 96] (by decide +kernel) (by decide +kernel)
set_option maxRecDepth 20000 in
theorem gX2_intervals_X0_lookedAt : GoodIn wsX2_intervals (wsV RX2 161 RX0 yX0_lookedAt wsX0_lookedAt) := goodIn_app (goodIn_of _ (by decide +kernel)) ggX2_intervals_X0_lookedAt
theorem dX2_intervals_0 : decode cX2_intervals 0 = .ok (.aload_n 0, 1) := by decide +kernel
theorem dX2_intervals_1 : decode cX2_intervals 1 = .ok (.iload_n 1, 1) := by decide +kernel
theorem dX2_intervals_2 : decode cX2_intervals 2 = .ok (.invokevirtual 40, 3) := by decide +kernel
theorem dX2_intervals_5 : decode cX2_intervals 5 = .ok (.astore_n 2, 1) := by decide +kernel
theorem dX2_intervals_6 : decode cX2_intervals 6 = .ok (.aload_n 2, 1) := by decide +kernel
theorem dX2_intervals_7 : decode cX2_intervals 7 = .ok (.ifnonnull 7, 3) := by decide +kernel
theorem dX2_intervals_10 : decode cX2_intervals 10 = .ok (.ldc2_w 50, 3) := by decide +kernel
theorem dX2_intervals_13 : decode cX2_intervals 13 = .ok (.lreturn, 1) := by decide +kernel
theorem dX2_intervals_14 : decode cX2_intervals 14 = .ok (.aload_n 0, 1) := by decide +kernel
theorem dX2_intervals_15 : decode cX2_intervals 15 = .ok (.getfield 22, 3) := by decide +kernel
theorem dX2_intervals_18 : decode cX2_intervals 18 = .ok (.aload_n 2, 1) := by decide +kernel
theorem dX2_intervals_19 : decode cX2_intervals 19 = .ok (.invokevirtual 152, 3) := by decide +kernel
theorem dX2_intervals_22 : decode cX2_intervals 22 = .ok (.aload_n 0, 1) := by decide +kernel
theorem dX2_intervals_23 : decode cX2_intervals 23 = .ok (.getfield 22, 3) := by decide +kernel
theorem dX2_intervals_26 : decode cX2_intervals 26 = .ok (.invokevirtual 161, 3) := by decide +kernel
theorem dX2_intervals_29 : decode cX2_intervals 29 = .ok (.i2l, 1) := by decide +kernel
theorem dX2_intervals_30 : decode cX2_intervals 30 = .ok (.lreturn, 1) := by decide +kernel
set_option maxRecDepth 20000 in
theorem ggX2_greatest_X2_find : GoodIn wsX2_greatest wsX2_find := goodIn_r _ [14, 15, 119, 120, 121, 122, 123, 124, 125] (by decide +kernel) (by decide +kernel)
set_option maxRecDepth 20000 in
theorem gX2_greatest_X2_find : GoodIn wsX2_greatest (wsV RX2 40 RX2 yX2_find wsX2_find) := goodIn_app (goodIn_of _ (by decide +kernel)) ggX2_greatest_X2_find
set_option maxRecDepth 20000 in
theorem ggX2_greatest_X1_becomeDerivative : GoodIn wsX2_greatest wsX1_becomeDerivative := goodIn_r _ [20, 21, 22, 23, 24, 25, 19, 26, 27, 28, 29, 30, 31, 32, 33, 34, 35, 36, 37, 38, 39, 40, 13, 41, 42, 43, 44, 45, 46, 47, 48, 49, 50, 126, 127] (by decide +kernel) (by decide +kernel)
set_option maxRecDepth 20000 in
theorem gX2_greatest_X1_becomeDerivative : GoodIn wsX2_greatest (wsV RX2 89 RX1 yX1_becomeDerivative wsX1_becomeDerivative) := goodIn_app (goodIn_of _ (by decide +kernel)) ggX2_greatest_X1_becomeDerivative
set_option maxRecDepth 20000 in
theorem ggX2_greatest_X1_error : GoodIn wsX2_greatest wsX1_error := goodIn_r _ [54, 21, 55, 27, 56, 57, 8, 58, 59, 60, 126, 127] (by decide +kernel) (by decide +kernel)
set_option maxRecDepth 20000 in
theorem gX2_greatest_X1_error : GoodIn wsX2_greatest (wsV RX2 164 RX1 yX1_error wsX1_error) := goodIn_app (goodIn_of _ (by decide +kernel)) ggX2_greatest_X1_error
set_option maxRecDepth 20000 in
theorem ggX2_greatest_X0_run : GoodIn wsX2_greatest wsX0_run := goodIn_r _ [65, 66, 67, 68, 69, 70, 71, 7, 8, 9, 72, 73, 74, 64, 75, 76, 57, 58, 77, 78, 79, 19, 80, 21, 81, 33, 34, 35, 27, 82, 83, 84, 85, 86, 87, 88, 89, 90, 91, 92, 45, 93, 94, 44, 46, 95, 96, 97, 98, 99, 100, 101, 102, 22, 103, 32, 40, 13, 41, 42, 43, 104, 105, 106, 107, 108, 109, 110, 111, 112, 128, 129, 130, 131, 132, 126, 127] (by decide +kernel) (by decide +kernel)
set_option maxRecDepth 20000 in
theorem gX2_greatest_X0_run : GoodIn wsX2_greatest (wsV RX2 152 RX0 yX0_run wsX0_run) := goodIn_app (goodIn_of _ (by decide +kernel)) ggX2_greatest_X0_run
set_option maxRecDepth 20000 in
theorem ggX2_greatest_X1_valueAt : GoodIn wsX2_greatest wsX1_valueAt := goodIn_r _ [102, 21, 22, 103, 32, 33, 34, 19, 35, 27, 40, 13, 41, 42, 43, 44, 45, 46, 126, 127] (by decide +kernel) (by decide +kernel)
set_option maxRecDepth 20000 in
theorem gX2_greatest_X1_valueAt : GoodIn wsX2_greatest (wsV RX2 73 RX1 yX1_valueAt wsX1_valueAt) := goodIn_app (goodIn_of _ (by decide +kernel)) ggX2_greatest_X1_valueAt
set_option maxRecDepth 20000 in
theorem ggX2_greatest_X0_count : GoodIn wsX2_greatest wsX0_count := goodIn_r _ [117, 66, 128, 129, 130, 131, 132] (by decide +kernel) (by decide +kernel)
set_option maxRecDepth 20000 in
theorem gX2_greatest_X0_count : GoodIn wsX2_greatest (wsV RX2 155 RX0 yX0_count wsX0_count) := goodIn_app (goodIn_of _ (by decide +kernel)) ggX2_greatest_X0_count
set_option maxRecDepth 20000 in
theorem ggX2_greatest_X0_found : GoodIn wsX2_greatest wsX0_found := goodIn_r _ [112, 108, 128, 129, 130, 131, 132] (by decide +kernel) (by decide +kernel)
set_option maxRecDepth 20000 in
theorem gX2_greatest_X0_found : GoodIn wsX2_greatest (wsV RX2 158 RX0 yX0_found wsX0_found) := goodIn_app (goodIn_of _ (by decide +kernel)) ggX2_greatest_X0_found
theorem dX2_greatest_0 : decode cX2_greatest 0 = .ok (.aload_n 0, 1) := by decide +kernel
theorem dX2_greatest_1 : decode cX2_greatest 1 = .ok (.iload_n 1, 1) := by decide +kernel
theorem dX2_greatest_2 : decode cX2_greatest 2 = .ok (.invokevirtual 40, 3) := by decide +kernel
theorem dX2_greatest_5 : decode cX2_greatest 5 = .ok (.astore_n 2, 1) := by decide +kernel
theorem dX2_greatest_6 : decode cX2_greatest 6 = .ok (.aload_n 2, 1) := by decide +kernel
theorem dX2_greatest_7 : decode cX2_greatest 7 = .ok (.ifnonnull 7, 3) := by decide +kernel
theorem dX2_greatest_10 : decode cX2_greatest 10 = .ok (.ldc2_w 50, 3) := by decide +kernel
theorem dX2_greatest_13 : decode cX2_greatest 13 = .ok (.lreturn, 1) := by decide +kernel
theorem dX2_greatest_14 : decode cX2_greatest 14 = .ok (.aload_n 0, 1) := by decide +kernel
theorem dX2_greatest_15 : decode cX2_greatest 15 = .ok (.getfield 27, 3) := by decide +kernel
theorem dX2_greatest_18 : decode cX2_greatest 18 = .ok (.aload_n 2, 1) := by decide +kernel
theorem dX2_greatest_19 : decode cX2_greatest 19 = .ok (.invokevirtual 89, 3) := by decide +kernel
theorem dX2_greatest_22 : decode cX2_greatest 22 = .ok (.aload_n 0, 1) := by decide +kernel
theorem dX2_greatest_23 : decode cX2_greatest 23 = .ok (.getfield 27, 3) := by decide +kernel
theorem dX2_greatest_26 : decode cX2_greatest 26 = .ok (.invokevirtual 164, 3) := by decide +kernel
theorem dX2_greatest_29 : decode cX2_greatest 29 = .ok (.lstore_n 3, 1) := by decide +kernel
theorem dX2_greatest_30 : decode cX2_greatest 30 = .ok (.lload_n 3, 1) := by decide +kernel
theorem dX2_greatest_31 : decode cX2_greatest 31 = .ok (.lconst 0, 1) := by decide +kernel
theorem dX2_greatest_32 : decode cX2_greatest 32 = .ok (.lcmp, 1) := by decide +kernel
theorem dX2_greatest_33 : decode cX2_greatest 33 = .ok (.ifCond .eq 5, 3) := by decide +kernel
theorem dX2_greatest_36 : decode cX2_greatest 36 = .ok (.lload_n 3, 1) := by decide +kernel
theorem dX2_greatest_37 : decode cX2_greatest 37 = .ok (.lreturn, 1) := by decide +kernel
theorem dX2_greatest_38 : decode cX2_greatest 38 = .ok (.aload_n 0, 1) := by decide +kernel
theorem dX2_greatest_39 : decode cX2_greatest 39 = .ok (.getfield 22, 3) := by decide +kernel
theorem dX2_greatest_42 : decode cX2_greatest 42 = .ok (.aload_n 0, 1) := by decide +kernel
theorem dX2_greatest_43 : decode cX2_greatest 43 = .ok (.getfield 27, 3) := by decide +kernel
theorem dX2_greatest_46 : decode cX2_greatest 46 = .ok (.invokevirtual 152, 3) := by decide +kernel
theorem dX2_greatest_49 : decode cX2_greatest 49 = .ok (.aload_n 2, 1) := by decide +kernel
theorem dX2_greatest_50 : decode cX2_greatest 50 = .ok (.ldc2_w 168, 3) := by decide +kernel
theorem dX2_greatest_53 : decode cX2_greatest 53 = .ok (.invokevirtual 73, 3) := by decide +kernel
theorem dX2_greatest_56 : decode cX2_greatest 56 = .ok (.aload_n 2, 1) := by decide +kernel
theorem dX2_greatest_57 : decode cX2_greatest 57 = .ok (.ldc2_w 115, 3) := by decide +kernel
theorem dX2_greatest_60 : decode cX2_greatest 60 = .ok (.invokevirtual 73, 3) := by decide +kernel
theorem dX2_greatest_63 : decode cX2_greatest 63 = .ok (.invokestatic 149, 3) := by decide +kernel
theorem dX2_greatest_66 : decode cX2_greatest 66 = .ok (.lstore 5, 2) := by decide +kernel
theorem dX2_greatest_68 : decode cX2_greatest 68 = .ok (.iconst 0, 1) := by decide +kernel
theorem dX2_greatest_69 : decode cX2_greatest 69 = .ok (.istore 7, 2) := by decide +kernel
theorem dX2_greatest_71 : decode cX2_greatest 71 = .ok (.iload 7, 2) := by decide +kernel
theorem dX2_greatest_73 : decode cX2_greatest 73 = .ok (.aload_n 0, 1) := by decide +kernel
theorem dX2_greatest_74 : decode cX2_greatest 74 = .ok (.getfield 22, 3) := by decide +kernel
theorem dX2_greatest_77 : decode cX2_greatest 77 = .ok (.invokevirtual 155, 3) := by decide +kernel
theorem dX2_greatest_80 : decode cX2_greatest 80 = .ok (.if_icmp .ge 29, 3) := by decide +kernel
theorem dX2_greatest_83 : decode cX2_greatest 83 = .ok (.lload 5, 2) := by decide +kernel
theorem dX2_greatest_85 : decode cX2_greatest 85 = .ok (.aload_n 2, 1) := by decide +kernel
theorem dX2_greatest_86 : decode cX2_greatest 86 = .ok (.aload_n 0, 1) := by decide +kernel
theorem dX2_greatest_87 : decode cX2_greatest 87 = .ok (.getfield 22, 3) := by decide +kernel
theorem dX2_greatest_90 : decode cX2_greatest 90 = .ok (.iload 7, 2) := by decide +kernel
theorem dX2_greatest_92 : decode cX2_greatest 92 = .ok (.invokevirtual 158, 3) := by decide +kernel
theorem dX2_greatest_95 : decode cX2_greatest 95 = .ok (.invokevirtual 73, 3) := by decide +kernel
theorem dX2_greatest_98 : decode cX2_greatest 98 = .ok (.invokestatic 149, 3) := by decide +kernel
theorem dX2_greatest_101 : decode cX2_greatest 101 = .ok (.lstore 5, 2) := by decide +kernel
theorem dX2_greatest_103 : decode cX2_greatest 103 = .ok (.iinc 7 1, 3) := by decide +kernel
theorem dX2_greatest_106 : decode cX2_greatest 106 = .ok (.goto (-35), 3) := by decide +kernel
theorem dX2_greatest_109 : decode cX2_greatest 109 = .ok (.lload 5, 2) := by decide +kernel
theorem dX2_greatest_111 : decode cX2_greatest 111 = .ok (.lreturn, 1) := by decide +kernel
theorem dX2_find_0 : decode cX2_find 0 = .ok (.iload_n 1, 1) := by decide +kernel
theorem dX2_find_1 : decode cX2_find 1 = .ok (.ifCond .lt 21, 3) := by decide +kernel
theorem dX2_find_4 : decode cX2_find 4 = .ok (.iload_n 1, 1) := by decide +kernel
theorem dX2_find_5 : decode cX2_find 5 = .ok (.aload_n 0, 1) := by decide +kernel
theorem dX2_find_6 : decode cX2_find 6 = .ok (.getfield 11, 3) := by decide +kernel
theorem dX2_find_9 : decode cX2_find 9 = .ok (.arraylength, 1) := by decide +kernel
theorem dX2_find_10 : decode cX2_find 10 = .ok (.if_icmp .ge 12, 3) := by decide +kernel
theorem dX2_find_13 : decode cX2_find 13 = .ok (.aload_n 0, 1) := by decide +kernel
theorem dX2_find_14 : decode cX2_find 14 = .ok (.getfield 11, 3) := by decide +kernel
theorem dX2_find_17 : decode cX2_find 17 = .ok (.iload_n 1, 1) := by decide +kernel
theorem dX2_find_18 : decode cX2_find 18 = .ok (.aaload, 1) := by decide +kernel
theorem dX2_find_19 : decode cX2_find 19 = .ok (.goto 4, 3) := by decide +kernel
theorem dX2_find_22 : decode cX2_find 22 = .ok (.aconst_null, 1) := by decide +kernel
theorem dX2_find_23 : decode cX2_find 23 = .ok (.areturn, 1) := by decide +kernel
theorem dX2_isOutside_0 : decode cX2_isOutside 0 = .ok (.iload_n 0, 1) := by decide +kernel
theorem dX2_isOutside_1 : decode cX2_isOutside 1 = .ok (.iload_n 1, 1) := by decide +kernel
theorem dX2_isOutside_2 : decode cX2_isOutside 2 = .ok (.if_icmp .lt 8, 3) := by decide +kernel
theorem dX2_isOutside_5 : decode cX2_isOutside 5 = .ok (.iload_n 0, 1) := by decide +kernel
theorem dX2_isOutside_6 : decode cX2_isOutside 6 = .ok (.iload_n 2, 1) := by decide +kernel
theorem dX2_isOutside_7 : decode cX2_isOutside 7 = .ok (.if_icmp .le 7, 3) := by decide +kernel
theorem dX2_isOutside_10 : decode cX2_isOutside 10 = .ok (.iconst 1, 1) := by decide +kernel
theorem dX2_isOutside_11 : decode cX2_isOutside 11 = .ok (.goto 4, 3) := by decide +kernel
theorem dX2_isOutside_14 : decode cX2_isOutside 14 = .ok (.iconst 0, 1) := by decide +kernel
theorem dX2_isOutside_15 : decode cX2_isOutside 15 = .ok (.ireturn, 1) := by decide +kernel
set_option maxRecDepth 20000 in
theorem ggX2_rounded_J9_floorDiv_f86c9 : GoodIn wsX2_rounded wsJ9_floorDiv_f86c9 := goodIn_r _ [5] (by decide +kernel) (by decide +kernel)
set_option maxRecDepth 20000 in
theorem gX2_rounded_J9_floorDiv_f86c9 : GoodIn wsX2_rounded (va_wsS RX2 170 yJ9_floorDiv_f86c9 wsJ9_floorDiv_f86c9) := goodIn_app (goodIn_of _ (by decide +kernel)) ggX2_rounded_J9_floorDiv_f86c9
theorem dX2_rounded_0 : decode cX2_rounded 0 = .ok (.lload_n 2, 1) := by decide +kernel
theorem dX2_rounded_1 : decode cX2_rounded 1 = .ok (.lconst 0, 1) := by decide +kernel
theorem dX2_rounded_2 : decode cX2_rounded 2 = .ok (.lcmp, 1) := by decide +kernel
theorem dX2_rounded_3 : decode cX2_rounded 3 = .ok (.ifCond .gt 5, 3) := by decide +kernel
theorem dX2_rounded_6 : decode cX2_rounded 6 = .ok (.lconst 0, 1) := by decide +kernel
theorem dX2_rounded_7 : decode cX2_rounded 7 = .ok (.lreturn, 1) := by decide +kernel
theorem dX2_rounded_8 : decode cX2_rounded 8 = .ok (.lload_n 0, 1) := by decide +kernel
theorem dX2_rounded_9 : decode cX2_rounded 9 = .ok (.lload_n 2, 1) := by decide +kernel
theorem dX2_rounded_10 : decode cX2_rounded 10 = .ok (.invokestatic 170, 3) := by decide +kernel
theorem dX2_rounded_13 : decode cX2_rounded 13 = .ok (.lstore 4, 2) := by decide +kernel
theorem dX2_rounded_15 : decode cX2_rounded 15 = .ok (.lload_n 0, 1) := by decide +kernel
theorem dX2_rounded_16 : decode cX2_rounded 16 = .ok (.lload 4, 2) := by decide +kernel
theorem dX2_rounded_18 : decode cX2_rounded 18 = .ok (.lload_n 2, 1) := by decide +kernel
theorem dX2_rounded_19 : decode cX2_rounded 19 = .ok (.lmul, 1) := by decide +kernel
theorem dX2_rounded_20 : decode cX2_rounded 20 = .ok (.lsub, 1) := by decide +kernel
theorem dX2_rounded_21 : decode cX2_rounded 21 = .ok (.lstore 6, 2) := by decide +kernel
theorem dX2_rounded_23 : decode cX2_rounded 23 = .ok (.ldc2_w 117, 3) := by decide +kernel
theorem dX2_rounded_26 : decode cX2_rounded 26 = .ok (.lload 6, 2) := by decide +kernel
theorem dX2_rounded_28 : decode cX2_rounded 28 = .ok (.lmul, 1) := by decide +kernel
theorem dX2_rounded_29 : decode cX2_rounded 29 = .ok (.lload_n 2, 1) := by decide +kernel
theorem dX2_rounded_30 : decode cX2_rounded 30 = .ok (.lcmp, 1) := by decide +kernel
theorem dX2_rounded_31 : decode cX2_rounded 31 = .ok (.ifCond .lt 10, 3) := by decide +kernel
theorem dX2_rounded_34 : decode cX2_rounded 34 = .ok (.lload 4, 2) := by decide +kernel
theorem dX2_rounded_36 : decode cX2_rounded 36 = .ok (.lconst 1, 1) := by decide +kernel
theorem dX2_rounded_37 : decode cX2_rounded 37 = .ok (.ladd, 1) := by decide +kernel
theorem dX2_rounded_38 : decode cX2_rounded 38 = .ok (.goto 5, 3) := by decide +kernel
theorem dX2_rounded_41 : decode cX2_rounded 41 = .ok (.lload 4, 2) := by decide +kernel
theorem dX2_rounded_43 : decode cX2_rounded 43 = .ok (.lreturn, 1) := by decide +kernel
set_option maxRecDepth 20000 in
theorem ggX2_cosine_X2_isOutside : GoodIn wsX2_cosine wsX2_isOutside := goodIn_r _ [5] (by decide +kernel) (by decide +kernel)
set_option maxRecDepth 20000 in
theorem gX2_cosine_X2_isOutside : GoodIn wsX2_cosine (va_wsS RX2 44 yX2_isOutside wsX2_isOutside) := goodIn_app (goodIn_of _ (by decide +kernel)) ggX2_cosine_X2_isOutside
theorem dX2_cosine_0 : decode cX2_cosine 0 = .ok (.iload_n 0, 1) := by decide +kernel
theorem dX2_cosine_1 : decode cX2_cosine 1 = .ok (.bipush 31, 2) := by decide +kernel
theorem dX2_cosine_3 : decode cX2_cosine 3 = .ok (.iand, 1) := by decide +kernel
theorem dX2_cosine_4 : decode cX2_cosine 4 = .ok (.istore_n 1, 1) := by decide +kernel
theorem dX2_cosine_5 : decode cX2_cosine 5 = .ok (.iload_n 1, 1) := by decide +kernel
theorem dX2_cosine_6 : decode cX2_cosine 6 = .ok (.bipush 16, 2) := by decide +kernel
theorem dX2_cosine_8 : decode cX2_cosine 8 = .ok (.if_icmp .le 10, 3) := by decide +kernel
theorem dX2_cosine_11 : decode cX2_cosine 11 = .ok (.bipush 32, 2) := by decide +kernel
theorem dX2_cosine_13 : decode cX2_cosine 13 = .ok (.iload_n 1, 1) := by decide +kernel
theorem dX2_cosine_14 : decode cX2_cosine 14 = .ok (.isub, 1) := by decide +kernel
theorem dX2_cosine_15 : decode cX2_cosine 15 = .ok (.goto 4, 3) := by decide +kernel
theorem dX2_cosine_18 : decode cX2_cosine 18 = .ok (.iload_n 1, 1) := by decide +kernel
theorem dX2_cosine_19 : decode cX2_cosine 19 = .ok (.istore_n 2, 1) := by decide +kernel
theorem dX2_cosine_20 : decode cX2_cosine 20 = .ok (.iload_n 2, 1) := by decide +kernel
theorem dX2_cosine_21 : decode cX2_cosine 21 = .ok (.iconst 0, 1) := by decide +kernel
theorem dX2_cosine_22 : decode cX2_cosine 22 = .ok (.bipush 16, 2) := by decide +kernel
theorem dX2_cosine_24 : decode cX2_cosine 24 = .ok (.invokestatic 44, 3) := by decide +kernel
theorem dX2_cosine_27 : decode cX2_cosine 27 = .ok (.ifCond .eq 5, 3) := by decide +kernel
theorem dX2_cosine_30 : decode cX2_cosine 30 = .ok (.iconst 0, 1) := by decide +kernel
theorem dX2_cosine_31 : decode cX2_cosine 31 = .ok (.ireturn, 1) := by decide +kernel
theorem dX2_cosine_32 : decode cX2_cosine 32 = .ok (.iload_n 2, 1) := by decide +kernel
theorem dX2_cosine_33 : decode cX2_cosine 33 = .ok (.bipush 8, 2) := by decide +kernel
theorem dX2_cosine_35 : decode cX2_cosine 35 = .ok (.if_icmp .gt 11, 3) := by decide +kernel
theorem dX2_cosine_38 : decode cX2_cosine 38 = .ok (.getstatic 173, 3) := by decide +kernel
theorem dX2_cosine_41 : decode cX2_cosine 41 = .ok (.iload_n 2, 1) := by decide +kernel
theorem dX2_cosine_42 : decode cX2_cosine 42 = .ok (.iaload, 1) := by decide +kernel
theorem dX2_cosine_43 : decode cX2_cosine 43 = .ok (.goto 12, 3) := by decide +kernel
theorem dX2_cosine_46 : decode cX2_cosine 46 = .ok (.getstatic 173, 3) := by decide +kernel
theorem dX2_cosine_49 : decode cX2_cosine 49 = .ok (.bipush 16, 2) := by decide +kernel
theorem dX2_cosine_51 : decode cX2_cosine 51 = .ok (.iload_n 2, 1) := by decide +kernel
theorem dX2_cosine_52 : decode cX2_cosine 52 = .ok (.isub, 1) := by decide +kernel
theorem dX2_cosine_53 : decode cX2_cosine 53 = .ok (.iaload, 1) := by decide +kernel
theorem dX2_cosine_54 : decode cX2_cosine 54 = .ok (.ineg, 1) := by decide +kernel
theorem dX2_cosine_55 : decode cX2_cosine 55 = .ok (.ireturn, 1) := by decide +kernel
set_option maxRecDepth 20000 in
theorem ggX2_pointAt_X2_cosine : GoodIn wsX2_pointAt wsX2_cosine := goodIn_r _ [4, 5, 6, 7, 3, 8] (by decide +kernel) (by decide +kernel)
set_option maxRecDepth 20000 in
theorem gX2_pointAt_X2_cosine : GoodIn wsX2_pointAt (va_wsS RX2 177 yX2_cosine wsX2_cosine) := goodIn_app (goodIn_of _ (by decide +kernel)) ggX2_pointAt_X2_cosine
theorem dX2_pointAt_0 : decode cX2_pointAt 0 = .ok (.iload_n 1, 1) := by decide +kernel
theorem dX2_pointAt_1 : decode cX2_pointAt 1 = .ok (.iconst 4, 1) := by decide +kernel
theorem dX2_pointAt_2 : decode cX2_pointAt 2 = .ok (.iload_n 0, 1) := by decide +kernel
theorem dX2_pointAt_3 : decode cX2_pointAt 3 = .ok (.isub, 1) := by decide +kernel
theorem dX2_pointAt_4 : decode cX2_pointAt 4 = .ok (.ishl, 1) := by decide +kernel
theorem dX2_pointAt_5 : decode cX2_pointAt 5 = .ok (.invokestatic 177, 3) := by decide +kernel
theorem dX2_pointAt_8 : decode cX2_pointAt 8 = .ok (.ireturn, 1) := by decide +kernel
set_option maxRecDepth 20000 in
theorem ggX2_cosineSum_X2_pointAt : GoodIn wsX2_cosineSum wsX2_pointAt := goodIn_r _ [5, 6, 7, 4, 8, 9, 10, 11, 12] (by decide +kernel) (by decide +kernel)
set_option maxRecDepth 20000 in
theorem gX2_cosineSum_X2_pointAt : GoodIn wsX2_cosineSum (va_wsS RX2 141 yX2_pointAt wsX2_pointAt) := goodIn_app (goodIn_of _ (by decide +kernel)) ggX2_cosineSum_X2_pointAt
theorem dX2_cosineSum_0 : decode cX2_cosineSum 0 = .ok (.iconst 1, 1) := by decide +kernel
theorem dX2_cosineSum_1 : decode cX2_cosineSum 1 = .ok (.iload_n 1, 1) := by decide +kernel
theorem dX2_cosineSum_2 : decode cX2_cosineSum 2 = .ok (.ishl, 1) := by decide +kernel
theorem dX2_cosineSum_3 : decode cX2_cosineSum 3 = .ok (.istore_n 3, 1) := by decide +kernel
theorem dX2_cosineSum_4 : decode cX2_cosineSum 4 = .ok (.lconst 0, 1) := by decide +kernel
theorem dX2_cosineSum_5 : decode cX2_cosineSum 5 = .ok (.lstore 4, 2) := by decide +kernel
theorem dX2_cosineSum_7 : decode cX2_cosineSum 7 = .ok (.iconst 0, 1) := by decide +kernel
theorem dX2_cosineSum_8 : decode cX2_cosineSum 8 = .ok (.istore 6, 2) := by decide +kernel
theorem dX2_cosineSum_10 : decode cX2_cosineSum 10 = .ok (.iload 6, 2) := by decide +kernel
theorem dX2_cosineSum_12 : decode cX2_cosineSum 12 = .ok (.iload_n 3, 1) := by decide +kernel
theorem dX2_cosineSum_13 : decode cX2_cosineSum 13 = .ok (.if_icmp .gt 63, 3) := by decide +kernel
theorem dX2_cosineSum_16 : decode cX2_cosineSum 16 = .ok (.iload 6, 2) := by decide +kernel
theorem dX2_cosineSum_18 : decode cX2_cosineSum 18 = .ok (.aload_n 0, 1) := by decide +kernel
theorem dX2_cosineSum_19 : decode cX2_cosineSum 19 = .ok (.getfield 15, 3) := by decide +kernel
theorem dX2_cosineSum_22 : decode cX2_cosineSum 22 = .ok (.arraylength, 1) := by decide +kernel
theorem dX2_cosineSum_23 : decode cX2_cosineSum 23 = .ok (.if_icmp .ge 53, 3) := by decide +kernel
theorem dX2_cosineSum_26 : decode cX2_cosineSum 26 = .ok (.iload 6, 2) := by decide +kernel
theorem dX2_cosineSum_28 : decode cX2_cosineSum 28 = .ok (.ifCond .eq 9, 3) := by decide +kernel
theorem dX2_cosineSum_31 : decode cX2_cosineSum 31 = .ok (.iload 6, 2) := by decide +kernel
theorem dX2_cosineSum_33 : decode cX2_cosineSum 33 = .ok (.iload_n 3, 1) := by decide +kernel
theorem dX2_cosineSum_34 : decode cX2_cosineSum 34 = .ok (.if_icmp .ne 7, 3) := by decide +kernel
theorem dX2_cosineSum_37 : decode cX2_cosineSum 37 = .ok (.iconst 1, 1) := by decide +kernel
theorem dX2_cosineSum_38 : decode cX2_cosineSum 38 = .ok (.goto 4, 3) := by decide +kernel
theorem dX2_cosineSum_41 : decode cX2_cosineSum 41 = .ok (.iconst 2, 1) := by decide +kernel
theorem dX2_cosineSum_42 : decode cX2_cosineSum 42 = .ok (.istore 7, 2) := by decide +kernel
theorem dX2_cosineSum_44 : decode cX2_cosineSum 44 = .ok (.lload 4, 2) := by decide +kernel
theorem dX2_cosineSum_46 : decode cX2_cosineSum 46 = .ok (.iload 7, 2) := by decide +kernel
theorem dX2_cosineSum_48 : decode cX2_cosineSum 48 = .ok (.i2l, 1) := by decide +kernel
theorem dX2_cosineSum_49 : decode cX2_cosineSum 49 = .ok (.aload_n 0, 1) := by decide +kernel
theorem dX2_cosineSum_50 : decode cX2_cosineSum 50 = .ok (.getfield 15, 3) := by decide +kernel
theorem dX2_cosineSum_53 : decode cX2_cosineSum 53 = .ok (.iload 6, 2) := by decide +kernel
theorem dX2_cosineSum_55 : decode cX2_cosineSum 55 = .ok (.laload, 1) := by decide +kernel
theorem dX2_cosineSum_56 : decode cX2_cosineSum 56 = .ok (.lmul, 1) := by decide +kernel
theorem dX2_cosineSum_57 : decode cX2_cosineSum 57 = .ok (.iload_n 1, 1) := by decide +kernel
theorem dX2_cosineSum_58 : decode cX2_cosineSum 58 = .ok (.iload 6, 2) := by decide +kernel
theorem dX2_cosineSum_60 : decode cX2_cosineSum 60 = .ok (.iload_n 2, 1) := by decide +kernel
theorem dX2_cosineSum_61 : decode cX2_cosineSum 61 = .ok (.imul, 1) := by decide +kernel
theorem dX2_cosineSum_62 : decode cX2_cosineSum 62 = .ok (.invokestatic 141, 3) := by decide +kernel
theorem dX2_cosineSum_65 : decode cX2_cosineSum 65 = .ok (.i2l, 1) := by decide +kernel
theorem dX2_cosineSum_66 : decode cX2_cosineSum 66 = .ok (.lmul, 1) := by decide +kernel
theorem dX2_cosineSum_67 : decode cX2_cosineSum 67 = .ok (.ladd, 1) := by decide +kernel
theorem dX2_cosineSum_68 : decode cX2_cosineSum 68 = .ok (.lstore 4, 2) := by decide +kernel
theorem dX2_cosineSum_70 : decode cX2_cosineSum 70 = .ok (.iinc 6 1, 3) := by decide +kernel
theorem dX2_cosineSum_73 : decode cX2_cosineSum 73 = .ok (.goto (-63), 3) := by decide +kernel
theorem dX2_cosineSum_76 : decode cX2_cosineSum 76 = .ok (.lload 4, 2) := by decide +kernel
theorem dX2_cosineSum_78 : decode cX2_cosineSum 78 = .ok (.lreturn, 1) := by decide +kernel
set_option maxRecDepth 20000 in
theorem ggX2_keepMade_X1_error : GoodIn wsX2_keepMade wsX1_error := goodIn_r _ [6, 7, 8, 9, 10, 11, 12, 13, 14, 15, 35, 36] (by decide +kernel) (by decide +kernel)
set_option maxRecDepth 20000 in
theorem gX2_keepMade_X1_error : GoodIn wsX2_keepMade (wsV RX2 164 RX1 yX1_error wsX1_error) := goodIn_app (goodIn_of _ (by decide +kernel)) ggX2_keepMade_X1_error
set_option maxRecDepth 20000 in
theorem ggX2_keepMade_X1_take : GoodIn wsX2_keepMade wsX1_take := goodIn_r _ [19, 9, 7, 20, 21, 22, 5, 23, 35, 36] (by decide +kernel) (by decide +kernel)
set_option maxRecDepth 20000 in
theorem gX2_keepMade_X1_take : GoodIn wsX2_keepMade (wsV RX2 67 RX1 yX1_take wsX1_take) := goodIn_app (goodIn_of _ (by decide +kernel)) ggX2_keepMade_X1_take
set_option maxRecDepth 20000 in
theorem ggX2_keepMade_X1_top : GoodIn wsX2_keepMade wsX1_top := goodIn_r _ [27, 7, 35, 36] (by decide +kernel) (by decide +kernel)
set_option maxRecDepth 20000 in
theorem gX2_keepMade_X1_top : GoodIn wsX2_keepMade (wsV RX2 59 RX1 yX1_top wsX1_top) := goodIn_app (goodIn_of _ (by decide +kernel)) ggX2_keepMade_X1_top
theorem dX2_keepMade_0 : decode cX2_keepMade 0 = .ok (.aload_n 0, 1) := by decide +kernel
theorem dX2_keepMade_1 : decode cX2_keepMade 1 = .ok (.getfield 27, 3) := by decide +kernel
theorem dX2_keepMade_4 : decode cX2_keepMade 4 = .ok (.invokevirtual 164, 3) := by decide +kernel
theorem dX2_keepMade_7 : decode cX2_keepMade 7 = .ok (.lstore_n 2, 1) := by decide +kernel
theorem dX2_keepMade_8 : decode cX2_keepMade 8 = .ok (.lload_n 2, 1) := by decide +kernel
theorem dX2_keepMade_9 : decode cX2_keepMade 9 = .ok (.lconst 0, 1) := by decide +kernel
theorem dX2_keepMade_10 : decode cX2_keepMade 10 = .ok (.lcmp, 1) := by decide +kernel
theorem dX2_keepMade_11 : decode cX2_keepMade 11 = .ok (.ifCond .eq 5, 3) := by decide +kernel
theorem dX2_keepMade_14 : decode cX2_keepMade 14 = .ok (.lload_n 2, 1) := by decide +kernel
theorem dX2_keepMade_15 : decode cX2_keepMade 15 = .ok (.lreturn, 1) := by decide +kernel
theorem dX2_keepMade_16 : decode cX2_keepMade 16 = .ok (.aload_n 1, 1) := by decide +kernel
theorem dX2_keepMade_17 : decode cX2_keepMade 17 = .ok (.aload_n 0, 1) := by decide +kernel
theorem dX2_keepMade_18 : decode cX2_keepMade 18 = .ok (.getfield 27, 3) := by decide +kernel
theorem dX2_keepMade_21 : decode cX2_keepMade 21 = .ok (.invokevirtual 67, 3) := by decide +kernel
theorem dX2_keepMade_24 : decode cX2_keepMade 24 = .ok (.aload_n 1, 1) := by decide +kernel
theorem dX2_keepMade_25 : decode cX2_keepMade 25 = .ok (.invokevirtual 59, 3) := by decide +kernel
theorem dX2_keepMade_28 : decode cX2_keepMade 28 = .ok (.i2l, 1) := by decide +kernel
theorem dX2_keepMade_29 : decode cX2_keepMade 29 = .ok (.lreturn, 1) := by decide +kernel
set_option maxRecDepth 20000 in
theorem ggX2_makeComposition_X1_clear : GoodIn wsX2_makeComposition wsX1_clear := goodIn_r _ [8, 9, 10, 11, 12, 13, 14, 82, 83] (by decide +kernel) (by decide +kernel)
set_option maxRecDepth 20000 in
theorem gX2_makeComposition_X1_clear : GoodIn wsX2_makeComposition (wsV RX2 112 RX1 yX1_clear wsX1_clear) := goodIn_app (goodIn_of _ (by decide +kernel)) ggX2_makeComposition_X1_clear
set_option maxRecDepth 20000 in
theorem ggX2_makeComposition_X1_top : GoodIn wsX2_makeComposition wsX1_top := goodIn_r _ [18, 10, 82, 83] (by decide +kernel) (by decide +kernel)
set_option maxRecDepth 20000 in
theorem gX2_makeComposition_X1_top : GoodIn wsX2_makeComposition (wsV RX2 59 RX1 yX1_top wsX1_top) := goodIn_app (goodIn_of _ (by decide +kernel)) ggX2_makeComposition_X1_top
set_option maxRecDepth 20000 in
theorem ggX2_makeComposition_X1_at : GoodIn wsX2_makeComposition wsX1_at := goodIn_r _ [22, 9, 82, 83] (by decide +kernel) (by decide +kernel)
set_option maxRecDepth 20000 in
theorem gX2_makeComposition_X1_at : GoodIn wsX2_makeComposition (wsV RX2 63 RX1 yX1_at wsX1_at) := goodIn_app (goodIn_of _ (by decide +kernel)) ggX2_makeComposition_X1_at
set_option maxRecDepth 20000 in
theorem ggX2_makeComposition_X2_makeStep : GoodIn wsX2_makeComposition wsX2_makeStep := goodIn_r _ [27, 28, 1, 3, 2, 29, 30, 31, 7, 32, 10, 33, 34, 35, 36, 9, 37, 38, 5, 6, 8, 11, 12, 13, 14, 39, 20, 21, 22, 40, 41, 42, 43, 44, 26, 45, 46, 47, 48, 49, 50, 51, 52, 53, 54, 55, 56, 57, 58, 59, 60, 61, 62, 63, 64, 65, 66, 67, 68, 19, 69, 70, 75, 76, 77, 78, 79, 80, 81, 82, 83] (by decide +kernel) (by decide +kernel)
set_option maxRecDepth 20000 in
theorem gX2_makeComposition_X2_makeStep : GoodIn wsX2_makeComposition (wsV RX2 180 RX2 yX2_makeStep wsX2_makeStep) := goodIn_app (goodIn_of _ (by decide +kernel)) ggX2_makeComposition_X2_makeStep
set_option maxRecDepth 20000 in
theorem ggX2_makeComposition_X1_take : GoodIn wsX2_makeComposition wsX1_take := goodIn_r _ [74, 9, 10, 39, 20, 21, 7, 22, 82, 83] (by decide +kernel) (by decide +kernel)
set_option maxRecDepth 20000 in
theorem gX2_makeComposition_X1_take : GoodIn wsX2_makeComposition (wsV RX2 67 RX1 yX1_take wsX1_take) := goodIn_app (goodIn_of _ (by decide +kernel)) ggX2_makeComposition_X1_take
theorem dX2_makeComposition_0 : decode cX2_makeComposition 0 = .ok (.aload_n 0, 1) := by decide +kernel
theorem dX2_makeComposition_1 : decode cX2_makeComposition 1 = .ok (.getfield 34, 3) := by decide +kernel
theorem dX2_makeComposition_4 : decode cX2_makeComposition 4 = .ok (.invokevirtual 112, 3) := by decide +kernel
theorem dX2_makeComposition_7 : decode cX2_makeComposition 7 = .ok (.aload_n 0, 1) := by decide +kernel
theorem dX2_makeComposition_8 : decode cX2_makeComposition 8 = .ok (.getfield 37, 3) := by decide +kernel
theorem dX2_makeComposition_11 : decode cX2_makeComposition 11 = .ok (.invokevirtual 112, 3) := by decide +kernel
theorem dX2_makeComposition_14 : decode cX2_makeComposition 14 = .ok (.aload_n 1, 1) := by decide +kernel
theorem dX2_makeComposition_15 : decode cX2_makeComposition 15 = .ok (.invokevirtual 59, 3) := by decide +kernel
theorem dX2_makeComposition_18 : decode cX2_makeComposition 18 = .ok (.istore_n 3, 1) := by decide +kernel
theorem dX2_makeComposition_19 : decode cX2_makeComposition 19 = .ok (.iload_n 3, 1) := by decide +kernel
theorem dX2_makeComposition_20 : decode cX2_makeComposition 20 = .ok (.iconst 1, 1) := by decide +kernel
theorem dX2_makeComposition_21 : decode cX2_makeComposition 21 = .ok (.if_icmp .lt 54, 3) := by decide +kernel
theorem dX2_makeComposition_24 : decode cX2_makeComposition 24 = .ok (.aload_n 0, 1) := by decide +kernel
theorem dX2_makeComposition_25 : decode cX2_makeComposition 25 = .ok (.aload_n 1, 1) := by decide +kernel
theorem dX2_makeComposition_26 : decode cX2_makeComposition 26 = .ok (.iload_n 3, 1) := by decide +kernel
theorem dX2_makeComposition_27 : decode cX2_makeComposition 27 = .ok (.invokevirtual 63, 3) := by decide +kernel
theorem dX2_makeComposition_30 : decode cX2_makeComposition 30 = .ok (.iconst 2, 1) := by decide +kernel
theorem dX2_makeComposition_31 : decode cX2_makeComposition 31 = .ok (.aload_n 2, 1) := by decide +kernel
theorem dX2_makeComposition_32 : decode cX2_makeComposition 32 = .ok (.invokevirtual 180, 3) := by decide +kernel
theorem dX2_makeComposition_35 : decode cX2_makeComposition 35 = .ok (.lstore 4, 2) := by decide +kernel
theorem dX2_makeComposition_37 : decode cX2_makeComposition 37 = .ok (.lload 4, 2) := by decide +kernel
theorem dX2_makeComposition_39 : decode cX2_makeComposition 39 = .ok (.lconst 0, 1) := by decide +kernel
theorem dX2_makeComposition_40 : decode cX2_makeComposition 40 = .ok (.lcmp, 1) := by decide +kernel
theorem dX2_makeComposition_41 : decode cX2_makeComposition 41 = .ok (.ifCond .eq 6, 3) := by decide +kernel
theorem dX2_makeComposition_44 : decode cX2_makeComposition 44 = .ok (.lload 4, 2) := by decide +kernel
theorem dX2_makeComposition_46 : decode cX2_makeComposition 46 = .ok (.lreturn, 1) := by decide +kernel
theorem dX2_makeComposition_47 : decode cX2_makeComposition 47 = .ok (.aload_n 0, 1) := by decide +kernel
theorem dX2_makeComposition_48 : decode cX2_makeComposition 48 = .ok (.getfield 37, 3) := by decide +kernel
theorem dX2_makeComposition_51 : decode cX2_makeComposition 51 = .ok (.aload_n 0, 1) := by decide +kernel
theorem dX2_makeComposition_52 : decode cX2_makeComposition 52 = .ok (.getfield 34, 3) := by decide +kernel
theorem dX2_makeComposition_55 : decode cX2_makeComposition 55 = .ok (.invokevirtual 67, 3) := by decide +kernel
theorem dX2_makeComposition_58 : decode cX2_makeComposition 58 = .ok (.aload_n 0, 1) := by decide +kernel
theorem dX2_makeComposition_59 : decode cX2_makeComposition 59 = .ok (.getfield 34, 3) := by decide +kernel
theorem dX2_makeComposition_62 : decode cX2_makeComposition 62 = .ok (.aload_n 0, 1) := by decide +kernel
theorem dX2_makeComposition_63 : decode cX2_makeComposition 63 = .ok (.getfield 27, 3) := by decide +kernel
theorem dX2_makeComposition_66 : decode cX2_makeComposition 66 = .ok (.invokevirtual 67, 3) := by decide +kernel
theorem dX2_makeComposition_69 : decode cX2_makeComposition 69 = .ok (.iinc 3 (-1), 3) := by decide +kernel
theorem dX2_makeComposition_72 : decode cX2_makeComposition 72 = .ok (.goto (-53), 3) := by decide +kernel
theorem dX2_makeComposition_75 : decode cX2_makeComposition 75 = .ok (.aload_n 0, 1) := by decide +kernel
theorem dX2_makeComposition_76 : decode cX2_makeComposition 76 = .ok (.aload_n 1, 1) := by decide +kernel
theorem dX2_makeComposition_77 : decode cX2_makeComposition 77 = .ok (.iconst 0, 1) := by decide +kernel
theorem dX2_makeComposition_78 : decode cX2_makeComposition 78 = .ok (.invokevirtual 63, 3) := by decide +kernel
theorem dX2_makeComposition_81 : decode cX2_makeComposition 81 = .ok (.iconst 1, 1) := by decide +kernel
theorem dX2_makeComposition_82 : decode cX2_makeComposition 82 = .ok (.aload_n 2, 1) := by decide +kernel
theorem dX2_makeComposition_83 : decode cX2_makeComposition 83 = .ok (.invokevirtual 180, 3) := by decide +kernel
theorem dX2_makeComposition_86 : decode cX2_makeComposition 86 = .ok (.lreturn, 1) := by decide +kernel
set_option maxRecDepth 20000 in
theorem ggX2_makeStep_X1_becomeProduct : GoodIn wsX2_makeStep wsX1_becomeProduct := goodIn_r _ [9, 10, 11, 12, 13, 14, 15, 16, 17, 18, 19, 8, 20, 21, 22, 23, 24, 25, 26, 27, 28, 29, 30, 31, 32, 33, 34, 35, 36, 37, 38, 39, 40, 41, 42, 43, 44, 69, 70] (by decide +kernel) (by decide +kernel)
set_option maxRecDepth 20000 in
theorem gX2_makeStep_X1_becomeProduct : GoodIn wsX2_makeStep (wsV RX2 85 RX1 yX1_becomeProduct wsX1_becomeProduct) := goodIn_app (goodIn_of _ (by decide +kernel)) ggX2_makeStep_X1_becomeProduct
set_option maxRecDepth 20000 in
theorem ggX2_makeStep_X1_error : GoodIn wsX2_makeStep wsX1_error := goodIn_r _ [48, 10, 49, 15, 50, 51, 13, 52, 53, 54, 69, 70] (by decide +kernel) (by decide +kernel)
set_option maxRecDepth 20000 in
theorem gX2_makeStep_X1_error : GoodIn wsX2_makeStep (wsV RX2 164 RX1 yX1_error wsX1_error) := goodIn_app (goodIn_of _ (by decide +kernel)) ggX2_makeStep_X1_error
set_option maxRecDepth 20000 in
theorem ggX2_makeStep_X1_becomeSum : GoodIn wsX2_makeStep wsX1_becomeSum := goodIn_r _ [58, 15, 25, 26, 27, 8, 28, 41, 42, 43, 44, 10, 69, 70] (by decide +kernel) (by decide +kernel)
set_option maxRecDepth 20000 in
theorem gX2_makeStep_X1_becomeSum : GoodIn wsX2_makeStep (wsV RX2 77 RX1 yX1_becomeSum wsX1_becomeSum) := goodIn_app (goodIn_of _ (by decide +kernel)) ggX2_makeStep_X1_becomeSum
set_option maxRecDepth 20000 in
theorem ggX2_makeStep_X1_at : GoodIn wsX2_makeStep wsX1_at := goodIn_r _ [28, 15, 69, 70] (by decide +kernel) (by decide +kernel)
set_option maxRecDepth 20000 in
theorem gX2_makeStep_X1_at : GoodIn wsX2_makeStep (wsV RX2 63 RX1 yX1_at wsX1_at) := goodIn_app (goodIn_of _ (by decide +kernel)) ggX2_makeStep_X1_at
set_option maxRecDepth 20000 in
theorem ggX2_makeStep_X1_put : GoodIn wsX2_makeStep wsX1_put := goodIn_r _ [32, 15, 69, 70] (by decide +kernel) (by decide +kernel)
set_option maxRecDepth 20000 in
theorem gX2_makeStep_X1_put : GoodIn wsX2_makeStep (wsV RX2 52 RX1 yX1_put wsX1_put) := goodIn_app (goodIn_of _ (by decide +kernel)) ggX2_makeStep_X1_put
set_option maxRecDepth 20000 in
theorem ggX2_makeStep_X1_trim : GoodIn wsX2_makeStep wsX1_trim := goodIn_r _ [44, 10, 15, 69, 70] (by decide +kernel) (by decide +kernel)
set_option maxRecDepth 20000 in
theorem gX2_makeStep_X1_trim : GoodIn wsX2_makeStep (wsV RX2 56 RX1 yX1_trim wsX1_trim) := goodIn_app (goodIn_of _ (by decide +kernel)) ggX2_makeStep_X1_trim
theorem dX2_makeStep_0 : decode cX2_makeStep 0 = .ok (.aload_n 0, 1) := by decide +kernel
theorem dX2_makeStep_1 : decode cX2_makeStep 1 = .ok (.getfield 31, 3) := by decide +kernel
theorem dX2_makeStep_4 : decode cX2_makeStep 4 = .ok (.aload 4, 2) := by decide +kernel
theorem dX2_makeStep_6 : decode cX2_makeStep 6 = .ok (.aload_n 0, 1) := by decide +kernel
theorem dX2_makeStep_7 : decode cX2_makeStep 7 = .ok (.getfield 34, 3) := by decide +kernel
theorem dX2_makeStep_10 : decode cX2_makeStep 10 = .ok (.invokevirtual 85, 3) := by decide +kernel
theorem dX2_makeStep_13 : decode cX2_makeStep 13 = .ok (.aload_n 0, 1) := by decide +kernel
theorem dX2_makeStep_14 : decode cX2_makeStep 14 = .ok (.getfield 31, 3) := by decide +kernel
theorem dX2_makeStep_17 : decode cX2_makeStep 17 = .ok (.invokevirtual 164, 3) := by decide +kernel
theorem dX2_makeStep_20 : decode cX2_makeStep 20 = .ok (.lstore 5, 2) := by decide +kernel
theorem dX2_makeStep_22 : decode cX2_makeStep 22 = .ok (.lload 5, 2) := by decide +kernel
theorem dX2_makeStep_24 : decode cX2_makeStep 24 = .ok (.lconst 0, 1) := by decide +kernel
theorem dX2_makeStep_25 : decode cX2_makeStep 25 = .ok (.lcmp, 1) := by decide +kernel
theorem dX2_makeStep_26 : decode cX2_makeStep 26 = .ok (.ifCond .eq 6, 3) := by decide +kernel
theorem dX2_makeStep_29 : decode cX2_makeStep 29 = .ok (.lload 5, 2) := by decide +kernel
theorem dX2_makeStep_31 : decode cX2_makeStep 31 = .ok (.lreturn, 1) := by decide +kernel
theorem dX2_makeStep_32 : decode cX2_makeStep 32 = .ok (.aload_n 0, 1) := by decide +kernel
theorem dX2_makeStep_33 : decode cX2_makeStep 33 = .ok (.getfield 27, 3) := by decide +kernel
theorem dX2_makeStep_36 : decode cX2_makeStep 36 = .ok (.aload_n 0, 1) := by decide +kernel
theorem dX2_makeStep_37 : decode cX2_makeStep 37 = .ok (.getfield 31, 3) := by decide +kernel
theorem dX2_makeStep_40 : decode cX2_makeStep 40 = .ok (.iload_n 3, 1) := by decide +kernel
theorem dX2_makeStep_41 : decode cX2_makeStep 41 = .ok (.aload_n 0, 1) := by decide +kernel
theorem dX2_makeStep_42 : decode cX2_makeStep 42 = .ok (.getfield 37, 3) := by decide +kernel
theorem dX2_makeStep_45 : decode cX2_makeStep 45 = .ok (.iconst (-1), 1) := by decide +kernel
theorem dX2_makeStep_46 : decode cX2_makeStep 46 = .ok (.invokevirtual 77, 3) := by decide +kernel
theorem dX2_makeStep_49 : decode cX2_makeStep 49 = .ok (.aload_n 0, 1) := by decide +kernel
theorem dX2_makeStep_50 : decode cX2_makeStep 50 = .ok (.getfield 27, 3) := by decide +kernel
theorem dX2_makeStep_53 : decode cX2_makeStep 53 = .ok (.iconst 0, 1) := by decide +kernel
theorem dX2_makeStep_54 : decode cX2_makeStep 54 = .ok (.aload_n 0, 1) := by decide +kernel
theorem dX2_makeStep_55 : decode cX2_makeStep 55 = .ok (.getfield 27, 3) := by decide +kernel
theorem dX2_makeStep_58 : decode cX2_makeStep 58 = .ok (.iconst 0, 1) := by decide +kernel
theorem dX2_makeStep_59 : decode cX2_makeStep 59 = .ok (.invokevirtual 63, 3) := by decide +kernel
theorem dX2_makeStep_62 : decode cX2_makeStep 62 = .ok (.lload_n 1, 1) := by decide +kernel
theorem dX2_makeStep_63 : decode cX2_makeStep 63 = .ok (.ladd, 1) := by decide +kernel
theorem dX2_makeStep_64 : decode cX2_makeStep 64 = .ok (.invokevirtual 52, 3) := by decide +kernel
theorem dX2_makeStep_67 : decode cX2_makeStep 67 = .ok (.aload_n 0, 1) := by decide +kernel
theorem dX2_makeStep_68 : decode cX2_makeStep 68 = .ok (.getfield 27, 3) := by decide +kernel
theorem dX2_makeStep_71 : decode cX2_makeStep 71 = .ok (.invokevirtual 56, 3) := by decide +kernel
theorem dX2_makeStep_74 : decode cX2_makeStep 74 = .ok (.aload_n 0, 1) := by decide +kernel
theorem dX2_makeStep_75 : decode cX2_makeStep 75 = .ok (.getfield 27, 3) := by decide +kernel
theorem dX2_makeStep_78 : decode cX2_makeStep 78 = .ok (.invokevirtual 164, 3) := by decide +kernel
theorem dX2_makeStep_81 : decode cX2_makeStep 81 = .ok (.lreturn, 1) := by decide +kernel
theorem dX3_init_0 : decode cX3_init 0 = .ok (.aload_n 0, 1) := by decide +kernel
theorem dX3_init_1 : decode cX3_init 1 = .ok (.invokespecial 1, 3) := by decide +kernel
theorem dX3_init_4 : decode cX3_init 4 = .ok (.aload_n 0, 1) := by decide +kernel
theorem dX3_init_5 : decode cX3_init 5 = .ok (.sipush 768, 3) := by decide +kernel
theorem dX3_init_8 : decode cX3_init 8 = .ok (.newarray .long, 2) := by decide +kernel
theorem dX3_init_10 : decode cX3_init 10 = .ok (.putfield 7, 3) := by decide +kernel
theorem dX3_init_13 : decode cX3_init 13 = .ok (.aload_n 0, 1) := by decide +kernel
theorem dX3_init_14 : decode cX3_init 14 = .ok (.bipush 12, 2) := by decide +kernel
theorem dX3_init_16 : decode cX3_init 16 = .ok (.newarray .int, 2) := by decide +kernel
theorem dX3_init_18 : decode cX3_init 18 = .ok (.putfield 13, 3) := by decide +kernel
theorem dX3_init_21 : decode cX3_init 21 = .ok (.aload_n 0, 1) := by decide +kernel
theorem dX3_init_22 : decode cX3_init 22 = .ok (.bipush 17, 2) := by decide +kernel
theorem dX3_init_24 : decode cX3_init 24 = .ok (.newarray .int, 2) := by decide +kernel
theorem dX3_init_26 : decode cX3_init 26 = .ok (.putfield 17, 3) := by decide +kernel
theorem dX3_init_29 : decode cX3_init 29 = .ok (.aload_n 0, 1) := by decide +kernel
theorem dX3_init_30 : decode cX3_init 30 = .ok (.bipush 9, 2) := by decide +kernel
theorem dX3_init_32 : decode cX3_init 32 = .ok (.newarray .int, 2) := by decide +kernel
theorem dX3_init_34 : decode cX3_init 34 = .ok (.dup, 1) := by decide +kernel
theorem dX3_init_35 : decode cX3_init 35 = .ok (.iconst 0, 1) := by decide +kernel
theorem dX3_init_36 : decode cX3_init 36 = .ok (.ldc 20, 2) := by decide +kernel
theorem dX3_init_38 : decode cX3_init 38 = .ok (.iastore, 1) := by decide +kernel
theorem dX3_init_39 : decode cX3_init 39 = .ok (.dup, 1) := by decide +kernel
theorem dX3_init_40 : decode cX3_init 40 = .ok (.iconst 1, 1) := by decide +kernel
theorem dX3_init_41 : decode cX3_init 41 = .ok (.ldc 21, 2) := by decide +kernel
theorem dX3_init_43 : decode cX3_init 43 = .ok (.iastore, 1) := by decide +kernel
theorem dX3_init_44 : decode cX3_init 44 = .ok (.dup, 1) := by decide +kernel
theorem dX3_init_45 : decode cX3_init 45 = .ok (.iconst 2, 1) := by decide +kernel
theorem dX3_init_46 : decode cX3_init 46 = .ok (.ldc 22, 2) := by decide +kernel
theorem dX3_init_48 : decode cX3_init 48 = .ok (.iastore, 1) := by decide +kernel
theorem dX3_init_49 : decode cX3_init 49 = .ok (.dup, 1) := by decide +kernel
theorem dX3_init_50 : decode cX3_init 50 = .ok (.iconst 3, 1) := by decide +kernel
theorem dX3_init_51 : decode cX3_init 51 = .ok (.ldc 23, 2) := by decide +kernel
theorem dX3_init_53 : decode cX3_init 53 = .ok (.iastore, 1) := by decide +kernel
theorem dX3_init_54 : decode cX3_init 54 = .ok (.dup, 1) := by decide +kernel
theorem dX3_init_55 : decode cX3_init 55 = .ok (.iconst 4, 1) := by decide +kernel
theorem dX3_init_56 : decode cX3_init 56 = .ok (.ldc 24, 2) := by decide +kernel
theorem dX3_init_58 : decode cX3_init 58 = .ok (.iastore, 1) := by decide +kernel
theorem dX3_init_59 : decode cX3_init 59 = .ok (.dup, 1) := by decide +kernel
theorem dX3_init_60 : decode cX3_init 60 = .ok (.iconst 5, 1) := by decide +kernel
theorem dX3_init_61 : decode cX3_init 61 = .ok (.ldc 25, 2) := by decide +kernel
theorem dX3_init_63 : decode cX3_init 63 = .ok (.iastore, 1) := by decide +kernel
theorem dX3_init_64 : decode cX3_init 64 = .ok (.dup, 1) := by decide +kernel
theorem dX3_init_65 : decode cX3_init 65 = .ok (.bipush 6, 2) := by decide +kernel
theorem dX3_init_67 : decode cX3_init 67 = .ok (.ldc 26, 2) := by decide +kernel
theorem dX3_init_69 : decode cX3_init 69 = .ok (.iastore, 1) := by decide +kernel
theorem dX3_init_70 : decode cX3_init 70 = .ok (.dup, 1) := by decide +kernel
theorem dX3_init_71 : decode cX3_init 71 = .ok (.bipush 7, 2) := by decide +kernel
theorem dX3_init_73 : decode cX3_init 73 = .ok (.ldc 27, 2) := by decide +kernel
theorem dX3_init_75 : decode cX3_init 75 = .ok (.iastore, 1) := by decide +kernel
theorem dX3_init_76 : decode cX3_init 76 = .ok (.dup, 1) := by decide +kernel
theorem dX3_init_77 : decode cX3_init 77 = .ok (.bipush 8, 2) := by decide +kernel
theorem dX3_init_79 : decode cX3_init 79 = .ok (.iconst 0, 1) := by decide +kernel
theorem dX3_init_80 : decode cX3_init 80 = .ok (.iastore, 1) := by decide +kernel
theorem dX3_init_81 : decode cX3_init 81 = .ok (.putfield 28, 3) := by decide +kernel
theorem dX3_init_84 : decode cX3_init 84 = .ok (.aload_n 0, 1) := by decide +kernel
theorem dX3_init_85 : decode cX3_init 85 = .ok (.bipush 24, 2) := by decide +kernel
theorem dX3_init_87 : decode cX3_init 87 = .ok (.newarray .int, 2) := by decide +kernel
theorem dX3_init_89 : decode cX3_init 89 = .ok (.putfield 31, 3) := by decide +kernel
theorem dX3_init_92 : decode cX3_init 92 = .ok (.aload_n 0, 1) := by decide +kernel
theorem dX3_init_93 : decode cX3_init 93 = .ok (.sipush 200, 3) := by decide +kernel
theorem dX3_init_96 : decode cX3_init 96 = .ok (.newarray .int, 2) := by decide +kernel
theorem dX3_init_98 : decode cX3_init 98 = .ok (.putfield 34, 3) := by decide +kernel
theorem dX3_init_101 : decode cX3_init 101 = .ok (.return_, 1) := by decide +kernel
theorem dX3_in_0 : decode cX3_in 0 = .ok (.lload_n 0, 1) := by decide +kernel
theorem dX3_in_1 : decode cX3_in 1 = .ok (.lload_n 2, 1) := by decide +kernel
theorem dX3_in_2 : decode cX3_in 2 = .ok (.lcmp, 1) := by decide +kernel
theorem dX3_in_3 : decode cX3_in 3 = .ok (.ifCond .lt 14, 3) := by decide +kernel
theorem dX3_in_6 : decode cX3_in 6 = .ok (.lload_n 0, 1) := by decide +kernel
theorem dX3_in_7 : decode cX3_in 7 = .ok (.lload 4, 2) := by decide +kernel
theorem dX3_in_9 : decode cX3_in 9 = .ok (.lcmp, 1) := by decide +kernel
theorem dX3_in_10 : decode cX3_in 10 = .ok (.ifCond .gt 7, 3) := by decide +kernel
theorem dX3_in_13 : decode cX3_in 13 = .ok (.iconst 1, 1) := by decide +kernel
theorem dX3_in_14 : decode cX3_in 14 = .ok (.goto 4, 3) := by decide +kernel
theorem dX3_in_17 : decode cX3_in 17 = .ok (.iconst 0, 1) := by decide +kernel
theorem dX3_in_18 : decode cX3_in 18 = .ok (.ireturn, 1) := by decide +kernel
set_option maxRecDepth 20000 in
theorem ggX3_isSeries_X3_in : GoodIn wsX3_isSeries wsX3_in := goodIn_r _ [5] (by decide +kernel) (by decide +kernel)
set_option maxRecDepth 20000 in
theorem gX3_isSeries_X3_in : GoodIn wsX3_isSeries (va_wsS RX3 39 yX3_in wsX3_in) := goodIn_app (goodIn_of _ (by decide +kernel)) ggX3_isSeries_X3_in
theorem dX3_isSeries_0 : decode cX3_isSeries 0 = .ok (.iload_n 0, 1) := by decide +kernel
theorem dX3_isSeries_1 : decode cX3_isSeries 1 = .ok (.i2l, 1) := by decide +kernel
theorem dX3_isSeries_2 : decode cX3_isSeries 2 = .ok (.lconst 0, 1) := by decide +kernel
theorem dX3_isSeries_3 : decode cX3_isSeries 3 = .ok (.ldc2_w 37, 3) := by decide +kernel
theorem dX3_isSeries_6 : decode cX3_isSeries 6 = .ok (.invokestatic 39, 3) := by decide +kernel
theorem dX3_isSeries_9 : decode cX3_isSeries 9 = .ok (.ireturn, 1) := by decide +kernel
set_option maxRecDepth 20000 in
theorem ggX3_isPoint_X3_in : GoodIn wsX3_isPoint wsX3_in := goodIn_r _ [6] (by decide +kernel) (by decide +kernel)
set_option maxRecDepth 20000 in
theorem gX3_isPoint_X3_in : GoodIn wsX3_isPoint (va_wsS RX3 39 yX3_in wsX3_in) := goodIn_app (goodIn_of _ (by decide +kernel)) ggX3_isPoint_X3_in
theorem dX3_isPoint_0 : decode cX3_isPoint 0 = .ok (.iload_n 0, 1) := by decide +kernel
theorem dX3_isPoint_1 : decode cX3_isPoint 1 = .ok (.i2l, 1) := by decide +kernel
theorem dX3_isPoint_2 : decode cX3_isPoint 2 = .ok (.ldc2_w 43, 3) := by decide +kernel
theorem dX3_isPoint_5 : decode cX3_isPoint 5 = .ok (.ldc2_w 45, 3) := by decide +kernel
theorem dX3_isPoint_8 : decode cX3_isPoint 8 = .ok (.invokestatic 39, 3) := by decide +kernel
theorem dX3_isPoint_11 : decode cX3_isPoint 11 = .ok (.ireturn, 1) := by decide +kernel
theorem dX3_size_0 : decode cX3_size 0 = .ok (.lload_n 0, 1) := by decide +kernel
theorem dX3_size_1 : decode cX3_size 1 = .ok (.lconst 0, 1) := by decide +kernel
theorem dX3_size_2 : decode cX3_size 2 = .ok (.lcmp, 1) := by decide +kernel
theorem dX3_size_3 : decode cX3_size 3 = .ok (.ifCond .ge 8, 3) := by decide +kernel
theorem dX3_size_6 : decode cX3_size 6 = .ok (.lload_n 0, 1) := by decide +kernel
theorem dX3_size_7 : decode cX3_size 7 = .ok (.lneg, 1) := by decide +kernel
theorem dX3_size_8 : decode cX3_size 8 = .ok (.goto 4, 3) := by decide +kernel
theorem dX3_size_11 : decode cX3_size 11 = .ok (.lload_n 0, 1) := by decide +kernel
theorem dX3_size_12 : decode cX3_size 12 = .ok (.lreturn, 1) := by decide +kernel
theorem dX3_rounded_0 : decode cX3_rounded 0 = .ok (.lload_n 0, 1) := by decide +kernel
theorem dX3_rounded_1 : decode cX3_rounded 1 = .ok (.lload_n 2, 1) := by decide +kernel
theorem dX3_rounded_2 : decode cX3_rounded 2 = .ok (.ldiv, 1) := by decide +kernel
theorem dX3_rounded_3 : decode cX3_rounded 3 = .ok (.lstore 4, 2) := by decide +kernel
theorem dX3_rounded_5 : decode cX3_rounded 5 = .ok (.lload 4, 2) := by decide +kernel
theorem dX3_rounded_7 : decode cX3_rounded 7 = .ok (.lload_n 2, 1) := by decide +kernel
theorem dX3_rounded_8 : decode cX3_rounded 8 = .ok (.lmul, 1) := by decide +kernel
theorem dX3_rounded_9 : decode cX3_rounded 9 = .ok (.lload_n 0, 1) := by decide +kernel
theorem dX3_rounded_10 : decode cX3_rounded 10 = .ok (.lcmp, 1) := by decide +kernel
theorem dX3_rounded_11 : decode cX3_rounded 11 = .ok (.ifCond .le 10, 3) := by decide +kernel
theorem dX3_rounded_14 : decode cX3_rounded 14 = .ok (.lload 4, 2) := by decide +kernel
theorem dX3_rounded_16 : decode cX3_rounded 16 = .ok (.lconst 1, 1) := by decide +kernel
theorem dX3_rounded_17 : decode cX3_rounded 17 = .ok (.lsub, 1) := by decide +kernel
theorem dX3_rounded_18 : decode cX3_rounded 18 = .ok (.goto 5, 3) := by decide +kernel
theorem dX3_rounded_21 : decode cX3_rounded 21 = .ok (.lload 4, 2) := by decide +kernel
theorem dX3_rounded_23 : decode cX3_rounded 23 = .ok (.lstore 4, 2) := by decide +kernel
theorem dX3_rounded_25 : decode cX3_rounded 25 = .ok (.ldc2_w 47, 3) := by decide +kernel
theorem dX3_rounded_28 : decode cX3_rounded 28 = .ok (.lload_n 0, 1) := by decide +kernel
theorem dX3_rounded_29 : decode cX3_rounded 29 = .ok (.lload 4, 2) := by decide +kernel
theorem dX3_rounded_31 : decode cX3_rounded 31 = .ok (.lload_n 2, 1) := by decide +kernel
theorem dX3_rounded_32 : decode cX3_rounded 32 = .ok (.lmul, 1) := by decide +kernel
theorem dX3_rounded_33 : decode cX3_rounded 33 = .ok (.lsub, 1) := by decide +kernel
theorem dX3_rounded_34 : decode cX3_rounded 34 = .ok (.lmul, 1) := by decide +kernel
theorem dX3_rounded_35 : decode cX3_rounded 35 = .ok (.lload_n 2, 1) := by decide +kernel
theorem dX3_rounded_36 : decode cX3_rounded 36 = .ok (.lcmp, 1) := by decide +kernel
theorem dX3_rounded_37 : decode cX3_rounded 37 = .ok (.ifCond .lt 10, 3) := by decide +kernel
theorem dX3_rounded_40 : decode cX3_rounded 40 = .ok (.lload 4, 2) := by decide +kernel
end
section
theorem dX3_rounded_42 : decode cX3_rounded 42 = .ok (.lconst 1, 1) := by decide +kernel
theorem dX3_rounded_43 : decode cX3_rounded 43 = .ok (.ladd, 1) := by decide +kernel
theorem dX3_rounded_44 : decode cX3_rounded 44 = .ok (.goto 5, 3) := by decide +kernel
theorem dX3_rounded_47 : decode cX3_rounded 47 = .ok (.lload 4, 2) := by decide +kernel
theorem dX3_rounded_49 : decode cX3_rounded 49 = .ok (.lreturn, 1) := by decide +kernel
theorem dX3_of_0 : decode cX3_of 0 = .ok (.aload_n 0, 1) := by decide +kernel
theorem dX3_of_1 : decode cX3_of 1 = .ok (.getfield 7, 3) := by decide +kernel
theorem dX3_of_4 : decode cX3_of 4 = .ok (.bipush 64, 2) := by decide +kernel
theorem dX3_of_6 : decode cX3_of 6 = .ok (.iload_n 1, 1) := by decide +kernel
theorem dX3_of_7 : decode cX3_of 7 = .ok (.imul, 1) := by decide +kernel
theorem dX3_of_8 : decode cX3_of 8 = .ok (.iload_n 2, 1) := by decide +kernel
theorem dX3_of_9 : decode cX3_of 9 = .ok (.iadd, 1) := by decide +kernel
theorem dX3_of_10 : decode cX3_of 10 = .ok (.laload, 1) := by decide +kernel
theorem dX3_of_11 : decode cX3_of 11 = .ok (.lreturn, 1) := by decide +kernel
theorem dX3_sets_0 : decode cX3_sets 0 = .ok (.aload_n 0, 1) := by decide +kernel
theorem dX3_sets_1 : decode cX3_sets 1 = .ok (.getfield 7, 3) := by decide +kernel
theorem dX3_sets_4 : decode cX3_sets 4 = .ok (.bipush 64, 2) := by decide +kernel
theorem dX3_sets_6 : decode cX3_sets 6 = .ok (.iload_n 1, 1) := by decide +kernel
theorem dX3_sets_7 : decode cX3_sets 7 = .ok (.imul, 1) := by decide +kernel
theorem dX3_sets_8 : decode cX3_sets 8 = .ok (.iload_n 2, 1) := by decide +kernel
theorem dX3_sets_9 : decode cX3_sets 9 = .ok (.iadd, 1) := by decide +kernel
theorem dX3_sets_10 : decode cX3_sets 10 = .ok (.lload_n 3, 1) := by decide +kernel
theorem dX3_sets_11 : decode cX3_sets 11 = .ok (.lastore, 1) := by decide +kernel
theorem dX3_sets_12 : decode cX3_sets 12 = .ok (.return_, 1) := by decide +kernel
set_option maxRecDepth 20000 in
theorem ggX3_clears_X3_sets : GoodIn wsX3_clears wsX3_sets := goodIn_r _ [6, 7, 8, 9, 10, 11, 12, 13, 14, 15] (by decide +kernel) (by decide +kernel)
set_option maxRecDepth 20000 in
theorem gX3_clears_X3_sets : GoodIn wsX3_clears (wsV RX3 49 RX3 yX3_sets wsX3_sets) := goodIn_app (goodIn_of _ (by decide +kernel)) ggX3_clears_X3_sets
theorem dX3_clears_0 : decode cX3_clears 0 = .ok (.aload_n 0, 1) := by decide +kernel
theorem dX3_clears_1 : decode cX3_clears 1 = .ok (.getfield 13, 3) := by decide +kernel
theorem dX3_clears_4 : decode cX3_clears 4 = .ok (.iload_n 1, 1) := by decide +kernel
theorem dX3_clears_5 : decode cX3_clears 5 = .ok (.iload_n 2, 1) := by decide +kernel
theorem dX3_clears_6 : decode cX3_clears 6 = .ok (.iastore, 1) := by decide +kernel
theorem dX3_clears_7 : decode cX3_clears 7 = .ok (.iconst 0, 1) := by decide +kernel
theorem dX3_clears_8 : decode cX3_clears 8 = .ok (.istore_n 3, 1) := by decide +kernel
theorem dX3_clears_9 : decode cX3_clears 9 = .ok (.iload_n 3, 1) := by decide +kernel
theorem dX3_clears_10 : decode cX3_clears 10 = .ok (.bipush 64, 2) := by decide +kernel
theorem dX3_clears_12 : decode cX3_clears 12 = .ok (.if_icmp .ge 16, 3) := by decide +kernel
theorem dX3_clears_15 : decode cX3_clears 15 = .ok (.aload_n 0, 1) := by decide +kernel
theorem dX3_clears_16 : decode cX3_clears 16 = .ok (.iload_n 1, 1) := by decide +kernel
theorem dX3_clears_17 : decode cX3_clears 17 = .ok (.iload_n 3, 1) := by decide +kernel
theorem dX3_clears_18 : decode cX3_clears 18 = .ok (.lconst 0, 1) := by decide +kernel
theorem dX3_clears_19 : decode cX3_clears 19 = .ok (.invokevirtual 49, 3) := by decide +kernel
theorem dX3_clears_22 : decode cX3_clears 22 = .ok (.iinc 3 1, 3) := by decide +kernel
theorem dX3_clears_25 : decode cX3_clears 25 = .ok (.goto (-16), 3) := by decide +kernel
theorem dX3_clears_28 : decode cX3_clears 28 = .ok (.return_, 1) := by decide +kernel
set_option maxRecDepth 20000 in
theorem ggX3_copies_X3_of : GoodIn wsX3_copies wsX3_of := goodIn_r _ [6, 7, 12, 13, 14, 15, 16, 17, 18, 19] (by decide +kernel) (by decide +kernel)
set_option maxRecDepth 20000 in
theorem gX3_copies_X3_of : GoodIn wsX3_copies (wsV RX3 53 RX3 yX3_of wsX3_of) := goodIn_app (goodIn_of _ (by decide +kernel)) ggX3_copies_X3_of
set_option maxRecDepth 20000 in
theorem ggX3_copies_X3_sets : GoodIn wsX3_copies wsX3_sets := goodIn_r _ [11, 7, 12, 13, 14, 15, 16, 17, 18, 19] (by decide +kernel) (by decide +kernel)
set_option maxRecDepth 20000 in
theorem gX3_copies_X3_sets : GoodIn wsX3_copies (wsV RX3 49 RX3 yX3_sets wsX3_sets) := goodIn_app (goodIn_of _ (by decide +kernel)) ggX3_copies_X3_sets
theorem dX3_copies_0 : decode cX3_copies 0 = .ok (.aload_n 0, 1) := by decide +kernel
theorem dX3_copies_1 : decode cX3_copies 1 = .ok (.getfield 13, 3) := by decide +kernel
theorem dX3_copies_4 : decode cX3_copies 4 = .ok (.iload_n 2, 1) := by decide +kernel
theorem dX3_copies_5 : decode cX3_copies 5 = .ok (.aload_n 0, 1) := by decide +kernel
theorem dX3_copies_6 : decode cX3_copies 6 = .ok (.getfield 13, 3) := by decide +kernel
theorem dX3_copies_9 : decode cX3_copies 9 = .ok (.iload_n 1, 1) := by decide +kernel
theorem dX3_copies_10 : decode cX3_copies 10 = .ok (.iaload, 1) := by decide +kernel
theorem dX3_copies_11 : decode cX3_copies 11 = .ok (.iastore, 1) := by decide +kernel
theorem dX3_copies_12 : decode cX3_copies 12 = .ok (.iconst 0, 1) := by decide +kernel
theorem dX3_copies_13 : decode cX3_copies 13 = .ok (.istore_n 3, 1) := by decide +kernel
theorem dX3_copies_14 : decode cX3_copies 14 = .ok (.iload_n 3, 1) := by decide +kernel
theorem dX3_copies_15 : decode cX3_copies 15 = .ok (.bipush 64, 2) := by decide +kernel
theorem dX3_copies_17 : decode cX3_copies 17 = .ok (.if_icmp .ge 21, 3) := by decide +kernel
theorem dX3_copies_20 : decode cX3_copies 20 = .ok (.aload_n 0, 1) := by decide +kernel
theorem dX3_copies_21 : decode cX3_copies 21 = .ok (.iload_n 2, 1) := by decide +kernel
theorem dX3_copies_22 : decode cX3_copies 22 = .ok (.iload_n 3, 1) := by decide +kernel
theorem dX3_copies_23 : decode cX3_copies 23 = .ok (.aload_n 0, 1) := by decide +kernel
theorem dX3_copies_24 : decode cX3_copies 24 = .ok (.iload_n 1, 1) := by decide +kernel
theorem dX3_copies_25 : decode cX3_copies 25 = .ok (.iload_n 3, 1) := by decide +kernel
theorem dX3_copies_26 : decode cX3_copies 26 = .ok (.invokevirtual 53, 3) := by decide +kernel
theorem dX3_copies_29 : decode cX3_copies 29 = .ok (.invokevirtual 49, 3) := by decide +kernel
theorem dX3_copies_32 : decode cX3_copies 32 = .ok (.iinc 3 1, 3) := by decide +kernel
theorem dX3_copies_35 : decode cX3_copies 35 = .ok (.goto (-21), 3) := by decide +kernel
theorem dX3_copies_38 : decode cX3_copies 38 = .ok (.return_, 1) := by decide +kernel
set_option maxRecDepth 20000 in
theorem ggX3_trims_X3_of : GoodIn wsX3_trims wsX3_of := goodIn_r _ [9, 10, 14, 15, 16, 17, 18, 19, 20, 21] (by decide +kernel) (by decide +kernel)
set_option maxRecDepth 20000 in
theorem gX3_trims_X3_of : GoodIn wsX3_trims (wsV RX3 53 RX3 yX3_of wsX3_of) := goodIn_app (goodIn_of _ (by decide +kernel)) ggX3_trims_X3_of
set_option maxRecDepth 20000 in
theorem ggX3_trims_X3_size : GoodIn wsX3_trims wsX3_size := goodIn_r _ [13] (by decide +kernel) (by decide +kernel)
set_option maxRecDepth 20000 in
theorem gX3_trims_X3_size : GoodIn wsX3_trims (va_wsS RX3 59 yX3_size wsX3_size) := goodIn_app (goodIn_of _ (by decide +kernel)) ggX3_trims_X3_size
theorem dX3_trims_0 : decode cX3_trims 0 = .ok (.aload_n 0, 1) := by decide +kernel
theorem dX3_trims_1 : decode cX3_trims 1 = .ok (.getfield 13, 3) := by decide +kernel
theorem dX3_trims_4 : decode cX3_trims 4 = .ok (.iload_n 1, 1) := by decide +kernel
theorem dX3_trims_5 : decode cX3_trims 5 = .ok (.iaload, 1) := by decide +kernel
theorem dX3_trims_6 : decode cX3_trims 6 = .ok (.ifCond .le 32, 3) := by decide +kernel
theorem dX3_trims_9 : decode cX3_trims 9 = .ok (.aload_n 0, 1) := by decide +kernel
theorem dX3_trims_10 : decode cX3_trims 10 = .ok (.iload_n 1, 1) := by decide +kernel
theorem dX3_trims_11 : decode cX3_trims 11 = .ok (.aload_n 0, 1) := by decide +kernel
theorem dX3_trims_12 : decode cX3_trims 12 = .ok (.getfield 13, 3) := by decide +kernel
theorem dX3_trims_15 : decode cX3_trims 15 = .ok (.iload_n 1, 1) := by decide +kernel
theorem dX3_trims_16 : decode cX3_trims 16 = .ok (.iaload, 1) := by decide +kernel
theorem dX3_trims_17 : decode cX3_trims 17 = .ok (.invokevirtual 53, 3) := by decide +kernel
theorem dX3_trims_20 : decode cX3_trims 20 = .ok (.lconst 0, 1) := by decide +kernel
theorem dX3_trims_21 : decode cX3_trims 21 = .ok (.lcmp, 1) := by decide +kernel
theorem dX3_trims_22 : decode cX3_trims 22 = .ok (.ifCond .ne 16, 3) := by decide +kernel
theorem dX3_trims_25 : decode cX3_trims 25 = .ok (.aload_n 0, 1) := by decide +kernel
theorem dX3_trims_26 : decode cX3_trims 26 = .ok (.getfield 13, 3) := by decide +kernel
theorem dX3_trims_29 : decode cX3_trims 29 = .ok (.iload_n 1, 1) := by decide +kernel
theorem dX3_trims_30 : decode cX3_trims 30 = .ok (.dup2, 1) := by decide +kernel
theorem dX3_trims_31 : decode cX3_trims 31 = .ok (.iaload, 1) := by decide +kernel
theorem dX3_trims_32 : decode cX3_trims 32 = .ok (.iconst 1, 1) := by decide +kernel
theorem dX3_trims_33 : decode cX3_trims 33 = .ok (.isub, 1) := by decide +kernel
theorem dX3_trims_34 : decode cX3_trims 34 = .ok (.iastore, 1) := by decide +kernel
theorem dX3_trims_35 : decode cX3_trims 35 = .ok (.goto (-35), 3) := by decide +kernel
theorem dX3_trims_38 : decode cX3_trims 38 = .ok (.aload_n 0, 1) := by decide +kernel
theorem dX3_trims_39 : decode cX3_trims 39 = .ok (.getfield 13, 3) := by decide +kernel
theorem dX3_trims_42 : decode cX3_trims 42 = .ok (.iload_n 1, 1) := by decide +kernel
theorem dX3_trims_43 : decode cX3_trims 43 = .ok (.iaload, 1) := by decide +kernel
theorem dX3_trims_44 : decode cX3_trims 44 = .ok (.bipush 24, 2) := by decide +kernel
theorem dX3_trims_46 : decode cX3_trims 46 = .ok (.if_icmp .le 7, 3) := by decide +kernel
theorem dX3_trims_49 : decode cX3_trims 49 = .ok (.ldc2_w 57, 3) := by decide +kernel
theorem dX3_trims_52 : decode cX3_trims 52 = .ok (.lreturn, 1) := by decide +kernel
theorem dX3_trims_53 : decode cX3_trims 53 = .ok (.iconst 0, 1) := by decide +kernel
theorem dX3_trims_54 : decode cX3_trims 54 = .ok (.istore_n 2, 1) := by decide +kernel
theorem dX3_trims_55 : decode cX3_trims 55 = .ok (.iload_n 2, 1) := by decide +kernel
theorem dX3_trims_56 : decode cX3_trims 56 = .ok (.aload_n 0, 1) := by decide +kernel
theorem dX3_trims_57 : decode cX3_trims 57 = .ok (.getfield 13, 3) := by decide +kernel
theorem dX3_trims_60 : decode cX3_trims 60 = .ok (.iload_n 1, 1) := by decide +kernel
theorem dX3_trims_61 : decode cX3_trims 61 = .ok (.iaload, 1) := by decide +kernel
theorem dX3_trims_62 : decode cX3_trims 62 = .ok (.if_icmp .gt 29, 3) := by decide +kernel
theorem dX3_trims_65 : decode cX3_trims 65 = .ok (.aload_n 0, 1) := by decide +kernel
theorem dX3_trims_66 : decode cX3_trims 66 = .ok (.iload_n 1, 1) := by decide +kernel
theorem dX3_trims_67 : decode cX3_trims 67 = .ok (.iload_n 2, 1) := by decide +kernel
theorem dX3_trims_68 : decode cX3_trims 68 = .ok (.invokevirtual 53, 3) := by decide +kernel
theorem dX3_trims_71 : decode cX3_trims 71 = .ok (.invokestatic 59, 3) := by decide +kernel
theorem dX3_trims_74 : decode cX3_trims 74 = .ok (.ldc2_w 63, 3) := by decide +kernel
theorem dX3_trims_77 : decode cX3_trims 77 = .ok (.lcmp, 1) := by decide +kernel
theorem dX3_trims_78 : decode cX3_trims 78 = .ok (.ifCond .le 7, 3) := by decide +kernel
theorem dX3_trims_81 : decode cX3_trims 81 = .ok (.ldc2_w 65, 3) := by decide +kernel
theorem dX3_trims_84 : decode cX3_trims 84 = .ok (.lreturn, 1) := by decide +kernel
theorem dX3_trims_85 : decode cX3_trims 85 = .ok (.iinc 2 1, 3) := by decide +kernel
theorem dX3_trims_88 : decode cX3_trims 88 = .ok (.goto (-33), 3) := by decide +kernel
theorem dX3_trims_91 : decode cX3_trims 91 = .ok (.lconst 0, 1) := by decide +kernel
theorem dX3_trims_92 : decode cX3_trims 92 = .ok (.lreturn, 1) := by decide +kernel
set_option maxRecDepth 20000 in
theorem ggX3_gives_X3_trims : GoodIn wsX3_gives wsX3_trims := goodIn_r _ [6, 1, 7, 8, 9, 10, 11, 12, 5, 13, 14, 15, 16, 17, 26, 27, 28, 29, 30, 31, 32, 33] (by decide +kernel) (by decide +kernel)
set_option maxRecDepth 20000 in
theorem gX3_gives_X3_trims : GoodIn wsX3_gives (wsV RX3 67 RX3 yX3_trims wsX3_trims) := goodIn_app (goodIn_of _ (by decide +kernel)) ggX3_gives_X3_trims
set_option maxRecDepth 20000 in
theorem ggX3_gives_X3_copies : GoodIn wsX3_gives wsX3_copies := goodIn_r _ [21, 1, 10, 11, 12, 5, 13, 14, 22, 23, 24, 25, 26, 27, 28, 29, 30, 31, 32, 33] (by decide +kernel) (by decide +kernel)
set_option maxRecDepth 20000 in
theorem gX3_gives_X3_copies : GoodIn wsX3_gives (wsV RX3 71 RX3 yX3_copies wsX3_copies) := goodIn_app (goodIn_of _ (by decide +kernel)) ggX3_gives_X3_copies
theorem dX3_gives_0 : decode cX3_gives 0 = .ok (.aload_n 0, 1) := by decide +kernel
theorem dX3_gives_1 : decode cX3_gives 1 = .ok (.bipush 8, 2) := by decide +kernel
theorem dX3_gives_3 : decode cX3_gives 3 = .ok (.invokevirtual 67, 3) := by decide +kernel
theorem dX3_gives_6 : decode cX3_gives 6 = .ok (.lstore_n 2, 1) := by decide +kernel
theorem dX3_gives_7 : decode cX3_gives 7 = .ok (.lload_n 2, 1) := by decide +kernel
theorem dX3_gives_8 : decode cX3_gives 8 = .ok (.lconst 0, 1) := by decide +kernel
theorem dX3_gives_9 : decode cX3_gives 9 = .ok (.lcmp, 1) := by decide +kernel
theorem dX3_gives_10 : decode cX3_gives 10 = .ok (.ifCond .eq 5, 3) := by decide +kernel
theorem dX3_gives_13 : decode cX3_gives 13 = .ok (.lload_n 2, 1) := by decide +kernel
theorem dX3_gives_14 : decode cX3_gives 14 = .ok (.lreturn, 1) := by decide +kernel
theorem dX3_gives_15 : decode cX3_gives 15 = .ok (.aload_n 0, 1) := by decide +kernel
theorem dX3_gives_16 : decode cX3_gives 16 = .ok (.bipush 8, 2) := by decide +kernel
theorem dX3_gives_18 : decode cX3_gives 18 = .ok (.iload_n 1, 1) := by decide +kernel
theorem dX3_gives_19 : decode cX3_gives 19 = .ok (.invokevirtual 71, 3) := by decide +kernel
theorem dX3_gives_22 : decode cX3_gives 22 = .ok (.aload_n 0, 1) := by decide +kernel
theorem dX3_gives_23 : decode cX3_gives 23 = .ok (.getfield 13, 3) := by decide +kernel
theorem dX3_gives_26 : decode cX3_gives 26 = .ok (.iload_n 1, 1) := by decide +kernel
theorem dX3_gives_27 : decode cX3_gives 27 = .ok (.iaload, 1) := by decide +kernel
theorem dX3_gives_28 : decode cX3_gives 28 = .ok (.i2l, 1) := by decide +kernel
theorem dX3_gives_29 : decode cX3_gives 29 = .ok (.lreturn, 1) := by decide +kernel
set_option maxRecDepth 20000 in
theorem ggX3_setCoefficient_X3_isSeries : GoodIn wsX3_setCoefficient wsX3_isSeries := goodIn_r _ [9, 10, 11, 12, 8, 13] (by decide +kernel) (by decide +kernel)
set_option maxRecDepth 20000 in
theorem gX3_setCoefficient_X3_isSeries : GoodIn wsX3_setCoefficient (va_wsS RX3 75 yX3_isSeries wsX3_isSeries) := goodIn_app (goodIn_of _ (by decide +kernel)) ggX3_setCoefficient_X3_isSeries
set_option maxRecDepth 20000 in
theorem ggX3_setCoefficient_X3_in : GoodIn wsX3_setCoefficient wsX3_in := goodIn_r _ [13] (by decide +kernel) (by decide +kernel)
set_option maxRecDepth 20000 in
theorem gX3_setCoefficient_X3_in : GoodIn wsX3_setCoefficient (va_wsS RX3 39 yX3_in wsX3_in) := goodIn_app (goodIn_of _ (by decide +kernel)) ggX3_setCoefficient_X3_in
set_option maxRecDepth 20000 in
theorem ggX3_setCoefficient_X3_copies : GoodIn wsX3_setCoefficient wsX3_copies := goodIn_r _ [17, 5, 18, 19, 20, 8, 21, 22, 23, 24, 25, 26, 40, 41, 42, 43, 44, 45, 46, 47] (by decide +kernel) (by decide +kernel)
set_option maxRecDepth 20000 in
theorem gX3_setCoefficient_X3_copies : GoodIn wsX3_setCoefficient (wsV RX3 71 RX3 yX3_copies wsX3_copies) := goodIn_app (goodIn_of _ (by decide +kernel)) ggX3_setCoefficient_X3_copies
set_option maxRecDepth 20000 in
theorem ggX3_setCoefficient_X3_sets : GoodIn wsX3_setCoefficient wsX3_sets := goodIn_r _ [26, 22, 40, 41, 42, 43, 44, 45, 46, 47] (by decide +kernel) (by decide +kernel)
set_option maxRecDepth 20000 in
theorem gX3_setCoefficient_X3_sets : GoodIn wsX3_setCoefficient (wsV RX3 49 RX3 yX3_sets wsX3_sets) := goodIn_app (goodIn_of _ (by decide +kernel)) ggX3_setCoefficient_X3_sets
set_option maxRecDepth 20000 in
theorem ggX3_setCoefficient_X3_gives : GoodIn wsX3_setCoefficient wsX3_gives := goodIn_r _ [30, 5, 31, 32, 33, 8, 34, 35, 3, 36, 18, 19, 20, 21, 22, 37, 38, 39, 14, 15, 16, 17, 23, 24, 25, 26, 40, 41, 42, 43, 44, 45, 46, 47] (by decide +kernel) (by decide +kernel)
set_option maxRecDepth 20000 in
theorem gX3_setCoefficient_X3_gives : GoodIn wsX3_setCoefficient (wsV RX3 85 RX3 yX3_gives wsX3_gives) := goodIn_app (goodIn_of _ (by decide +kernel)) ggX3_setCoefficient_X3_gives
theorem dX3_setCoefficient_0 : decode cX3_setCoefficient 0 = .ok (.iload_n 1, 1) := by decide +kernel
theorem dX3_setCoefficient_1 : decode cX3_setCoefficient 1 = .ok (.invokestatic 75, 3) := by decide +kernel
theorem dX3_setCoefficient_4 : decode cX3_setCoefficient 4 = .ok (.ifCond .eq 29, 3) := by decide +kernel
theorem dX3_setCoefficient_7 : decode cX3_setCoefficient 7 = .ok (.iload_n 2, 1) := by decide +kernel
theorem dX3_setCoefficient_8 : decode cX3_setCoefficient 8 = .ok (.i2l, 1) := by decide +kernel
theorem dX3_setCoefficient_9 : decode cX3_setCoefficient 9 = .ok (.lconst 0, 1) := by decide +kernel
theorem dX3_setCoefficient_10 : decode cX3_setCoefficient 10 = .ok (.ldc2_w 79, 3) := by decide +kernel
theorem dX3_setCoefficient_13 : decode cX3_setCoefficient 13 = .ok (.invokestatic 39, 3) := by decide +kernel
theorem dX3_setCoefficient_16 : decode cX3_setCoefficient 16 = .ok (.ifCond .eq 17, 3) := by decide +kernel
theorem dX3_setCoefficient_19 : decode cX3_setCoefficient 19 = .ok (.iload_n 3, 1) := by decide +kernel
theorem dX3_setCoefficient_20 : decode cX3_setCoefficient 20 = .ok (.i2l, 1) := by decide +kernel
theorem dX3_setCoefficient_21 : decode cX3_setCoefficient 21 = .ok (.ldc2_w 81, 3) := by decide +kernel
theorem dX3_setCoefficient_24 : decode cX3_setCoefficient 24 = .ok (.ldc2_w 63, 3) := by decide +kernel
theorem dX3_setCoefficient_27 : decode cX3_setCoefficient 27 = .ok (.invokestatic 39, 3) := by decide +kernel
theorem dX3_setCoefficient_30 : decode cX3_setCoefficient 30 = .ok (.ifCond .ne 7, 3) := by decide +kernel
theorem dX3_setCoefficient_33 : decode cX3_setCoefficient 33 = .ok (.ldc2_w 83, 3) := by decide +kernel
theorem dX3_setCoefficient_36 : decode cX3_setCoefficient 36 = .ok (.lreturn, 1) := by decide +kernel
theorem dX3_setCoefficient_37 : decode cX3_setCoefficient 37 = .ok (.aload_n 0, 1) := by decide +kernel
theorem dX3_setCoefficient_38 : decode cX3_setCoefficient 38 = .ok (.iload_n 1, 1) := by decide +kernel
theorem dX3_setCoefficient_39 : decode cX3_setCoefficient 39 = .ok (.bipush 8, 2) := by decide +kernel
theorem dX3_setCoefficient_41 : decode cX3_setCoefficient 41 = .ok (.invokevirtual 71, 3) := by decide +kernel
theorem dX3_setCoefficient_44 : decode cX3_setCoefficient 44 = .ok (.aload_n 0, 1) := by decide +kernel
theorem dX3_setCoefficient_45 : decode cX3_setCoefficient 45 = .ok (.bipush 8, 2) := by decide +kernel
theorem dX3_setCoefficient_47 : decode cX3_setCoefficient 47 = .ok (.iload_n 2, 1) := by decide +kernel
theorem dX3_setCoefficient_48 : decode cX3_setCoefficient 48 = .ok (.iload_n 3, 1) := by decide +kernel
theorem dX3_setCoefficient_49 : decode cX3_setCoefficient 49 = .ok (.i2l, 1) := by decide +kernel
theorem dX3_setCoefficient_50 : decode cX3_setCoefficient 50 = .ok (.invokevirtual 49, 3) := by decide +kernel
theorem dX3_setCoefficient_53 : decode cX3_setCoefficient 53 = .ok (.aload_n 0, 1) := by decide +kernel
theorem dX3_setCoefficient_54 : decode cX3_setCoefficient 54 = .ok (.getfield 13, 3) := by decide +kernel
theorem dX3_setCoefficient_57 : decode cX3_setCoefficient 57 = .ok (.bipush 8, 2) := by decide +kernel
theorem dX3_setCoefficient_59 : decode cX3_setCoefficient 59 = .ok (.iload_n 2, 1) := by decide +kernel
theorem dX3_setCoefficient_60 : decode cX3_setCoefficient 60 = .ok (.aload_n 0, 1) := by decide +kernel
theorem dX3_setCoefficient_61 : decode cX3_setCoefficient 61 = .ok (.getfield 13, 3) := by decide +kernel
theorem dX3_setCoefficient_64 : decode cX3_setCoefficient 64 = .ok (.bipush 8, 2) := by decide +kernel
theorem dX3_setCoefficient_66 : decode cX3_setCoefficient 66 = .ok (.iaload, 1) := by decide +kernel
theorem dX3_setCoefficient_67 : decode cX3_setCoefficient 67 = .ok (.if_icmp .le 7, 3) := by decide +kernel
theorem dX3_setCoefficient_70 : decode cX3_setCoefficient 70 = .ok (.iload_n 2, 1) := by decide +kernel
theorem dX3_setCoefficient_71 : decode cX3_setCoefficient 71 = .ok (.goto 10, 3) := by decide +kernel
theorem dX3_setCoefficient_74 : decode cX3_setCoefficient 74 = .ok (.aload_n 0, 1) := by decide +kernel
theorem dX3_setCoefficient_75 : decode cX3_setCoefficient 75 = .ok (.getfield 13, 3) := by decide +kernel
theorem dX3_setCoefficient_78 : decode cX3_setCoefficient 78 = .ok (.bipush 8, 2) := by decide +kernel
theorem dX3_setCoefficient_80 : decode cX3_setCoefficient 80 = .ok (.iaload, 1) := by decide +kernel
theorem dX3_setCoefficient_81 : decode cX3_setCoefficient 81 = .ok (.iastore, 1) := by decide +kernel
theorem dX3_setCoefficient_82 : decode cX3_setCoefficient 82 = .ok (.aload_n 0, 1) := by decide +kernel
theorem dX3_setCoefficient_83 : decode cX3_setCoefficient 83 = .ok (.iload_n 1, 1) := by decide +kernel
theorem dX3_setCoefficient_84 : decode cX3_setCoefficient 84 = .ok (.invokevirtual 85, 3) := by decide +kernel
theorem dX3_setCoefficient_87 : decode cX3_setCoefficient 87 = .ok (.lreturn, 1) := by decide +kernel
set_option maxRecDepth 20000 in
theorem ggX3_coefficient_X3_isSeries : GoodIn wsX3_coefficient wsX3_isSeries := goodIn_r _ [6, 7, 8, 9, 5, 10] (by decide +kernel) (by decide +kernel)
set_option maxRecDepth 20000 in
theorem gX3_coefficient_X3_isSeries : GoodIn wsX3_coefficient (va_wsS RX3 75 yX3_isSeries wsX3_isSeries) := goodIn_app (goodIn_of _ (by decide +kernel)) ggX3_coefficient_X3_isSeries
set_option maxRecDepth 20000 in
theorem ggX3_coefficient_X3_in : GoodIn wsX3_coefficient wsX3_in := goodIn_r _ [10] (by decide +kernel) (by decide +kernel)
set_option maxRecDepth 20000 in
theorem gX3_coefficient_X3_in : GoodIn wsX3_coefficient (va_wsS RX3 39 yX3_in wsX3_in) := goodIn_app (goodIn_of _ (by decide +kernel)) ggX3_coefficient_X3_in
set_option maxRecDepth 20000 in
theorem ggX3_coefficient_X3_of : GoodIn wsX3_coefficient wsX3_of := goodIn_r _ [14, 15, 16, 17, 18, 19, 20, 21, 22, 23] (by decide +kernel) (by decide +kernel)
set_option maxRecDepth 20000 in
theorem gX3_coefficient_X3_of : GoodIn wsX3_coefficient (wsV RX3 53 RX3 yX3_of wsX3_of) := goodIn_app (goodIn_of _ (by decide +kernel)) ggX3_coefficient_X3_of
theorem dX3_coefficient_0 : decode cX3_coefficient 0 = .ok (.iload_n 1, 1) := by decide +kernel
theorem dX3_coefficient_1 : decode cX3_coefficient 1 = .ok (.invokestatic 75, 3) := by decide +kernel
theorem dX3_coefficient_4 : decode cX3_coefficient 4 = .ok (.ifCond .eq 24, 3) := by decide +kernel
theorem dX3_coefficient_7 : decode cX3_coefficient 7 = .ok (.iload_n 2, 1) := by decide +kernel
theorem dX3_coefficient_8 : decode cX3_coefficient 8 = .ok (.i2l, 1) := by decide +kernel
theorem dX3_coefficient_9 : decode cX3_coefficient 9 = .ok (.lconst 0, 1) := by decide +kernel
theorem dX3_coefficient_10 : decode cX3_coefficient 10 = .ok (.ldc2_w 79, 3) := by decide +kernel
theorem dX3_coefficient_13 : decode cX3_coefficient 13 = .ok (.invokestatic 39, 3) := by decide +kernel
theorem dX3_coefficient_16 : decode cX3_coefficient 16 = .ok (.ifCond .eq 12, 3) := by decide +kernel
theorem dX3_coefficient_19 : decode cX3_coefficient 19 = .ok (.aload_n 0, 1) := by decide +kernel
theorem dX3_coefficient_20 : decode cX3_coefficient 20 = .ok (.iload_n 1, 1) := by decide +kernel
theorem dX3_coefficient_21 : decode cX3_coefficient 21 = .ok (.iload_n 2, 1) := by decide +kernel
theorem dX3_coefficient_22 : decode cX3_coefficient 22 = .ok (.invokevirtual 53, 3) := by decide +kernel
theorem dX3_coefficient_25 : decode cX3_coefficient 25 = .ok (.goto 6, 3) := by decide +kernel
theorem dX3_coefficient_28 : decode cX3_coefficient 28 = .ok (.ldc2_w 83, 3) := by decide +kernel
theorem dX3_coefficient_31 : decode cX3_coefficient 31 = .ok (.lreturn, 1) := by decide +kernel
set_option maxRecDepth 20000 in
theorem ggX3_degree_X3_isSeries : GoodIn wsX3_degree wsX3_isSeries := goodIn_r _ [6, 7, 8, 9, 5, 10] (by decide +kernel) (by decide +kernel)
set_option maxRecDepth 20000 in
theorem gX3_degree_X3_isSeries : GoodIn wsX3_degree (va_wsS RX3 75 yX3_isSeries wsX3_isSeries) := goodIn_app (goodIn_of _ (by decide +kernel)) ggX3_degree_X3_isSeries
theorem dX3_degree_0 : decode cX3_degree 0 = .ok (.iload_n 1, 1) := by decide +kernel
theorem dX3_degree_1 : decode cX3_degree 1 = .ok (.invokestatic 75, 3) := by decide +kernel
theorem dX3_degree_4 : decode cX3_degree 4 = .ok (.ifCond .eq 13, 3) := by decide +kernel
theorem dX3_degree_7 : decode cX3_degree 7 = .ok (.aload_n 0, 1) := by decide +kernel
theorem dX3_degree_8 : decode cX3_degree 8 = .ok (.getfield 13, 3) := by decide +kernel
theorem dX3_degree_11 : decode cX3_degree 11 = .ok (.iload_n 1, 1) := by decide +kernel
theorem dX3_degree_12 : decode cX3_degree 12 = .ok (.iaload, 1) := by decide +kernel
theorem dX3_degree_13 : decode cX3_degree 13 = .ok (.i2l, 1) := by decide +kernel
theorem dX3_degree_14 : decode cX3_degree 14 = .ok (.goto 6, 3) := by decide +kernel
theorem dX3_degree_17 : decode cX3_degree 17 = .ok (.ldc2_w 83, 3) := by decide +kernel
theorem dX3_degree_20 : decode cX3_degree 20 = .ok (.lreturn, 1) := by decide +kernel
set_option maxRecDepth 20000 in
theorem ggX3_copy_X3_isSeries : GoodIn wsX3_copy wsX3_isSeries := goodIn_r _ [6, 7, 8, 9, 5, 10] (by decide +kernel) (by decide +kernel)
set_option maxRecDepth 20000 in
theorem gX3_copy_X3_isSeries : GoodIn wsX3_copy (va_wsS RX3 75 yX3_isSeries wsX3_isSeries) := goodIn_app (goodIn_of _ (by decide +kernel)) ggX3_copy_X3_isSeries
set_option maxRecDepth 20000 in
theorem ggX3_copy_X3_copies : GoodIn wsX3_copy wsX3_copies := goodIn_r _ [14, 2, 15, 16, 17, 5, 18, 19, 20, 21, 22, 23, 24, 25, 26, 27, 28, 29, 30, 31] (by decide +kernel) (by decide +kernel)
set_option maxRecDepth 20000 in
theorem gX3_copy_X3_copies : GoodIn wsX3_copy (wsV RX3 71 RX3 yX3_copies wsX3_copies) := goodIn_app (goodIn_of _ (by decide +kernel)) ggX3_copy_X3_copies
theorem dX3_copy_0 : decode cX3_copy 0 = .ok (.iload_n 1, 1) := by decide +kernel
theorem dX3_copy_1 : decode cX3_copy 1 = .ok (.invokestatic 75, 3) := by decide +kernel
theorem dX3_copy_4 : decode cX3_copy 4 = .ok (.ifCond .eq 10, 3) := by decide +kernel
theorem dX3_copy_7 : decode cX3_copy 7 = .ok (.iload_n 2, 1) := by decide +kernel
theorem dX3_copy_8 : decode cX3_copy 8 = .ok (.invokestatic 75, 3) := by decide +kernel
theorem dX3_copy_11 : decode cX3_copy 11 = .ok (.ifCond .ne 7, 3) := by decide +kernel
theorem dX3_copy_14 : decode cX3_copy 14 = .ok (.ldc2_w 83, 3) := by decide +kernel
theorem dX3_copy_17 : decode cX3_copy 17 = .ok (.lreturn, 1) := by decide +kernel
theorem dX3_copy_18 : decode cX3_copy 18 = .ok (.aload_n 0, 1) := by decide +kernel
theorem dX3_copy_19 : decode cX3_copy 19 = .ok (.iload_n 1, 1) := by decide +kernel
theorem dX3_copy_20 : decode cX3_copy 20 = .ok (.iload_n 2, 1) := by decide +kernel
theorem dX3_copy_21 : decode cX3_copy 21 = .ok (.invokevirtual 71, 3) := by decide +kernel
theorem dX3_copy_24 : decode cX3_copy 24 = .ok (.aload_n 0, 1) := by decide +kernel
theorem dX3_copy_25 : decode cX3_copy 25 = .ok (.getfield 13, 3) := by decide +kernel
theorem dX3_copy_28 : decode cX3_copy 28 = .ok (.iload_n 2, 1) := by decide +kernel
theorem dX3_copy_29 : decode cX3_copy 29 = .ok (.iaload, 1) := by decide +kernel
theorem dX3_copy_30 : decode cX3_copy 30 = .ok (.i2l, 1) := by decide +kernel
theorem dX3_copy_31 : decode cX3_copy 31 = .ok (.lreturn, 1) := by decide +kernel
set_option maxRecDepth 20000 in
theorem ggX3_valueAt_X3_of : GoodIn wsX3_valueAt wsX3_of := goodIn_r _ [8, 9, 13, 14, 15, 16, 17, 18, 19, 20] (by decide +kernel) (by decide +kernel)
set_option maxRecDepth 20000 in
theorem gX3_valueAt_X3_of : GoodIn wsX3_valueAt (wsV RX3 53 RX3 yX3_of wsX3_of) := goodIn_app (goodIn_of _ (by decide +kernel)) ggX3_valueAt_X3_of
set_option maxRecDepth 20000 in
theorem ggX3_valueAt_X3_rounded : GoodIn wsX3_valueAt wsX3_rounded := goodIn_r _ [12, 2] (by decide +kernel) (by decide +kernel)
set_option maxRecDepth 20000 in
theorem gX3_valueAt_X3_rounded : GoodIn wsX3_valueAt (va_wsS RX3 88 yX3_rounded wsX3_rounded) := goodIn_app (goodIn_of _ (by decide +kernel)) ggX3_valueAt_X3_rounded
theorem dX3_valueAt_0 : decode cX3_valueAt 0 = .ok (.lconst 0, 1) := by decide +kernel
theorem dX3_valueAt_1 : decode cX3_valueAt 1 = .ok (.lstore 4, 2) := by decide +kernel
theorem dX3_valueAt_3 : decode cX3_valueAt 3 = .ok (.lconst 0, 1) := by decide +kernel
theorem dX3_valueAt_4 : decode cX3_valueAt 4 = .ok (.lstore 6, 2) := by decide +kernel
theorem dX3_valueAt_6 : decode cX3_valueAt 6 = .ok (.aload_n 0, 1) := by decide +kernel
theorem dX3_valueAt_7 : decode cX3_valueAt 7 = .ok (.getfield 13, 3) := by decide +kernel
theorem dX3_valueAt_10 : decode cX3_valueAt 10 = .ok (.iload_n 1, 1) := by decide +kernel
theorem dX3_valueAt_11 : decode cX3_valueAt 11 = .ok (.iaload, 1) := by decide +kernel
theorem dX3_valueAt_12 : decode cX3_valueAt 12 = .ok (.istore 8, 2) := by decide +kernel
theorem dX3_valueAt_14 : decode cX3_valueAt 14 = .ok (.iload 8, 2) := by decide +kernel
theorem dX3_valueAt_16 : decode cX3_valueAt 16 = .ok (.ifCond .le 44, 3) := by decide +kernel
theorem dX3_valueAt_19 : decode cX3_valueAt 19 = .ok (.aload_n 0, 1) := by decide +kernel
theorem dX3_valueAt_20 : decode cX3_valueAt 20 = .ok (.iload_n 1, 1) := by decide +kernel
theorem dX3_valueAt_21 : decode cX3_valueAt 21 = .ok (.iload 8, 2) := by decide +kernel
theorem dX3_valueAt_23 : decode cX3_valueAt 23 = .ok (.invokevirtual 53, 3) := by decide +kernel
theorem dX3_valueAt_26 : decode cX3_valueAt 26 = .ok (.ldc2_w 47, 3) := by decide +kernel
theorem dX3_valueAt_29 : decode cX3_valueAt 29 = .ok (.lload_n 2, 1) := by decide +kernel
theorem dX3_valueAt_30 : decode cX3_valueAt 30 = .ok (.lmul, 1) := by decide +kernel
theorem dX3_valueAt_31 : decode cX3_valueAt 31 = .ok (.lload 4, 2) := by decide +kernel
theorem dX3_valueAt_33 : decode cX3_valueAt 33 = .ok (.lmul, 1) := by decide +kernel
theorem dX3_valueAt_34 : decode cX3_valueAt 34 = .ok (.ldc2_w 45, 3) := by decide +kernel
theorem dX3_valueAt_37 : decode cX3_valueAt 37 = .ok (.invokestatic 88, 3) := by decide +kernel
theorem dX3_valueAt_40 : decode cX3_valueAt 40 = .ok (.ladd, 1) := by decide +kernel
theorem dX3_valueAt_41 : decode cX3_valueAt 41 = .ok (.lload 6, 2) := by decide +kernel
theorem dX3_valueAt_43 : decode cX3_valueAt 43 = .ok (.lsub, 1) := by decide +kernel
theorem dX3_valueAt_44 : decode cX3_valueAt 44 = .ok (.lstore 9, 2) := by decide +kernel
theorem dX3_valueAt_46 : decode cX3_valueAt 46 = .ok (.lload 4, 2) := by decide +kernel
theorem dX3_valueAt_48 : decode cX3_valueAt 48 = .ok (.lstore 6, 2) := by decide +kernel
theorem dX3_valueAt_50 : decode cX3_valueAt 50 = .ok (.lload 9, 2) := by decide +kernel
theorem dX3_valueAt_52 : decode cX3_valueAt 52 = .ok (.lstore 4, 2) := by decide +kernel
theorem dX3_valueAt_54 : decode cX3_valueAt 54 = .ok (.iinc 8 (-1), 3) := by decide +kernel
theorem dX3_valueAt_57 : decode cX3_valueAt 57 = .ok (.goto (-43), 3) := by decide +kernel
theorem dX3_valueAt_60 : decode cX3_valueAt 60 = .ok (.aload_n 0, 1) := by decide +kernel
theorem dX3_valueAt_61 : decode cX3_valueAt 61 = .ok (.iload_n 1, 1) := by decide +kernel
theorem dX3_valueAt_62 : decode cX3_valueAt 62 = .ok (.iconst 0, 1) := by decide +kernel
theorem dX3_valueAt_63 : decode cX3_valueAt 63 = .ok (.invokevirtual 53, 3) := by decide +kernel
theorem dX3_valueAt_66 : decode cX3_valueAt 66 = .ok (.lload_n 2, 1) := by decide +kernel
theorem dX3_valueAt_67 : decode cX3_valueAt 67 = .ok (.lload 4, 2) := by decide +kernel
theorem dX3_valueAt_69 : decode cX3_valueAt 69 = .ok (.lmul, 1) := by decide +kernel
theorem dX3_valueAt_70 : decode cX3_valueAt 70 = .ok (.ldc2_w 45, 3) := by decide +kernel
theorem dX3_valueAt_73 : decode cX3_valueAt 73 = .ok (.invokestatic 88, 3) := by decide +kernel
theorem dX3_valueAt_76 : decode cX3_valueAt 76 = .ok (.ladd, 1) := by decide +kernel
theorem dX3_valueAt_77 : decode cX3_valueAt 77 = .ok (.lload 6, 2) := by decide +kernel
theorem dX3_valueAt_79 : decode cX3_valueAt 79 = .ok (.lsub, 1) := by decide +kernel
theorem dX3_valueAt_80 : decode cX3_valueAt 80 = .ok (.lreturn, 1) := by decide +kernel
set_option maxRecDepth 20000 in
theorem ggX3_value_X3_isSeries : GoodIn wsX3_value wsX3_isSeries := goodIn_r _ [5, 6, 7, 8, 4, 9] (by decide +kernel) (by decide +kernel)
set_option maxRecDepth 20000 in
theorem gX3_value_X3_isSeries : GoodIn wsX3_value (va_wsS RX3 75 yX3_isSeries wsX3_isSeries) := goodIn_app (goodIn_of _ (by decide +kernel)) ggX3_value_X3_isSeries
set_option maxRecDepth 20000 in
theorem ggX3_value_X3_isPoint : GoodIn wsX3_value wsX3_isPoint := goodIn_r _ [12, 13, 14, 7, 8, 4, 9] (by decide +kernel) (by decide +kernel)
set_option maxRecDepth 20000 in
theorem gX3_value_X3_isPoint : GoodIn wsX3_value (va_wsS RX3 92 yX3_isPoint wsX3_isPoint) := goodIn_app (goodIn_of _ (by decide +kernel)) ggX3_value_X3_isPoint
set_option maxRecDepth 20000 in
theorem ggX3_value_X3_valueAt : GoodIn wsX3_value wsX3_valueAt := goodIn_r _ [18, 19, 20, 14, 21, 22, 23, 4, 24, 25, 26, 27, 28, 29, 30, 31, 32, 33, 34, 35, 36] (by decide +kernel) (by decide +kernel)
set_option maxRecDepth 20000 in
theorem gX3_value_X3_valueAt : GoodIn wsX3_value (wsV RX3 95 RX3 yX3_valueAt wsX3_valueAt) := goodIn_app (goodIn_of _ (by decide +kernel)) ggX3_value_X3_valueAt
theorem dX3_value_0 : decode cX3_value 0 = .ok (.iload_n 1, 1) := by decide +kernel
theorem dX3_value_1 : decode cX3_value 1 = .ok (.invokestatic 75, 3) := by decide +kernel
theorem dX3_value_4 : decode cX3_value 4 = .ok (.ifCond .eq 20, 3) := by decide +kernel
theorem dX3_value_7 : decode cX3_value 7 = .ok (.iload_n 2, 1) := by decide +kernel
theorem dX3_value_8 : decode cX3_value 8 = .ok (.invokestatic 92, 3) := by decide +kernel
theorem dX3_value_11 : decode cX3_value 11 = .ok (.ifCond .eq 13, 3) := by decide +kernel
theorem dX3_value_14 : decode cX3_value 14 = .ok (.aload_n 0, 1) := by decide +kernel
theorem dX3_value_15 : decode cX3_value 15 = .ok (.iload_n 1, 1) := by decide +kernel
theorem dX3_value_16 : decode cX3_value 16 = .ok (.iload_n 2, 1) := by decide +kernel
theorem dX3_value_17 : decode cX3_value 17 = .ok (.i2l, 1) := by decide +kernel
theorem dX3_value_18 : decode cX3_value 18 = .ok (.invokevirtual 95, 3) := by decide +kernel
theorem dX3_value_21 : decode cX3_value 21 = .ok (.goto 6, 3) := by decide +kernel
theorem dX3_value_24 : decode cX3_value 24 = .ok (.ldc2_w 83, 3) := by decide +kernel
theorem dX3_value_27 : decode cX3_value 27 = .ok (.lreturn, 1) := by decide +kernel
set_option maxRecDepth 20000 in
theorem ggX3_add_X3_isSeries : GoodIn wsX3_add wsX3_isSeries := goodIn_r _ [7, 8, 9, 10, 6, 11] (by decide +kernel) (by decide +kernel)
set_option maxRecDepth 20000 in
theorem gX3_add_X3_isSeries : GoodIn wsX3_add (va_wsS RX3 75 yX3_isSeries wsX3_isSeries) := goodIn_app (goodIn_of _ (by decide +kernel)) ggX3_add_X3_isSeries
set_option maxRecDepth 20000 in
theorem ggX3_add_X3_in : GoodIn wsX3_add wsX3_in := goodIn_r _ [11] (by decide +kernel) (by decide +kernel)
set_option maxRecDepth 20000 in
theorem gX3_add_X3_in : GoodIn wsX3_add (va_wsS RX3 39 yX3_in wsX3_in) := goodIn_app (goodIn_of _ (by decide +kernel)) ggX3_add_X3_in
set_option maxRecDepth 20000 in
theorem ggX3_add_X3_clears : GoodIn wsX3_add wsX3_clears := goodIn_r _ [15, 16, 17, 18, 19, 6, 20, 21, 44, 45, 46, 47, 48, 49, 50, 51] (by decide +kernel) (by decide +kernel)
set_option maxRecDepth 20000 in
theorem gX3_add_X3_clears : GoodIn wsX3_add (wsV RX3 103 RX3 yX3_clears wsX3_clears) := goodIn_app (goodIn_of _ (by decide +kernel)) ggX3_add_X3_clears
set_option maxRecDepth 20000 in
theorem ggX3_add_X3_of : GoodIn wsX3_add wsX3_of := goodIn_r _ [25, 21, 44, 45, 46, 47, 48, 49, 50, 51] (by decide +kernel) (by decide +kernel)
set_option maxRecDepth 20000 in
theorem gX3_add_X3_of : GoodIn wsX3_add (wsV RX3 53 RX3 yX3_of wsX3_of) := goodIn_app (goodIn_of _ (by decide +kernel)) ggX3_add_X3_of
set_option maxRecDepth 20000 in
theorem ggX3_add_X3_sets : GoodIn wsX3_add wsX3_sets := goodIn_r _ [20, 21, 44, 45, 46, 47, 48, 49, 50, 51] (by decide +kernel) (by decide +kernel)
set_option maxRecDepth 20000 in
theorem gX3_add_X3_sets : GoodIn wsX3_add (wsV RX3 49 RX3 yX3_sets wsX3_sets) := goodIn_app (goodIn_of _ (by decide +kernel)) ggX3_add_X3_sets
set_option maxRecDepth 20000 in
theorem ggX3_add_X3_gives : GoodIn wsX3_add wsX3_gives := goodIn_r _ [29, 16, 30, 31, 32, 6, 33, 34, 35, 36, 22, 23, 24, 25, 21, 37, 38, 39, 40, 41, 42, 43, 17, 18, 19, 20, 44, 45, 46, 47, 48, 49, 50, 51] (by decide +kernel) (by decide +kernel)
set_option maxRecDepth 20000 in
theorem gX3_add_X3_gives : GoodIn wsX3_add (wsV RX3 85 RX3 yX3_gives wsX3_gives) := goodIn_app (goodIn_of _ (by decide +kernel)) ggX3_add_X3_gives
theorem dX3_add_0 : decode cX3_add 0 = .ok (.iload_n 1, 1) := by decide +kernel
theorem dX3_add_1 : decode cX3_add 1 = .ok (.invokestatic 75, 3) := by decide +kernel
theorem dX3_add_4 : decode cX3_add 4 = .ok (.ifCond .eq 47, 3) := by decide +kernel
theorem dX3_add_7 : decode cX3_add 7 = .ok (.iload_n 2, 1) := by decide +kernel
theorem dX3_add_8 : decode cX3_add 8 = .ok (.i2l, 1) := by decide +kernel
theorem dX3_add_9 : decode cX3_add 9 = .ok (.ldc2_w 99, 3) := by decide +kernel
theorem dX3_add_12 : decode cX3_add 12 = .ok (.ldc2_w 101, 3) := by decide +kernel
theorem dX3_add_15 : decode cX3_add 15 = .ok (.invokestatic 39, 3) := by decide +kernel
theorem dX3_add_18 : decode cX3_add 18 = .ok (.ifCond .eq 33, 3) := by decide +kernel
theorem dX3_add_21 : decode cX3_add 21 = .ok (.iload_n 3, 1) := by decide +kernel
theorem dX3_add_22 : decode cX3_add 22 = .ok (.invokestatic 75, 3) := by decide +kernel
theorem dX3_add_25 : decode cX3_add 25 = .ok (.ifCond .eq 26, 3) := by decide +kernel
theorem dX3_add_28 : decode cX3_add 28 = .ok (.iload 4, 2) := by decide +kernel
theorem dX3_add_30 : decode cX3_add 30 = .ok (.i2l, 1) := by decide +kernel
theorem dX3_add_31 : decode cX3_add 31 = .ok (.ldc2_w 99, 3) := by decide +kernel
theorem dX3_add_34 : decode cX3_add 34 = .ok (.ldc2_w 101, 3) := by decide +kernel
theorem dX3_add_37 : decode cX3_add 37 = .ok (.invokestatic 39, 3) := by decide +kernel
theorem dX3_add_40 : decode cX3_add 40 = .ok (.ifCond .eq 11, 3) := by decide +kernel
theorem dX3_add_43 : decode cX3_add 43 = .ok (.iload 5, 2) := by decide +kernel
theorem dX3_add_45 : decode cX3_add 45 = .ok (.invokestatic 75, 3) := by decide +kernel
theorem dX3_add_48 : decode cX3_add 48 = .ok (.ifCond .ne 7, 3) := by decide +kernel
theorem dX3_add_51 : decode cX3_add 51 = .ok (.ldc2_w 83, 3) := by decide +kernel
theorem dX3_add_54 : decode cX3_add 54 = .ok (.lreturn, 1) := by decide +kernel
theorem dX3_add_55 : decode cX3_add 55 = .ok (.aload_n 0, 1) := by decide +kernel
theorem dX3_add_56 : decode cX3_add 56 = .ok (.bipush 8, 2) := by decide +kernel
theorem dX3_add_58 : decode cX3_add 58 = .ok (.bipush 24, 2) := by decide +kernel
theorem dX3_add_60 : decode cX3_add 60 = .ok (.invokevirtual 103, 3) := by decide +kernel
theorem dX3_add_63 : decode cX3_add 63 = .ok (.iconst 0, 1) := by decide +kernel
theorem dX3_add_64 : decode cX3_add 64 = .ok (.istore 6, 2) := by decide +kernel
theorem dX3_add_66 : decode cX3_add 66 = .ok (.iload 6, 2) := by decide +kernel
theorem dX3_add_68 : decode cX3_add 68 = .ok (.bipush 24, 2) := by decide +kernel
theorem dX3_add_70 : decode cX3_add 70 = .ok (.if_icmp .gt 39, 3) := by decide +kernel
theorem dX3_add_73 : decode cX3_add 73 = .ok (.aload_n 0, 1) := by decide +kernel
theorem dX3_add_74 : decode cX3_add 74 = .ok (.bipush 8, 2) := by decide +kernel
theorem dX3_add_76 : decode cX3_add 76 = .ok (.iload 6, 2) := by decide +kernel
theorem dX3_add_78 : decode cX3_add 78 = .ok (.iload_n 2, 1) := by decide +kernel
theorem dX3_add_79 : decode cX3_add 79 = .ok (.i2l, 1) := by decide +kernel
theorem dX3_add_80 : decode cX3_add 80 = .ok (.aload_n 0, 1) := by decide +kernel
theorem dX3_add_81 : decode cX3_add 81 = .ok (.iload_n 1, 1) := by decide +kernel
theorem dX3_add_82 : decode cX3_add 82 = .ok (.iload 6, 2) := by decide +kernel
theorem dX3_add_84 : decode cX3_add 84 = .ok (.invokevirtual 53, 3) := by decide +kernel
theorem dX3_add_87 : decode cX3_add 87 = .ok (.lmul, 1) := by decide +kernel
theorem dX3_add_88 : decode cX3_add 88 = .ok (.iload 4, 2) := by decide +kernel
theorem dX3_add_90 : decode cX3_add 90 = .ok (.i2l, 1) := by decide +kernel
theorem dX3_add_91 : decode cX3_add 91 = .ok (.aload_n 0, 1) := by decide +kernel
theorem dX3_add_92 : decode cX3_add 92 = .ok (.iload_n 3, 1) := by decide +kernel
theorem dX3_add_93 : decode cX3_add 93 = .ok (.iload 6, 2) := by decide +kernel
theorem dX3_add_95 : decode cX3_add 95 = .ok (.invokevirtual 53, 3) := by decide +kernel
theorem dX3_add_98 : decode cX3_add 98 = .ok (.lmul, 1) := by decide +kernel
theorem dX3_add_99 : decode cX3_add 99 = .ok (.ladd, 1) := by decide +kernel
theorem dX3_add_100 : decode cX3_add 100 = .ok (.invokevirtual 49, 3) := by decide +kernel
theorem dX3_add_103 : decode cX3_add 103 = .ok (.iinc 6 1, 3) := by decide +kernel
theorem dX3_add_106 : decode cX3_add 106 = .ok (.goto (-40), 3) := by decide +kernel
theorem dX3_add_109 : decode cX3_add 109 = .ok (.aload_n 0, 1) := by decide +kernel
theorem dX3_add_110 : decode cX3_add 110 = .ok (.iload 5, 2) := by decide +kernel
theorem dX3_add_112 : decode cX3_add 112 = .ok (.invokevirtual 85, 3) := by decide +kernel
theorem dX3_add_115 : decode cX3_add 115 = .ok (.lreturn, 1) := by decide +kernel
set_option maxRecDepth 20000 in
theorem ggX3_multiplies_X3_clears : GoodIn wsX3_multiplies wsX3_clears := goodIn_r _ [7, 1, 8, 9, 10, 6, 11, 12, 31, 32, 33, 34, 35, 36, 37, 38] (by decide +kernel) (by decide +kernel)
set_option maxRecDepth 20000 in
theorem gX3_multiplies_X3_clears : GoodIn wsX3_multiplies (wsV RX3 103 RX3 yX3_clears wsX3_clears) := goodIn_app (goodIn_of _ (by decide +kernel)) ggX3_multiplies_X3_clears
set_option maxRecDepth 20000 in
theorem ggX3_multiplies_X3_of : GoodIn wsX3_multiplies wsX3_of := goodIn_r _ [16, 12, 31, 32, 33, 34, 35, 36, 37, 38] (by decide +kernel) (by decide +kernel)
set_option maxRecDepth 20000 in
theorem gX3_multiplies_X3_of : GoodIn wsX3_multiplies (wsV RX3 53 RX3 yX3_of wsX3_of) := goodIn_app (goodIn_of _ (by decide +kernel)) ggX3_multiplies_X3_of
set_option maxRecDepth 20000 in
theorem ggX3_multiplies_X3_rounded : GoodIn wsX3_multiplies wsX3_rounded := goodIn_r _ [19, 20] (by decide +kernel) (by decide +kernel)
set_option maxRecDepth 20000 in
theorem gX3_multiplies_X3_rounded : GoodIn wsX3_multiplies (va_wsS RX3 88 yX3_rounded wsX3_rounded) := goodIn_app (goodIn_of _ (by decide +kernel)) ggX3_multiplies_X3_rounded
set_option maxRecDepth 20000 in
theorem ggX3_multiplies_X3_sets : GoodIn wsX3_multiplies wsX3_sets := goodIn_r _ [11, 12, 31, 32, 33, 34, 35, 36, 37, 38] (by decide +kernel) (by decide +kernel)
set_option maxRecDepth 20000 in
theorem gX3_multiplies_X3_sets : GoodIn wsX3_multiplies (wsV RX3 49 RX3 yX3_sets wsX3_sets) := goodIn_app (goodIn_of _ (by decide +kernel)) ggX3_multiplies_X3_sets
set_option maxRecDepth 20000 in
theorem ggX3_multiplies_X3_trims : GoodIn wsX3_multiplies wsX3_trims := goodIn_r _ [24, 1, 25, 26, 27, 13, 14, 15, 6, 16, 12, 28, 29, 30, 31, 32, 33, 34, 35, 36, 37, 38] (by decide +kernel) (by decide +kernel)
set_option maxRecDepth 20000 in
theorem gX3_multiplies_X3_trims : GoodIn wsX3_multiplies (wsV RX3 67 RX3 yX3_trims wsX3_trims) := goodIn_app (goodIn_of _ (by decide +kernel)) ggX3_multiplies_X3_trims
theorem dX3_multiplies_0 : decode cX3_multiplies 0 = .ok (.aload_n 0, 1) := by decide +kernel
theorem dX3_multiplies_1 : decode cX3_multiplies 1 = .ok (.bipush 8, 2) := by decide +kernel
theorem dX3_multiplies_3 : decode cX3_multiplies 3 = .ok (.aload_n 0, 1) := by decide +kernel
theorem dX3_multiplies_4 : decode cX3_multiplies 4 = .ok (.getfield 13, 3) := by decide +kernel
theorem dX3_multiplies_7 : decode cX3_multiplies 7 = .ok (.iload_n 1, 1) := by decide +kernel
theorem dX3_multiplies_8 : decode cX3_multiplies 8 = .ok (.iaload, 1) := by decide +kernel
theorem dX3_multiplies_9 : decode cX3_multiplies 9 = .ok (.aload_n 0, 1) := by decide +kernel
theorem dX3_multiplies_10 : decode cX3_multiplies 10 = .ok (.getfield 13, 3) := by decide +kernel
theorem dX3_multiplies_13 : decode cX3_multiplies 13 = .ok (.iload_n 2, 1) := by decide +kernel
theorem dX3_multiplies_14 : decode cX3_multiplies 14 = .ok (.iaload, 1) := by decide +kernel
theorem dX3_multiplies_15 : decode cX3_multiplies 15 = .ok (.iadd, 1) := by decide +kernel
theorem dX3_multiplies_16 : decode cX3_multiplies 16 = .ok (.invokevirtual 103, 3) := by decide +kernel
theorem dX3_multiplies_19 : decode cX3_multiplies 19 = .ok (.iconst 0, 1) := by decide +kernel
theorem dX3_multiplies_20 : decode cX3_multiplies 20 = .ok (.istore_n 3, 1) := by decide +kernel
theorem dX3_multiplies_21 : decode cX3_multiplies 21 = .ok (.iload_n 3, 1) := by decide +kernel
theorem dX3_multiplies_22 : decode cX3_multiplies 22 = .ok (.aload_n 0, 1) := by decide +kernel
theorem dX3_multiplies_23 : decode cX3_multiplies 23 = .ok (.getfield 13, 3) := by decide +kernel
theorem dX3_multiplies_26 : decode cX3_multiplies 26 = .ok (.bipush 8, 2) := by decide +kernel
theorem dX3_multiplies_28 : decode cX3_multiplies 28 = .ok (.iaload, 1) := by decide +kernel
theorem dX3_multiplies_29 : decode cX3_multiplies 29 = .ok (.if_icmp .gt 142, 3) := by decide +kernel
theorem dX3_multiplies_32 : decode cX3_multiplies 32 = .ok (.lconst 0, 1) := by decide +kernel
theorem dX3_multiplies_33 : decode cX3_multiplies 33 = .ok (.lstore 4, 2) := by decide +kernel
theorem dX3_multiplies_35 : decode cX3_multiplies 35 = .ok (.iconst 0, 1) := by decide +kernel
theorem dX3_multiplies_36 : decode cX3_multiplies 36 = .ok (.istore 6, 2) := by decide +kernel
theorem dX3_multiplies_38 : decode cX3_multiplies 38 = .ok (.iload 6, 2) := by decide +kernel
theorem dX3_multiplies_40 : decode cX3_multiplies 40 = .ok (.aload_n 0, 1) := by decide +kernel
theorem dX3_multiplies_41 : decode cX3_multiplies 41 = .ok (.getfield 13, 3) := by decide +kernel
theorem dX3_multiplies_44 : decode cX3_multiplies 44 = .ok (.iload_n 1, 1) := by decide +kernel
theorem dX3_multiplies_45 : decode cX3_multiplies 45 = .ok (.iaload, 1) := by decide +kernel
theorem dX3_multiplies_46 : decode cX3_multiplies 46 = .ok (.if_icmp .gt 104, 3) := by decide +kernel
theorem dX3_multiplies_49 : decode cX3_multiplies 49 = .ok (.iconst 0, 1) := by decide +kernel
theorem dX3_multiplies_50 : decode cX3_multiplies 50 = .ok (.istore 7, 2) := by decide +kernel
theorem dX3_multiplies_52 : decode cX3_multiplies 52 = .ok (.iload 7, 2) := by decide +kernel
theorem dX3_multiplies_54 : decode cX3_multiplies 54 = .ok (.aload_n 0, 1) := by decide +kernel
theorem dX3_multiplies_55 : decode cX3_multiplies 55 = .ok (.getfield 13, 3) := by decide +kernel
theorem dX3_multiplies_58 : decode cX3_multiplies 58 = .ok (.iload_n 2, 1) := by decide +kernel
theorem dX3_multiplies_59 : decode cX3_multiplies 59 = .ok (.iaload, 1) := by decide +kernel
theorem dX3_multiplies_60 : decode cX3_multiplies 60 = .ok (.if_icmp .gt 84, 3) := by decide +kernel
theorem dX3_multiplies_63 : decode cX3_multiplies 63 = .ok (.lload 4, 2) := by decide +kernel
theorem dX3_multiplies_65 : decode cX3_multiplies 65 = .ok (.iload 6, 2) := by decide +kernel
theorem dX3_multiplies_67 : decode cX3_multiplies 67 = .ok (.iload 7, 2) := by decide +kernel
theorem dX3_multiplies_69 : decode cX3_multiplies 69 = .ok (.iadd, 1) := by decide +kernel
theorem dX3_multiplies_70 : decode cX3_multiplies 70 = .ok (.iload_n 3, 1) := by decide +kernel
theorem dX3_multiplies_71 : decode cX3_multiplies 71 = .ok (.if_icmp .ne 21, 3) := by decide +kernel
theorem dX3_multiplies_74 : decode cX3_multiplies 74 = .ok (.aload_n 0, 1) := by decide +kernel
theorem dX3_multiplies_75 : decode cX3_multiplies 75 = .ok (.iload_n 1, 1) := by decide +kernel
theorem dX3_multiplies_76 : decode cX3_multiplies 76 = .ok (.iload 6, 2) := by decide +kernel
theorem dX3_multiplies_78 : decode cX3_multiplies 78 = .ok (.invokevirtual 53, 3) := by decide +kernel
theorem dX3_multiplies_81 : decode cX3_multiplies 81 = .ok (.aload_n 0, 1) := by decide +kernel
theorem dX3_multiplies_82 : decode cX3_multiplies 82 = .ok (.iload_n 2, 1) := by decide +kernel
theorem dX3_multiplies_83 : decode cX3_multiplies 83 = .ok (.iload 7, 2) := by decide +kernel
theorem dX3_multiplies_85 : decode cX3_multiplies 85 = .ok (.invokevirtual 53, 3) := by decide +kernel
theorem dX3_multiplies_88 : decode cX3_multiplies 88 = .ok (.lmul, 1) := by decide +kernel
theorem dX3_multiplies_89 : decode cX3_multiplies 89 = .ok (.goto 4, 3) := by decide +kernel
theorem dX3_multiplies_92 : decode cX3_multiplies 92 = .ok (.lconst 0, 1) := by decide +kernel
theorem dX3_multiplies_93 : decode cX3_multiplies 93 = .ok (.ladd, 1) := by decide +kernel
theorem dX3_multiplies_94 : decode cX3_multiplies 94 = .ok (.lstore 4, 2) := by decide +kernel
theorem dX3_multiplies_96 : decode cX3_multiplies 96 = .ok (.lload 4, 2) := by decide +kernel
theorem dX3_multiplies_98 : decode cX3_multiplies 98 = .ok (.iload 6, 2) := by decide +kernel
theorem dX3_multiplies_100 : decode cX3_multiplies 100 = .ok (.iload 7, 2) := by decide +kernel
theorem dX3_multiplies_102 : decode cX3_multiplies 102 = .ok (.isub, 1) := by decide +kernel
theorem dX3_multiplies_103 : decode cX3_multiplies 103 = .ok (.iload_n 3, 1) := by decide +kernel
theorem dX3_multiplies_104 : decode cX3_multiplies 104 = .ok (.if_icmp .eq 12, 3) := by decide +kernel
theorem dX3_multiplies_107 : decode cX3_multiplies 107 = .ok (.iload 7, 2) := by decide +kernel
theorem dX3_multiplies_109 : decode cX3_multiplies 109 = .ok (.iload 6, 2) := by decide +kernel
theorem dX3_multiplies_111 : decode cX3_multiplies 111 = .ok (.isub, 1) := by decide +kernel
theorem dX3_multiplies_112 : decode cX3_multiplies 112 = .ok (.iload_n 3, 1) := by decide +kernel
theorem dX3_multiplies_113 : decode cX3_multiplies 113 = .ok (.if_icmp .ne 21, 3) := by decide +kernel
theorem dX3_multiplies_116 : decode cX3_multiplies 116 = .ok (.aload_n 0, 1) := by decide +kernel
theorem dX3_multiplies_117 : decode cX3_multiplies 117 = .ok (.iload_n 1, 1) := by decide +kernel
theorem dX3_multiplies_118 : decode cX3_multiplies 118 = .ok (.iload 6, 2) := by decide +kernel
theorem dX3_multiplies_120 : decode cX3_multiplies 120 = .ok (.invokevirtual 53, 3) := by decide +kernel
theorem dX3_multiplies_123 : decode cX3_multiplies 123 = .ok (.aload_n 0, 1) := by decide +kernel
theorem dX3_multiplies_124 : decode cX3_multiplies 124 = .ok (.iload_n 2, 1) := by decide +kernel
theorem dX3_multiplies_125 : decode cX3_multiplies 125 = .ok (.iload 7, 2) := by decide +kernel
theorem dX3_multiplies_127 : decode cX3_multiplies 127 = .ok (.invokevirtual 53, 3) := by decide +kernel
theorem dX3_multiplies_130 : decode cX3_multiplies 130 = .ok (.lmul, 1) := by decide +kernel
theorem dX3_multiplies_131 : decode cX3_multiplies 131 = .ok (.goto 4, 3) := by decide +kernel
theorem dX3_multiplies_134 : decode cX3_multiplies 134 = .ok (.lconst 0, 1) := by decide +kernel
theorem dX3_multiplies_135 : decode cX3_multiplies 135 = .ok (.ladd, 1) := by decide +kernel
theorem dX3_multiplies_136 : decode cX3_multiplies 136 = .ok (.lstore 4, 2) := by decide +kernel
theorem dX3_multiplies_138 : decode cX3_multiplies 138 = .ok (.iinc 7 1, 3) := by decide +kernel
theorem dX3_multiplies_141 : decode cX3_multiplies 141 = .ok (.goto (-89), 3) := by decide +kernel
theorem dX3_multiplies_144 : decode cX3_multiplies 144 = .ok (.iinc 6 1, 3) := by decide +kernel
theorem dX3_multiplies_147 : decode cX3_multiplies 147 = .ok (.goto (-109), 3) := by decide +kernel
theorem dX3_multiplies_150 : decode cX3_multiplies 150 = .ok (.aload_n 0, 1) := by decide +kernel
theorem dX3_multiplies_151 : decode cX3_multiplies 151 = .ok (.bipush 8, 2) := by decide +kernel
theorem dX3_multiplies_153 : decode cX3_multiplies 153 = .ok (.iload_n 3, 1) := by decide +kernel
theorem dX3_multiplies_154 : decode cX3_multiplies 154 = .ok (.lload 4, 2) := by decide +kernel
theorem dX3_multiplies_156 : decode cX3_multiplies 156 = .ok (.ldc2_w 106, 3) := by decide +kernel
theorem dX3_multiplies_159 : decode cX3_multiplies 159 = .ok (.invokestatic 88, 3) := by decide +kernel
theorem dX3_multiplies_162 : decode cX3_multiplies 162 = .ok (.invokevirtual 49, 3) := by decide +kernel
theorem dX3_multiplies_165 : decode cX3_multiplies 165 = .ok (.iinc 3 1, 3) := by decide +kernel
theorem dX3_multiplies_168 : decode cX3_multiplies 168 = .ok (.goto (-147), 3) := by decide +kernel
theorem dX3_multiplies_171 : decode cX3_multiplies 171 = .ok (.aload_n 0, 1) := by decide +kernel
theorem dX3_multiplies_172 : decode cX3_multiplies 172 = .ok (.bipush 8, 2) := by decide +kernel
theorem dX3_multiplies_174 : decode cX3_multiplies 174 = .ok (.invokevirtual 67, 3) := by decide +kernel
theorem dX3_multiplies_177 : decode cX3_multiplies 177 = .ok (.lreturn, 1) := by decide +kernel
set_option maxRecDepth 20000 in
theorem ggX3_multiply_X3_isSeries : GoodIn wsX3_multiply wsX3_isSeries := goodIn_r _ [5, 6, 7, 8, 4, 9] (by decide +kernel) (by decide +kernel)
set_option maxRecDepth 20000 in
theorem gX3_multiply_X3_isSeries : GoodIn wsX3_multiply (va_wsS RX3 75 yX3_isSeries wsX3_isSeries) := goodIn_app (goodIn_of _ (by decide +kernel)) ggX3_multiply_X3_isSeries
set_option maxRecDepth 20000 in
theorem ggX3_multiply_X3_multiplies : GoodIn wsX3_multiply wsX3_multiplies := goodIn_r _ [13, 14, 15, 16, 17, 18, 4, 19, 20, 21, 22, 23, 24, 25, 26, 27, 28, 29, 30, 31, 32, 33, 34, 35, 36, 37, 38, 39, 40, 41, 42, 51, 52, 53, 54, 55, 56, 57, 58] (by decide +kernel) (by decide +kernel)
set_option maxRecDepth 20000 in
theorem gX3_multiply_X3_multiplies : GoodIn wsX3_multiply (wsV RX3 108 RX3 yX3_multiplies wsX3_multiplies) := goodIn_app (goodIn_of _ (by decide +kernel)) ggX3_multiply_X3_multiplies
set_option maxRecDepth 20000 in
theorem ggX3_multiply_X3_gives : GoodIn wsX3_multiply wsX3_gives := goodIn_r _ [46, 14, 33, 34, 35, 4, 36, 37, 38, 39, 25, 26, 27, 28, 24, 40, 41, 42, 47, 48, 49, 50, 20, 21, 22, 23, 51, 52, 53, 54, 55, 56, 57, 58] (by decide +kernel) (by decide +kernel)
set_option maxRecDepth 20000 in
theorem gX3_multiply_X3_gives : GoodIn wsX3_multiply (wsV RX3 85 RX3 yX3_gives wsX3_gives) := goodIn_app (goodIn_of _ (by decide +kernel)) ggX3_multiply_X3_gives
theorem dX3_multiply_0 : decode cX3_multiply 0 = .ok (.iload_n 1, 1) := by decide +kernel
theorem dX3_multiply_1 : decode cX3_multiply 1 = .ok (.invokestatic 75, 3) := by decide +kernel
theorem dX3_multiply_4 : decode cX3_multiply 4 = .ok (.ifCond .eq 17, 3) := by decide +kernel
theorem dX3_multiply_7 : decode cX3_multiply 7 = .ok (.iload_n 2, 1) := by decide +kernel
theorem dX3_multiply_8 : decode cX3_multiply 8 = .ok (.invokestatic 75, 3) := by decide +kernel
theorem dX3_multiply_11 : decode cX3_multiply 11 = .ok (.ifCond .eq 10, 3) := by decide +kernel
theorem dX3_multiply_14 : decode cX3_multiply 14 = .ok (.iload_n 3, 1) := by decide +kernel
theorem dX3_multiply_15 : decode cX3_multiply 15 = .ok (.invokestatic 75, 3) := by decide +kernel
theorem dX3_multiply_18 : decode cX3_multiply 18 = .ok (.ifCond .ne 7, 3) := by decide +kernel
theorem dX3_multiply_21 : decode cX3_multiply 21 = .ok (.ldc2_w 83, 3) := by decide +kernel
theorem dX3_multiply_24 : decode cX3_multiply 24 = .ok (.lreturn, 1) := by decide +kernel
theorem dX3_multiply_25 : decode cX3_multiply 25 = .ok (.aload_n 0, 1) := by decide +kernel
theorem dX3_multiply_26 : decode cX3_multiply 26 = .ok (.iload_n 1, 1) := by decide +kernel
theorem dX3_multiply_27 : decode cX3_multiply 27 = .ok (.iload_n 2, 1) := by decide +kernel
theorem dX3_multiply_28 : decode cX3_multiply 28 = .ok (.invokevirtual 108, 3) := by decide +kernel
theorem dX3_multiply_31 : decode cX3_multiply 31 = .ok (.lstore 4, 2) := by decide +kernel
theorem dX3_multiply_33 : decode cX3_multiply 33 = .ok (.lload 4, 2) := by decide +kernel
theorem dX3_multiply_35 : decode cX3_multiply 35 = .ok (.lconst 0, 1) := by decide +kernel
theorem dX3_multiply_36 : decode cX3_multiply 36 = .ok (.lcmp, 1) := by decide +kernel
theorem dX3_multiply_37 : decode cX3_multiply 37 = .ok (.ifCond .eq 8, 3) := by decide +kernel
theorem dX3_multiply_40 : decode cX3_multiply 40 = .ok (.lload 4, 2) := by decide +kernel
theorem dX3_multiply_42 : decode cX3_multiply 42 = .ok (.goto 8, 3) := by decide +kernel
theorem dX3_multiply_45 : decode cX3_multiply 45 = .ok (.aload_n 0, 1) := by decide +kernel
theorem dX3_multiply_46 : decode cX3_multiply 46 = .ok (.iload_n 3, 1) := by decide +kernel
theorem dX3_multiply_47 : decode cX3_multiply 47 = .ok (.invokevirtual 85, 3) := by decide +kernel
theorem dX3_multiply_50 : decode cX3_multiply 50 = .ok (.lreturn, 1) := by decide +kernel
set_option maxRecDepth 20000 in
theorem ggX3_derives_X3_clears : GoodIn wsX3_derives wsX3_clears := goodIn_r _ [7, 1, 8, 9, 10, 6, 11, 12, 20, 21, 22, 23, 24, 25, 26, 27] (by decide +kernel) (by decide +kernel)
set_option maxRecDepth 20000 in
theorem gX3_derives_X3_clears : GoodIn wsX3_derives (wsV RX3 103 RX3 yX3_clears wsX3_clears) := goodIn_app (goodIn_of _ (by decide +kernel)) ggX3_derives_X3_clears
set_option maxRecDepth 20000 in
theorem ggX3_derives_X3_of : GoodIn wsX3_derives wsX3_of := goodIn_r _ [16, 12, 20, 21, 22, 23, 24, 25, 26, 27] (by decide +kernel) (by decide +kernel)
set_option maxRecDepth 20000 in
theorem gX3_derives_X3_of : GoodIn wsX3_derives (wsV RX3 53 RX3 yX3_of wsX3_of) := goodIn_app (goodIn_of _ (by decide +kernel)) ggX3_derives_X3_of
set_option maxRecDepth 20000 in
theorem ggX3_derives_X3_sets : GoodIn wsX3_derives wsX3_sets := goodIn_r _ [11, 12, 20, 21, 22, 23, 24, 25, 26, 27] (by decide +kernel) (by decide +kernel)
set_option maxRecDepth 20000 in
theorem gX3_derives_X3_sets : GoodIn wsX3_derives (wsV RX3 49 RX3 yX3_sets wsX3_sets) := goodIn_app (goodIn_of _ (by decide +kernel)) ggX3_derives_X3_sets
set_option maxRecDepth 20000 in
theorem ggX3_derives_X3_rounded : GoodIn wsX3_derives wsX3_rounded := goodIn_r _ [19, 2] (by decide +kernel) (by decide +kernel)
set_option maxRecDepth 20000 in
theorem gX3_derives_X3_rounded : GoodIn wsX3_derives (va_wsS RX3 88 yX3_rounded wsX3_rounded) := goodIn_app (goodIn_of _ (by decide +kernel)) ggX3_derives_X3_rounded
theorem dX3_derives_0 : decode cX3_derives 0 = .ok (.aload_n 0, 1) := by decide +kernel
theorem dX3_derives_1 : decode cX3_derives 1 = .ok (.getfield 13, 3) := by decide +kernel
theorem dX3_derives_4 : decode cX3_derives 4 = .ok (.iload_n 1, 1) := by decide +kernel
theorem dX3_derives_5 : decode cX3_derives 5 = .ok (.iaload, 1) := by decide +kernel
theorem dX3_derives_6 : decode cX3_derives 6 = .ok (.istore_n 2, 1) := by decide +kernel
theorem dX3_derives_7 : decode cX3_derives 7 = .ok (.aload_n 0, 1) := by decide +kernel
theorem dX3_derives_8 : decode cX3_derives 8 = .ok (.bipush 8, 2) := by decide +kernel
theorem dX3_derives_10 : decode cX3_derives 10 = .ok (.iload_n 2, 1) := by decide +kernel
theorem dX3_derives_11 : decode cX3_derives 11 = .ok (.invokevirtual 103, 3) := by decide +kernel
theorem dX3_derives_14 : decode cX3_derives 14 = .ok (.iload_n 2, 1) := by decide +kernel
theorem dX3_derives_15 : decode cX3_derives 15 = .ok (.istore_n 3, 1) := by decide +kernel
theorem dX3_derives_16 : decode cX3_derives 16 = .ok (.iload_n 3, 1) := by decide +kernel
theorem dX3_derives_17 : decode cX3_derives 17 = .ok (.ifCond .le 41, 3) := by decide +kernel
theorem dX3_derives_20 : decode cX3_derives 20 = .ok (.aload_n 0, 1) := by decide +kernel
end
section
theorem dX3_derives_21 : decode cX3_derives 21 = .ok (.bipush 8, 2) := by decide +kernel
theorem dX3_derives_23 : decode cX3_derives 23 = .ok (.iload_n 3, 1) := by decide +kernel
theorem dX3_derives_24 : decode cX3_derives 24 = .ok (.iconst 1, 1) := by decide +kernel
theorem dX3_derives_25 : decode cX3_derives 25 = .ok (.isub, 1) := by decide +kernel
theorem dX3_derives_26 : decode cX3_derives 26 = .ok (.aload_n 0, 1) := by decide +kernel
theorem dX3_derives_27 : decode cX3_derives 27 = .ok (.bipush 8, 2) := by decide +kernel
theorem dX3_derives_29 : decode cX3_derives 29 = .ok (.iload_n 3, 1) := by decide +kernel
theorem dX3_derives_30 : decode cX3_derives 30 = .ok (.iconst 1, 1) := by decide +kernel
theorem dX3_derives_31 : decode cX3_derives 31 = .ok (.iadd, 1) := by decide +kernel
theorem dX3_derives_32 : decode cX3_derives 32 = .ok (.invokevirtual 53, 3) := by decide +kernel
theorem dX3_derives_35 : decode cX3_derives 35 = .ok (.ldc2_w 47, 3) := by decide +kernel
theorem dX3_derives_38 : decode cX3_derives 38 = .ok (.iload_n 3, 1) := by decide +kernel
theorem dX3_derives_39 : decode cX3_derives 39 = .ok (.i2l, 1) := by decide +kernel
theorem dX3_derives_40 : decode cX3_derives 40 = .ok (.lmul, 1) := by decide +kernel
theorem dX3_derives_41 : decode cX3_derives 41 = .ok (.aload_n 0, 1) := by decide +kernel
theorem dX3_derives_42 : decode cX3_derives 42 = .ok (.iload_n 1, 1) := by decide +kernel
theorem dX3_derives_43 : decode cX3_derives 43 = .ok (.iload_n 3, 1) := by decide +kernel
theorem dX3_derives_44 : decode cX3_derives 44 = .ok (.invokevirtual 53, 3) := by decide +kernel
theorem dX3_derives_47 : decode cX3_derives 47 = .ok (.lmul, 1) := by decide +kernel
theorem dX3_derives_48 : decode cX3_derives 48 = .ok (.ladd, 1) := by decide +kernel
theorem dX3_derives_49 : decode cX3_derives 49 = .ok (.invokevirtual 49, 3) := by decide +kernel
theorem dX3_derives_52 : decode cX3_derives 52 = .ok (.iinc 3 (-1), 3) := by decide +kernel
theorem dX3_derives_55 : decode cX3_derives 55 = .ok (.goto (-39), 3) := by decide +kernel
theorem dX3_derives_58 : decode cX3_derives 58 = .ok (.aload_n 0, 1) := by decide +kernel
theorem dX3_derives_59 : decode cX3_derives 59 = .ok (.bipush 8, 2) := by decide +kernel
theorem dX3_derives_61 : decode cX3_derives 61 = .ok (.iconst 0, 1) := by decide +kernel
theorem dX3_derives_62 : decode cX3_derives 62 = .ok (.aload_n 0, 1) := by decide +kernel
theorem dX3_derives_63 : decode cX3_derives 63 = .ok (.bipush 8, 2) := by decide +kernel
theorem dX3_derives_65 : decode cX3_derives 65 = .ok (.iconst 0, 1) := by decide +kernel
theorem dX3_derives_66 : decode cX3_derives 66 = .ok (.invokevirtual 53, 3) := by decide +kernel
theorem dX3_derives_69 : decode cX3_derives 69 = .ok (.ldc2_w 47, 3) := by decide +kernel
theorem dX3_derives_72 : decode cX3_derives 72 = .ok (.invokestatic 88, 3) := by decide +kernel
theorem dX3_derives_75 : decode cX3_derives 75 = .ok (.invokevirtual 49, 3) := by decide +kernel
theorem dX3_derives_78 : decode cX3_derives 78 = .ok (.return_, 1) := by decide +kernel
set_option maxRecDepth 20000 in
theorem ggX3_differentiate_X3_isSeries : GoodIn wsX3_differentiate wsX3_isSeries := goodIn_r _ [5, 6, 7, 8, 4, 9] (by decide +kernel) (by decide +kernel)
set_option maxRecDepth 20000 in
theorem gX3_differentiate_X3_isSeries : GoodIn wsX3_differentiate (va_wsS RX3 75 yX3_isSeries wsX3_isSeries) := goodIn_app (goodIn_of _ (by decide +kernel)) ggX3_differentiate_X3_isSeries
set_option maxRecDepth 20000 in
theorem ggX3_differentiate_X3_derives : GoodIn wsX3_differentiate wsX3_derives := goodIn_r _ [13, 14, 15, 16, 17, 18, 4, 19, 20, 21, 22, 23, 24, 25, 26, 27, 28, 29, 30, 31, 50, 51, 52, 53, 54, 55, 56, 57] (by decide +kernel) (by decide +kernel)
set_option maxRecDepth 20000 in
theorem gX3_differentiate_X3_derives : GoodIn wsX3_differentiate (wsV RX3 111 RX3 yX3_derives wsX3_derives) := goodIn_app (goodIn_of _ (by decide +kernel)) ggX3_differentiate_X3_derives
set_option maxRecDepth 20000 in
theorem ggX3_differentiate_X3_gives : GoodIn wsX3_differentiate wsX3_gives := goodIn_r _ [35, 14, 36, 37, 38, 4, 39, 40, 41, 42, 25, 26, 27, 28, 24, 43, 44, 45, 46, 47, 48, 49, 20, 21, 22, 23, 50, 51, 52, 53, 54, 55, 56, 57] (by decide +kernel) (by decide +kernel)
set_option maxRecDepth 20000 in
theorem gX3_differentiate_X3_gives : GoodIn wsX3_differentiate (wsV RX3 85 RX3 yX3_gives wsX3_gives) := goodIn_app (goodIn_of _ (by decide +kernel)) ggX3_differentiate_X3_gives
theorem dX3_differentiate_0 : decode cX3_differentiate 0 = .ok (.iload_n 1, 1) := by decide +kernel
theorem dX3_differentiate_1 : decode cX3_differentiate 1 = .ok (.invokestatic 75, 3) := by decide +kernel
theorem dX3_differentiate_4 : decode cX3_differentiate 4 = .ok (.ifCond .eq 10, 3) := by decide +kernel
theorem dX3_differentiate_7 : decode cX3_differentiate 7 = .ok (.iload_n 2, 1) := by decide +kernel
theorem dX3_differentiate_8 : decode cX3_differentiate 8 = .ok (.invokestatic 75, 3) := by decide +kernel
theorem dX3_differentiate_11 : decode cX3_differentiate 11 = .ok (.ifCond .ne 7, 3) := by decide +kernel
theorem dX3_differentiate_14 : decode cX3_differentiate 14 = .ok (.ldc2_w 83, 3) := by decide +kernel
theorem dX3_differentiate_17 : decode cX3_differentiate 17 = .ok (.lreturn, 1) := by decide +kernel
theorem dX3_differentiate_18 : decode cX3_differentiate 18 = .ok (.aload_n 0, 1) := by decide +kernel
theorem dX3_differentiate_19 : decode cX3_differentiate 19 = .ok (.iload_n 1, 1) := by decide +kernel
theorem dX3_differentiate_20 : decode cX3_differentiate 20 = .ok (.invokevirtual 111, 3) := by decide +kernel
theorem dX3_differentiate_23 : decode cX3_differentiate 23 = .ok (.aload_n 0, 1) := by decide +kernel
theorem dX3_differentiate_24 : decode cX3_differentiate 24 = .ok (.iload_n 2, 1) := by decide +kernel
theorem dX3_differentiate_25 : decode cX3_differentiate 25 = .ok (.invokevirtual 85, 3) := by decide +kernel
theorem dX3_differentiate_28 : decode cX3_differentiate 28 = .ok (.lreturn, 1) := by decide +kernel
set_option maxRecDepth 20000 in
theorem ggX3_antidifferentiate_X3_isSeries : GoodIn wsX3_antidifferentiate wsX3_isSeries := goodIn_r _ [7, 8, 9, 10, 6, 11] (by decide +kernel) (by decide +kernel)
set_option maxRecDepth 20000 in
theorem gX3_antidifferentiate_X3_isSeries : GoodIn wsX3_antidifferentiate (va_wsS RX3 75 yX3_isSeries wsX3_isSeries) := goodIn_app (goodIn_of _ (by decide +kernel)) ggX3_antidifferentiate_X3_isSeries
set_option maxRecDepth 20000 in
theorem ggX3_antidifferentiate_X3_clears : GoodIn wsX3_antidifferentiate wsX3_clears := goodIn_r _ [15, 2, 16, 17, 18, 6, 19, 20, 46, 47, 48, 49, 50, 51, 52, 53] (by decide +kernel) (by decide +kernel)
set_option maxRecDepth 20000 in
theorem gX3_antidifferentiate_X3_clears : GoodIn wsX3_antidifferentiate (wsV RX3 103 RX3 yX3_clears wsX3_clears) := goodIn_app (goodIn_of _ (by decide +kernel)) ggX3_antidifferentiate_X3_clears
set_option maxRecDepth 20000 in
theorem ggX3_antidifferentiate_X3_of : GoodIn wsX3_antidifferentiate wsX3_of := goodIn_r _ [24, 20, 46, 47, 48, 49, 50, 51, 52, 53] (by decide +kernel) (by decide +kernel)
set_option maxRecDepth 20000 in
theorem gX3_antidifferentiate_X3_of : GoodIn wsX3_antidifferentiate (wsV RX3 53 RX3 yX3_of wsX3_of) := goodIn_app (goodIn_of _ (by decide +kernel)) ggX3_antidifferentiate_X3_of
set_option maxRecDepth 20000 in
theorem ggX3_antidifferentiate_X3_rounded : GoodIn wsX3_antidifferentiate wsX3_rounded := goodIn_r _ [27, 3] (by decide +kernel) (by decide +kernel)
set_option maxRecDepth 20000 in
theorem gX3_antidifferentiate_X3_rounded : GoodIn wsX3_antidifferentiate (va_wsS RX3 88 yX3_rounded wsX3_rounded) := goodIn_app (goodIn_of _ (by decide +kernel)) ggX3_antidifferentiate_X3_rounded
set_option maxRecDepth 20000 in
theorem ggX3_antidifferentiate_X3_sets : GoodIn wsX3_antidifferentiate wsX3_sets := goodIn_r _ [19, 20, 46, 47, 48, 49, 50, 51, 52, 53] (by decide +kernel) (by decide +kernel)
set_option maxRecDepth 20000 in
theorem gX3_antidifferentiate_X3_sets : GoodIn wsX3_antidifferentiate (wsV RX3 49 RX3 yX3_sets wsX3_sets) := goodIn_app (goodIn_of _ (by decide +kernel)) ggX3_antidifferentiate_X3_sets
set_option maxRecDepth 20000 in
theorem ggX3_antidifferentiate_X3_gives : GoodIn wsX3_antidifferentiate wsX3_gives := goodIn_r _ [31, 2, 32, 33, 34, 6, 35, 36, 37, 38, 21, 22, 23, 24, 20, 39, 40, 41, 42, 43, 44, 45, 16, 17, 18, 19, 46, 47, 48, 49, 50, 51, 52, 53] (by decide +kernel) (by decide +kernel)
set_option maxRecDepth 20000 in
theorem gX3_antidifferentiate_X3_gives : GoodIn wsX3_antidifferentiate (wsV RX3 85 RX3 yX3_gives wsX3_gives) := goodIn_app (goodIn_of _ (by decide +kernel)) ggX3_antidifferentiate_X3_gives
theorem dX3_antidifferentiate_0 : decode cX3_antidifferentiate 0 = .ok (.iload_n 1, 1) := by decide +kernel
theorem dX3_antidifferentiate_1 : decode cX3_antidifferentiate 1 = .ok (.invokestatic 75, 3) := by decide +kernel
theorem dX3_antidifferentiate_4 : decode cX3_antidifferentiate 4 = .ok (.ifCond .eq 10, 3) := by decide +kernel
theorem dX3_antidifferentiate_7 : decode cX3_antidifferentiate 7 = .ok (.iload_n 2, 1) := by decide +kernel
theorem dX3_antidifferentiate_8 : decode cX3_antidifferentiate 8 = .ok (.invokestatic 75, 3) := by decide +kernel
theorem dX3_antidifferentiate_11 : decode cX3_antidifferentiate 11 = .ok (.ifCond .ne 7, 3) := by decide +kernel
theorem dX3_antidifferentiate_14 : decode cX3_antidifferentiate 14 = .ok (.ldc2_w 83, 3) := by decide +kernel
theorem dX3_antidifferentiate_17 : decode cX3_antidifferentiate 17 = .ok (.lreturn, 1) := by decide +kernel
theorem dX3_antidifferentiate_18 : decode cX3_antidifferentiate 18 = .ok (.aload_n 0, 1) := by decide +kernel
theorem dX3_antidifferentiate_19 : decode cX3_antidifferentiate 19 = .ok (.getfield 13, 3) := by decide +kernel
theorem dX3_antidifferentiate_22 : decode cX3_antidifferentiate 22 = .ok (.iload_n 1, 1) := by decide +kernel
theorem dX3_antidifferentiate_23 : decode cX3_antidifferentiate 23 = .ok (.iaload, 1) := by decide +kernel
theorem dX3_antidifferentiate_24 : decode cX3_antidifferentiate 24 = .ok (.iconst 1, 1) := by decide +kernel
theorem dX3_antidifferentiate_25 : decode cX3_antidifferentiate 25 = .ok (.iadd, 1) := by decide +kernel
theorem dX3_antidifferentiate_26 : decode cX3_antidifferentiate 26 = .ok (.istore_n 3, 1) := by decide +kernel
theorem dX3_antidifferentiate_27 : decode cX3_antidifferentiate 27 = .ok (.aload_n 0, 1) := by decide +kernel
theorem dX3_antidifferentiate_28 : decode cX3_antidifferentiate 28 = .ok (.bipush 8, 2) := by decide +kernel
theorem dX3_antidifferentiate_30 : decode cX3_antidifferentiate 30 = .ok (.iload_n 3, 1) := by decide +kernel
theorem dX3_antidifferentiate_31 : decode cX3_antidifferentiate 31 = .ok (.invokevirtual 103, 3) := by decide +kernel
theorem dX3_antidifferentiate_34 : decode cX3_antidifferentiate 34 = .ok (.lconst 0, 1) := by decide +kernel
theorem dX3_antidifferentiate_35 : decode cX3_antidifferentiate 35 = .ok (.lstore 4, 2) := by decide +kernel
theorem dX3_antidifferentiate_37 : decode cX3_antidifferentiate 37 = .ok (.iconst 1, 1) := by decide +kernel
theorem dX3_antidifferentiate_38 : decode cX3_antidifferentiate 38 = .ok (.istore 6, 2) := by decide +kernel
theorem dX3_antidifferentiate_40 : decode cX3_antidifferentiate 40 = .ok (.iload 6, 2) := by decide +kernel
theorem dX3_antidifferentiate_42 : decode cX3_antidifferentiate 42 = .ok (.iload_n 3, 1) := by decide +kernel
theorem dX3_antidifferentiate_43 : decode cX3_antidifferentiate 43 = .ok (.if_icmp .gt 84, 3) := by decide +kernel
theorem dX3_antidifferentiate_46 : decode cX3_antidifferentiate 46 = .ok (.iload 6, 2) := by decide +kernel
theorem dX3_antidifferentiate_48 : decode cX3_antidifferentiate 48 = .ok (.iconst 1, 1) := by decide +kernel
theorem dX3_antidifferentiate_49 : decode cX3_antidifferentiate 49 = .ok (.if_icmp .ne 9, 3) := by decide +kernel
theorem dX3_antidifferentiate_52 : decode cX3_antidifferentiate 52 = .ok (.ldc2_w 47, 3) := by decide +kernel
theorem dX3_antidifferentiate_55 : decode cX3_antidifferentiate 55 = .ok (.goto 4, 3) := by decide +kernel
theorem dX3_antidifferentiate_58 : decode cX3_antidifferentiate 58 = .ok (.lconst 1, 1) := by decide +kernel
theorem dX3_antidifferentiate_59 : decode cX3_antidifferentiate 59 = .ok (.aload_n 0, 1) := by decide +kernel
theorem dX3_antidifferentiate_60 : decode cX3_antidifferentiate 60 = .ok (.iload_n 1, 1) := by decide +kernel
theorem dX3_antidifferentiate_61 : decode cX3_antidifferentiate 61 = .ok (.iload 6, 2) := by decide +kernel
theorem dX3_antidifferentiate_63 : decode cX3_antidifferentiate 63 = .ok (.iconst 1, 1) := by decide +kernel
theorem dX3_antidifferentiate_64 : decode cX3_antidifferentiate 64 = .ok (.isub, 1) := by decide +kernel
theorem dX3_antidifferentiate_65 : decode cX3_antidifferentiate 65 = .ok (.invokevirtual 53, 3) := by decide +kernel
theorem dX3_antidifferentiate_68 : decode cX3_antidifferentiate 68 = .ok (.lmul, 1) := by decide +kernel
theorem dX3_antidifferentiate_69 : decode cX3_antidifferentiate 69 = .ok (.aload_n 0, 1) := by decide +kernel
theorem dX3_antidifferentiate_70 : decode cX3_antidifferentiate 70 = .ok (.iload_n 1, 1) := by decide +kernel
theorem dX3_antidifferentiate_71 : decode cX3_antidifferentiate 71 = .ok (.iload 6, 2) := by decide +kernel
theorem dX3_antidifferentiate_73 : decode cX3_antidifferentiate 73 = .ok (.iconst 1, 1) := by decide +kernel
theorem dX3_antidifferentiate_74 : decode cX3_antidifferentiate 74 = .ok (.iadd, 1) := by decide +kernel
theorem dX3_antidifferentiate_75 : decode cX3_antidifferentiate 75 = .ok (.invokevirtual 53, 3) := by decide +kernel
theorem dX3_antidifferentiate_78 : decode cX3_antidifferentiate 78 = .ok (.lsub, 1) := by decide +kernel
theorem dX3_antidifferentiate_79 : decode cX3_antidifferentiate 79 = .ok (.ldc2_w 47, 3) := by decide +kernel
theorem dX3_antidifferentiate_82 : decode cX3_antidifferentiate 82 = .ok (.iload 6, 2) := by decide +kernel
theorem dX3_antidifferentiate_84 : decode cX3_antidifferentiate 84 = .ok (.i2l, 1) := by decide +kernel
theorem dX3_antidifferentiate_85 : decode cX3_antidifferentiate 85 = .ok (.lmul, 1) := by decide +kernel
theorem dX3_antidifferentiate_86 : decode cX3_antidifferentiate 86 = .ok (.invokestatic 88, 3) := by decide +kernel
theorem dX3_antidifferentiate_89 : decode cX3_antidifferentiate 89 = .ok (.lstore 7, 2) := by decide +kernel
theorem dX3_antidifferentiate_91 : decode cX3_antidifferentiate 91 = .ok (.aload_n 0, 1) := by decide +kernel
theorem dX3_antidifferentiate_92 : decode cX3_antidifferentiate 92 = .ok (.bipush 8, 2) := by decide +kernel
theorem dX3_antidifferentiate_94 : decode cX3_antidifferentiate 94 = .ok (.iload 6, 2) := by decide +kernel
theorem dX3_antidifferentiate_96 : decode cX3_antidifferentiate 96 = .ok (.lload 7, 2) := by decide +kernel
theorem dX3_antidifferentiate_98 : decode cX3_antidifferentiate 98 = .ok (.invokevirtual 49, 3) := by decide +kernel
theorem dX3_antidifferentiate_101 : decode cX3_antidifferentiate 101 = .ok (.lload 4, 2) := by decide +kernel
theorem dX3_antidifferentiate_103 : decode cX3_antidifferentiate 103 = .ok (.iload 6, 2) := by decide +kernel
theorem dX3_antidifferentiate_105 : decode cX3_antidifferentiate 105 = .ok (.iconst 2, 1) := by decide +kernel
theorem dX3_antidifferentiate_106 : decode cX3_antidifferentiate 106 = .ok (.irem, 1) := by decide +kernel
theorem dX3_antidifferentiate_107 : decode cX3_antidifferentiate 107 = .ok (.ifCond .ne 8, 3) := by decide +kernel
theorem dX3_antidifferentiate_110 : decode cX3_antidifferentiate 110 = .ok (.lload 7, 2) := by decide +kernel
theorem dX3_antidifferentiate_112 : decode cX3_antidifferentiate 112 = .ok (.goto 6, 3) := by decide +kernel
theorem dX3_antidifferentiate_115 : decode cX3_antidifferentiate 115 = .ok (.lload 7, 2) := by decide +kernel
theorem dX3_antidifferentiate_117 : decode cX3_antidifferentiate 117 = .ok (.lneg, 1) := by decide +kernel
theorem dX3_antidifferentiate_118 : decode cX3_antidifferentiate 118 = .ok (.ladd, 1) := by decide +kernel
theorem dX3_antidifferentiate_119 : decode cX3_antidifferentiate 119 = .ok (.lstore 4, 2) := by decide +kernel
theorem dX3_antidifferentiate_121 : decode cX3_antidifferentiate 121 = .ok (.iinc 6 1, 3) := by decide +kernel
theorem dX3_antidifferentiate_124 : decode cX3_antidifferentiate 124 = .ok (.goto (-84), 3) := by decide +kernel
theorem dX3_antidifferentiate_127 : decode cX3_antidifferentiate 127 = .ok (.aload_n 0, 1) := by decide +kernel
theorem dX3_antidifferentiate_128 : decode cX3_antidifferentiate 128 = .ok (.bipush 8, 2) := by decide +kernel
theorem dX3_antidifferentiate_130 : decode cX3_antidifferentiate 130 = .ok (.iconst 0, 1) := by decide +kernel
theorem dX3_antidifferentiate_131 : decode cX3_antidifferentiate 131 = .ok (.lload 4, 2) := by decide +kernel
theorem dX3_antidifferentiate_133 : decode cX3_antidifferentiate 133 = .ok (.lneg, 1) := by decide +kernel
theorem dX3_antidifferentiate_134 : decode cX3_antidifferentiate 134 = .ok (.invokevirtual 49, 3) := by decide +kernel
theorem dX3_antidifferentiate_137 : decode cX3_antidifferentiate 137 = .ok (.aload_n 0, 1) := by decide +kernel
theorem dX3_antidifferentiate_138 : decode cX3_antidifferentiate 138 = .ok (.iload_n 2, 1) := by decide +kernel
theorem dX3_antidifferentiate_139 : decode cX3_antidifferentiate 139 = .ok (.invokevirtual 85, 3) := by decide +kernel
theorem dX3_antidifferentiate_142 : decode cX3_antidifferentiate 142 = .ok (.lreturn, 1) := by decide +kernel
set_option maxRecDepth 20000 in
theorem ggX3_goes_X3_multiplies : GoodIn wsX3_goes wsX3_multiplies := goodIn_r _ [6, 1, 7, 8, 9, 10, 5, 11, 12, 13, 14, 15, 16, 17, 18, 19, 20, 21, 22, 23, 24, 25, 26, 27, 28, 29, 30, 31, 32, 33, 34, 39, 40, 41, 42, 43, 44, 45, 46] (by decide +kernel) (by decide +kernel)
set_option maxRecDepth 20000 in
theorem gX3_goes_X3_multiplies : GoodIn wsX3_goes (wsV RX3 108 RX3 yX3_multiplies wsX3_multiplies) := goodIn_app (goodIn_of _ (by decide +kernel)) ggX3_goes_X3_multiplies
set_option maxRecDepth 20000 in
theorem ggX3_goes_X3_copies : GoodIn wsX3_goes wsX3_copies := goodIn_r _ [38, 1, 17, 18, 19, 5, 20, 16, 12, 13, 14, 15, 39, 40, 41, 42, 43, 44, 45, 46] (by decide +kernel) (by decide +kernel)
set_option maxRecDepth 20000 in
theorem gX3_goes_X3_copies : GoodIn wsX3_goes (wsV RX3 71 RX3 yX3_copies wsX3_copies) := goodIn_app (goodIn_of _ (by decide +kernel)) ggX3_goes_X3_copies
set_option maxRecDepth 20000 in
theorem ggX3_goes_X3_of : GoodIn wsX3_goes wsX3_of := goodIn_r _ [20, 16, 39, 40, 41, 42, 43, 44, 45, 46] (by decide +kernel) (by decide +kernel)
set_option maxRecDepth 20000 in
theorem gX3_goes_X3_of : GoodIn wsX3_goes (wsV RX3 53 RX3 yX3_of wsX3_of) := goodIn_app (goodIn_of _ (by decide +kernel)) ggX3_goes_X3_of
set_option maxRecDepth 20000 in
theorem ggX3_goes_X3_sets : GoodIn wsX3_goes wsX3_sets := goodIn_r _ [15, 16, 39, 40, 41, 42, 43, 44, 45, 46] (by decide +kernel) (by decide +kernel)
set_option maxRecDepth 20000 in
theorem gX3_goes_X3_sets : GoodIn wsX3_goes (wsV RX3 49 RX3 yX3_sets wsX3_sets) := goodIn_app (goodIn_of _ (by decide +kernel)) ggX3_goes_X3_sets
set_option maxRecDepth 20000 in
theorem ggX3_goes_X3_trims : GoodIn wsX3_goes wsX3_trims := goodIn_r _ [28, 1, 29, 30, 31, 17, 18, 19, 5, 20, 16, 32, 33, 34, 39, 40, 41, 42, 43, 44, 45, 46] (by decide +kernel) (by decide +kernel)
set_option maxRecDepth 20000 in
theorem gX3_goes_X3_trims : GoodIn wsX3_goes (wsV RX3 67 RX3 yX3_trims wsX3_trims) := goodIn_app (goodIn_of _ (by decide +kernel)) ggX3_goes_X3_trims
theorem dX3_goes_0 : decode cX3_goes 0 = .ok (.aload_n 0, 1) := by decide +kernel
theorem dX3_goes_1 : decode cX3_goes 1 = .ok (.iload_n 1, 1) := by decide +kernel
theorem dX3_goes_2 : decode cX3_goes 2 = .ok (.bipush 9, 2) := by decide +kernel
theorem dX3_goes_4 : decode cX3_goes 4 = .ok (.invokevirtual 108, 3) := by decide +kernel
theorem dX3_goes_7 : decode cX3_goes 7 = .ok (.lstore 5, 2) := by decide +kernel
theorem dX3_goes_9 : decode cX3_goes 9 = .ok (.lload 5, 2) := by decide +kernel
theorem dX3_goes_11 : decode cX3_goes 11 = .ok (.lconst 0, 1) := by decide +kernel
theorem dX3_goes_12 : decode cX3_goes 12 = .ok (.lcmp, 1) := by decide +kernel
theorem dX3_goes_13 : decode cX3_goes 13 = .ok (.ifCond .eq 6, 3) := by decide +kernel
theorem dX3_goes_16 : decode cX3_goes 16 = .ok (.lload 5, 2) := by decide +kernel
theorem dX3_goes_18 : decode cX3_goes 18 = .ok (.lreturn, 1) := by decide +kernel
theorem dX3_goes_19 : decode cX3_goes 19 = .ok (.aload_n 0, 1) := by decide +kernel
theorem dX3_goes_20 : decode cX3_goes 20 = .ok (.bipush 8, 2) := by decide +kernel
theorem dX3_goes_22 : decode cX3_goes 22 = .ok (.bipush 11, 2) := by decide +kernel
theorem dX3_goes_24 : decode cX3_goes 24 = .ok (.invokevirtual 71, 3) := by decide +kernel
theorem dX3_goes_27 : decode cX3_goes 27 = .ok (.iconst 0, 1) := by decide +kernel
theorem dX3_goes_28 : decode cX3_goes 28 = .ok (.istore 7, 2) := by decide +kernel
theorem dX3_goes_30 : decode cX3_goes 30 = .ok (.iload 7, 2) := by decide +kernel
theorem dX3_goes_32 : decode cX3_goes 32 = .ok (.aload_n 0, 1) := by decide +kernel
theorem dX3_goes_33 : decode cX3_goes 33 = .ok (.getfield 13, 3) := by decide +kernel
theorem dX3_goes_36 : decode cX3_goes 36 = .ok (.bipush 11, 2) := by decide +kernel
theorem dX3_goes_38 : decode cX3_goes 38 = .ok (.iaload, 1) := by decide +kernel
theorem dX3_goes_39 : decode cX3_goes 39 = .ok (.if_icmp .gt 28, 3) := by decide +kernel
theorem dX3_goes_42 : decode cX3_goes 42 = .ok (.aload_n 0, 1) := by decide +kernel
theorem dX3_goes_43 : decode cX3_goes 43 = .ok (.bipush 11, 2) := by decide +kernel
theorem dX3_goes_45 : decode cX3_goes 45 = .ok (.iload 7, 2) := by decide +kernel
theorem dX3_goes_47 : decode cX3_goes 47 = .ok (.iload_n 2, 1) := by decide +kernel
theorem dX3_goes_48 : decode cX3_goes 48 = .ok (.i2l, 1) := by decide +kernel
theorem dX3_goes_49 : decode cX3_goes 49 = .ok (.aload_n 0, 1) := by decide +kernel
theorem dX3_goes_50 : decode cX3_goes 50 = .ok (.bipush 11, 2) := by decide +kernel
theorem dX3_goes_52 : decode cX3_goes 52 = .ok (.iload 7, 2) := by decide +kernel
theorem dX3_goes_54 : decode cX3_goes 54 = .ok (.invokevirtual 53, 3) := by decide +kernel
theorem dX3_goes_57 : decode cX3_goes 57 = .ok (.lmul, 1) := by decide +kernel
theorem dX3_goes_58 : decode cX3_goes 58 = .ok (.invokevirtual 49, 3) := by decide +kernel
theorem dX3_goes_61 : decode cX3_goes 61 = .ok (.iinc 7 1, 3) := by decide +kernel
theorem dX3_goes_64 : decode cX3_goes 64 = .ok (.goto (-34), 3) := by decide +kernel
theorem dX3_goes_67 : decode cX3_goes 67 = .ok (.aload_n 0, 1) := by decide +kernel
theorem dX3_goes_68 : decode cX3_goes 68 = .ok (.bipush 11, 2) := by decide +kernel
theorem dX3_goes_70 : decode cX3_goes 70 = .ok (.iconst 0, 1) := by decide +kernel
theorem dX3_goes_71 : decode cX3_goes 71 = .ok (.aload_n 0, 1) := by decide +kernel
theorem dX3_goes_72 : decode cX3_goes 72 = .ok (.bipush 11, 2) := by decide +kernel
theorem dX3_goes_74 : decode cX3_goes 74 = .ok (.iconst 0, 1) := by decide +kernel
theorem dX3_goes_75 : decode cX3_goes 75 = .ok (.invokevirtual 53, 3) := by decide +kernel
theorem dX3_goes_78 : decode cX3_goes 78 = .ok (.lload_n 3, 1) := by decide +kernel
theorem dX3_goes_79 : decode cX3_goes 79 = .ok (.ladd, 1) := by decide +kernel
theorem dX3_goes_80 : decode cX3_goes 80 = .ok (.invokevirtual 49, 3) := by decide +kernel
theorem dX3_goes_83 : decode cX3_goes 83 = .ok (.aload_n 0, 1) := by decide +kernel
theorem dX3_goes_84 : decode cX3_goes 84 = .ok (.getfield 13, 3) := by decide +kernel
theorem dX3_goes_87 : decode cX3_goes 87 = .ok (.bipush 11, 2) := by decide +kernel
theorem dX3_goes_89 : decode cX3_goes 89 = .ok (.aload_n 0, 1) := by decide +kernel
theorem dX3_goes_90 : decode cX3_goes 90 = .ok (.getfield 13, 3) := by decide +kernel
theorem dX3_goes_93 : decode cX3_goes 93 = .ok (.bipush 10, 2) := by decide +kernel
theorem dX3_goes_95 : decode cX3_goes 95 = .ok (.iaload, 1) := by decide +kernel
theorem dX3_goes_96 : decode cX3_goes 96 = .ok (.aload_n 0, 1) := by decide +kernel
theorem dX3_goes_97 : decode cX3_goes 97 = .ok (.getfield 13, 3) := by decide +kernel
theorem dX3_goes_100 : decode cX3_goes 100 = .ok (.bipush 11, 2) := by decide +kernel
theorem dX3_goes_102 : decode cX3_goes 102 = .ok (.iaload, 1) := by decide +kernel
theorem dX3_goes_103 : decode cX3_goes 103 = .ok (.if_icmp .le 13, 3) := by decide +kernel
theorem dX3_goes_106 : decode cX3_goes 106 = .ok (.aload_n 0, 1) := by decide +kernel
theorem dX3_goes_107 : decode cX3_goes 107 = .ok (.getfield 13, 3) := by decide +kernel
theorem dX3_goes_110 : decode cX3_goes 110 = .ok (.bipush 10, 2) := by decide +kernel
theorem dX3_goes_112 : decode cX3_goes 112 = .ok (.iaload, 1) := by decide +kernel
theorem dX3_goes_113 : decode cX3_goes 113 = .ok (.goto 10, 3) := by decide +kernel
theorem dX3_goes_116 : decode cX3_goes 116 = .ok (.aload_n 0, 1) := by decide +kernel
theorem dX3_goes_117 : decode cX3_goes 117 = .ok (.getfield 13, 3) := by decide +kernel
theorem dX3_goes_120 : decode cX3_goes 120 = .ok (.bipush 11, 2) := by decide +kernel
theorem dX3_goes_122 : decode cX3_goes 122 = .ok (.iaload, 1) := by decide +kernel
theorem dX3_goes_123 : decode cX3_goes 123 = .ok (.iastore, 1) := by decide +kernel
theorem dX3_goes_124 : decode cX3_goes 124 = .ok (.iconst 0, 1) := by decide +kernel
theorem dX3_goes_125 : decode cX3_goes 125 = .ok (.istore 7, 2) := by decide +kernel
theorem dX3_goes_127 : decode cX3_goes 127 = .ok (.iload 7, 2) := by decide +kernel
theorem dX3_goes_129 : decode cX3_goes 129 = .ok (.aload_n 0, 1) := by decide +kernel
theorem dX3_goes_130 : decode cX3_goes 130 = .ok (.getfield 13, 3) := by decide +kernel
theorem dX3_goes_133 : decode cX3_goes 133 = .ok (.bipush 11, 2) := by decide +kernel
theorem dX3_goes_135 : decode cX3_goes 135 = .ok (.iaload, 1) := by decide +kernel
theorem dX3_goes_136 : decode cX3_goes 136 = .ok (.if_icmp .gt 34, 3) := by decide +kernel
theorem dX3_goes_139 : decode cX3_goes 139 = .ok (.aload_n 0, 1) := by decide +kernel
theorem dX3_goes_140 : decode cX3_goes 140 = .ok (.bipush 11, 2) := by decide +kernel
theorem dX3_goes_142 : decode cX3_goes 142 = .ok (.iload 7, 2) := by decide +kernel
theorem dX3_goes_144 : decode cX3_goes 144 = .ok (.aload_n 0, 1) := by decide +kernel
theorem dX3_goes_145 : decode cX3_goes 145 = .ok (.bipush 11, 2) := by decide +kernel
theorem dX3_goes_147 : decode cX3_goes 147 = .ok (.iload 7, 2) := by decide +kernel
theorem dX3_goes_149 : decode cX3_goes 149 = .ok (.invokevirtual 53, 3) := by decide +kernel
theorem dX3_goes_152 : decode cX3_goes 152 = .ok (.aload_n 0, 1) := by decide +kernel
theorem dX3_goes_153 : decode cX3_goes 153 = .ok (.bipush 10, 2) := by decide +kernel
theorem dX3_goes_155 : decode cX3_goes 155 = .ok (.iload 7, 2) := by decide +kernel
theorem dX3_goes_157 : decode cX3_goes 157 = .ok (.invokevirtual 53, 3) := by decide +kernel
theorem dX3_goes_160 : decode cX3_goes 160 = .ok (.lsub, 1) := by decide +kernel
theorem dX3_goes_161 : decode cX3_goes 161 = .ok (.invokevirtual 49, 3) := by decide +kernel
theorem dX3_goes_164 : decode cX3_goes 164 = .ok (.iinc 7 1, 3) := by decide +kernel
theorem dX3_goes_167 : decode cX3_goes 167 = .ok (.goto (-40), 3) := by decide +kernel
theorem dX3_goes_170 : decode cX3_goes 170 = .ok (.aload_n 0, 1) := by decide +kernel
theorem dX3_goes_171 : decode cX3_goes 171 = .ok (.bipush 11, 2) := by decide +kernel
theorem dX3_goes_173 : decode cX3_goes 173 = .ok (.invokevirtual 67, 3) := by decide +kernel
theorem dX3_goes_176 : decode cX3_goes 176 = .ok (.lreturn, 1) := by decide +kernel
set_option maxRecDepth 20000 in
theorem ggX3_compose_X3_isSeries : GoodIn wsX3_compose wsX3_isSeries := goodIn_r _ [6, 7, 8, 9, 5, 10] (by decide +kernel) (by decide +kernel)
set_option maxRecDepth 20000 in
theorem gX3_compose_X3_isSeries : GoodIn wsX3_compose (va_wsS RX3 75 yX3_isSeries wsX3_isSeries) := goodIn_app (goodIn_of _ (by decide +kernel)) ggX3_compose_X3_isSeries
set_option maxRecDepth 20000 in
theorem ggX3_compose_X3_clears : GoodIn wsX3_compose wsX3_clears := goodIn_r _ [14, 2, 15, 16, 17, 5, 18, 19, 51, 52, 53, 54, 55, 56, 57, 58] (by decide +kernel) (by decide +kernel)
set_option maxRecDepth 20000 in
theorem gX3_compose_X3_clears : GoodIn wsX3_compose (wsV RX3 103 RX3 yX3_clears wsX3_clears) := goodIn_app (goodIn_of _ (by decide +kernel)) ggX3_compose_X3_clears
set_option maxRecDepth 20000 in
theorem ggX3_compose_X3_of : GoodIn wsX3_compose wsX3_of := goodIn_r _ [23, 19, 51, 52, 53, 54, 55, 56, 57, 58] (by decide +kernel) (by decide +kernel)
set_option maxRecDepth 20000 in
theorem gX3_compose_X3_of : GoodIn wsX3_compose (wsV RX3 53 RX3 yX3_of wsX3_of) := goodIn_app (goodIn_of _ (by decide +kernel)) ggX3_compose_X3_of
set_option maxRecDepth 20000 in
theorem ggX3_compose_X3_goes : GoodIn wsX3_compose wsX3_goes := goodIn_r _ [27, 2, 28, 29, 30, 5, 31, 32, 11, 12, 13, 14, 15, 16, 17, 18, 19, 20, 21, 22, 23, 33, 34, 35, 36, 37, 38, 39, 40, 41, 42, 43, 44, 45, 46, 47, 48, 49, 50, 51, 52, 53, 54, 55, 56, 57, 58] (by decide +kernel) (by decide +kernel)
set_option maxRecDepth 20000 in
theorem gX3_compose_X3_goes : GoodIn wsX3_compose (wsV RX3 115 RX3 yX3_goes wsX3_goes) := goodIn_app (goodIn_of _ (by decide +kernel)) ggX3_compose_X3_goes
set_option maxRecDepth 20000 in
theorem ggX3_compose_X3_copies : GoodIn wsX3_compose wsX3_copies := goodIn_r _ [50, 2, 20, 21, 22, 5, 23, 19, 15, 16, 17, 18, 51, 52, 53, 54, 55, 56, 57, 58] (by decide +kernel) (by decide +kernel)
set_option maxRecDepth 20000 in
theorem gX3_compose_X3_copies : GoodIn wsX3_compose (wsV RX3 71 RX3 yX3_copies wsX3_copies) := goodIn_app (goodIn_of _ (by decide +kernel)) ggX3_compose_X3_copies
theorem dX3_compose_0 : decode cX3_compose 0 = .ok (.iload_n 1, 1) := by decide +kernel
theorem dX3_compose_1 : decode cX3_compose 1 = .ok (.invokestatic 75, 3) := by decide +kernel
theorem dX3_compose_4 : decode cX3_compose 4 = .ok (.ifCond .eq 17, 3) := by decide +kernel
theorem dX3_compose_7 : decode cX3_compose 7 = .ok (.iload_n 2, 1) := by decide +kernel
theorem dX3_compose_8 : decode cX3_compose 8 = .ok (.invokestatic 75, 3) := by decide +kernel
theorem dX3_compose_11 : decode cX3_compose 11 = .ok (.ifCond .eq 10, 3) := by decide +kernel
theorem dX3_compose_14 : decode cX3_compose 14 = .ok (.iload_n 3, 1) := by decide +kernel
theorem dX3_compose_15 : decode cX3_compose 15 = .ok (.invokestatic 75, 3) := by decide +kernel
theorem dX3_compose_18 : decode cX3_compose 18 = .ok (.ifCond .ne 7, 3) := by decide +kernel
theorem dX3_compose_21 : decode cX3_compose 21 = .ok (.ldc2_w 83, 3) := by decide +kernel
theorem dX3_compose_24 : decode cX3_compose 24 = .ok (.lreturn, 1) := by decide +kernel
theorem dX3_compose_25 : decode cX3_compose 25 = .ok (.aload_n 0, 1) := by decide +kernel
theorem dX3_compose_26 : decode cX3_compose 26 = .ok (.bipush 9, 2) := by decide +kernel
theorem dX3_compose_28 : decode cX3_compose 28 = .ok (.iconst 0, 1) := by decide +kernel
theorem dX3_compose_29 : decode cX3_compose 29 = .ok (.invokevirtual 103, 3) := by decide +kernel
theorem dX3_compose_32 : decode cX3_compose 32 = .ok (.aload_n 0, 1) := by decide +kernel
theorem dX3_compose_33 : decode cX3_compose 33 = .ok (.bipush 10, 2) := by decide +kernel
theorem dX3_compose_35 : decode cX3_compose 35 = .ok (.iconst 0, 1) := by decide +kernel
theorem dX3_compose_36 : decode cX3_compose 36 = .ok (.invokevirtual 103, 3) := by decide +kernel
theorem dX3_compose_39 : decode cX3_compose 39 = .ok (.aload_n 0, 1) := by decide +kernel
theorem dX3_compose_40 : decode cX3_compose 40 = .ok (.getfield 13, 3) := by decide +kernel
theorem dX3_compose_43 : decode cX3_compose 43 = .ok (.iload_n 1, 1) := by decide +kernel
theorem dX3_compose_44 : decode cX3_compose 44 = .ok (.iaload, 1) := by decide +kernel
theorem dX3_compose_45 : decode cX3_compose 45 = .ok (.istore 4, 2) := by decide +kernel
theorem dX3_compose_47 : decode cX3_compose 47 = .ok (.iload 4, 2) := by decide +kernel
theorem dX3_compose_49 : decode cX3_compose 49 = .ok (.ifCond .lt 59, 3) := by decide +kernel
theorem dX3_compose_52 : decode cX3_compose 52 = .ok (.aload_n 0, 1) := by decide +kernel
theorem dX3_compose_53 : decode cX3_compose 53 = .ok (.iload_n 2, 1) := by decide +kernel
theorem dX3_compose_54 : decode cX3_compose 54 = .ok (.iload 4, 2) := by decide +kernel
theorem dX3_compose_56 : decode cX3_compose 56 = .ok (.ifCond .le 7, 3) := by decide +kernel
theorem dX3_compose_59 : decode cX3_compose 59 = .ok (.iconst 2, 1) := by decide +kernel
theorem dX3_compose_60 : decode cX3_compose 60 = .ok (.goto 4, 3) := by decide +kernel
theorem dX3_compose_63 : decode cX3_compose 63 = .ok (.iconst 1, 1) := by decide +kernel
theorem dX3_compose_64 : decode cX3_compose 64 = .ok (.aload_n 0, 1) := by decide +kernel
theorem dX3_compose_65 : decode cX3_compose 65 = .ok (.iload_n 1, 1) := by decide +kernel
theorem dX3_compose_66 : decode cX3_compose 66 = .ok (.iload 4, 2) := by decide +kernel
theorem dX3_compose_68 : decode cX3_compose 68 = .ok (.invokevirtual 53, 3) := by decide +kernel
theorem dX3_compose_71 : decode cX3_compose 71 = .ok (.invokevirtual 115, 3) := by decide +kernel
theorem dX3_compose_74 : decode cX3_compose 74 = .ok (.lstore 5, 2) := by decide +kernel
theorem dX3_compose_76 : decode cX3_compose 76 = .ok (.lload 5, 2) := by decide +kernel
theorem dX3_compose_78 : decode cX3_compose 78 = .ok (.lconst 0, 1) := by decide +kernel
theorem dX3_compose_79 : decode cX3_compose 79 = .ok (.lcmp, 1) := by decide +kernel
theorem dX3_compose_80 : decode cX3_compose 80 = .ok (.ifCond .eq 6, 3) := by decide +kernel
theorem dX3_compose_83 : decode cX3_compose 83 = .ok (.lload 5, 2) := by decide +kernel
theorem dX3_compose_85 : decode cX3_compose 85 = .ok (.lreturn, 1) := by decide +kernel
theorem dX3_compose_86 : decode cX3_compose 86 = .ok (.aload_n 0, 1) := by decide +kernel
theorem dX3_compose_87 : decode cX3_compose 87 = .ok (.bipush 9, 2) := by decide +kernel
theorem dX3_compose_89 : decode cX3_compose 89 = .ok (.bipush 10, 2) := by decide +kernel
theorem dX3_compose_91 : decode cX3_compose 91 = .ok (.invokevirtual 71, 3) := by decide +kernel
theorem dX3_compose_94 : decode cX3_compose 94 = .ok (.aload_n 0, 1) := by decide +kernel
theorem dX3_compose_95 : decode cX3_compose 95 = .ok (.bipush 11, 2) := by decide +kernel
theorem dX3_compose_97 : decode cX3_compose 97 = .ok (.bipush 9, 2) := by decide +kernel
theorem dX3_compose_99 : decode cX3_compose 99 = .ok (.invokevirtual 71, 3) := by decide +kernel
theorem dX3_compose_102 : decode cX3_compose 102 = .ok (.iinc 4 (-1), 3) := by decide +kernel
theorem dX3_compose_105 : decode cX3_compose 105 = .ok (.goto (-58), 3) := by decide +kernel
theorem dX3_compose_108 : decode cX3_compose 108 = .ok (.aload_n 0, 1) := by decide +kernel
theorem dX3_compose_109 : decode cX3_compose 109 = .ok (.bipush 9, 2) := by decide +kernel
theorem dX3_compose_111 : decode cX3_compose 111 = .ok (.iload_n 3, 1) := by decide +kernel
theorem dX3_compose_112 : decode cX3_compose 112 = .ok (.invokevirtual 71, 3) := by decide +kernel
theorem dX3_compose_115 : decode cX3_compose 115 = .ok (.aload_n 0, 1) := by decide +kernel
theorem dX3_compose_116 : decode cX3_compose 116 = .ok (.getfield 13, 3) := by decide +kernel
theorem dX3_compose_119 : decode cX3_compose 119 = .ok (.iload_n 3, 1) := by decide +kernel
theorem dX3_compose_120 : decode cX3_compose 120 = .ok (.iaload, 1) := by decide +kernel
theorem dX3_compose_121 : decode cX3_compose 121 = .ok (.i2l, 1) := by decide +kernel
theorem dX3_compose_122 : decode cX3_compose 122 = .ok (.lreturn, 1) := by decide +kernel
set_option maxRecDepth 20000 in
theorem ggX3_divide_X3_isSeries : GoodIn wsX3_divide wsX3_isSeries := goodIn_r _ [8, 9, 10, 11, 7, 12] (by decide +kernel) (by decide +kernel)
set_option maxRecDepth 20000 in
theorem gX3_divide_X3_isSeries : GoodIn wsX3_divide (va_wsS RX3 75 yX3_isSeries wsX3_isSeries) := goodIn_app (goodIn_of _ (by decide +kernel)) ggX3_divide_X3_isSeries
set_option maxRecDepth 20000 in
theorem ggX3_divide_X3_isPoint : GoodIn wsX3_divide wsX3_isPoint := goodIn_r _ [15, 16, 4, 10, 11, 7, 12] (by decide +kernel) (by decide +kernel)
set_option maxRecDepth 20000 in
theorem gX3_divide_X3_isPoint : GoodIn wsX3_divide (va_wsS RX3 92 yX3_isPoint wsX3_isPoint) := goodIn_app (goodIn_of _ (by decide +kernel)) ggX3_divide_X3_isPoint
set_option maxRecDepth 20000 in
theorem ggX3_divide_X3_valueAt : GoodIn wsX3_divide wsX3_valueAt := goodIn_r _ [20, 2, 3, 4, 21, 22, 23, 7, 24, 25, 26, 27, 28, 55, 56, 57, 58, 59, 60, 61, 62] (by decide +kernel) (by decide +kernel)
set_option maxRecDepth 20000 in
theorem gX3_divide_X3_valueAt : GoodIn wsX3_divide (wsV RX3 95 RX3 yX3_valueAt wsX3_valueAt) := goodIn_app (goodIn_of _ (by decide +kernel)) ggX3_divide_X3_valueAt
set_option maxRecDepth 20000 in
theorem ggX3_divide_X3_clears : GoodIn wsX3_divide wsX3_clears := goodIn_r _ [32, 2, 33, 34, 35, 7, 36, 25, 55, 56, 57, 58, 59, 60, 61, 62] (by decide +kernel) (by decide +kernel)
set_option maxRecDepth 20000 in
theorem gX3_divide_X3_clears : GoodIn wsX3_divide (wsV RX3 103 RX3 yX3_clears wsX3_clears) := goodIn_app (goodIn_of _ (by decide +kernel)) ggX3_divide_X3_clears
set_option maxRecDepth 20000 in
theorem ggX3_divide_X3_of : GoodIn wsX3_divide wsX3_of := goodIn_r _ [24, 25, 55, 56, 57, 58, 59, 60, 61, 62] (by decide +kernel) (by decide +kernel)
set_option maxRecDepth 20000 in
theorem gX3_divide_X3_of : GoodIn wsX3_divide (wsV RX3 53 RX3 yX3_of wsX3_of) := goodIn_app (goodIn_of _ (by decide +kernel)) ggX3_divide_X3_of
set_option maxRecDepth 20000 in
theorem ggX3_divide_X3_rounded : GoodIn wsX3_divide wsX3_rounded := goodIn_r _ [28, 3] (by decide +kernel) (by decide +kernel)
set_option maxRecDepth 20000 in
theorem gX3_divide_X3_rounded : GoodIn wsX3_divide (va_wsS RX3 88 yX3_rounded wsX3_rounded) := goodIn_app (goodIn_of _ (by decide +kernel)) ggX3_divide_X3_rounded
set_option maxRecDepth 20000 in
theorem ggX3_divide_X3_sets : GoodIn wsX3_divide wsX3_sets := goodIn_r _ [36, 25, 55, 56, 57, 58, 59, 60, 61, 62] (by decide +kernel) (by decide +kernel)
set_option maxRecDepth 20000 in
theorem gX3_divide_X3_sets : GoodIn wsX3_divide (wsV RX3 49 RX3 yX3_sets wsX3_sets) := goodIn_app (goodIn_of _ (by decide +kernel)) ggX3_divide_X3_sets
set_option maxRecDepth 20000 in
theorem ggX3_divide_X3_gives : GoodIn wsX3_divide wsX3_gives := goodIn_r _ [40, 2, 41, 42, 43, 7, 44, 45, 46, 47, 21, 22, 23, 24, 25, 48, 49, 50, 51, 52, 53, 54, 33, 34, 35, 36, 55, 56, 57, 58, 59, 60, 61, 62] (by decide +kernel) (by decide +kernel)
set_option maxRecDepth 20000 in
theorem gX3_divide_X3_gives : GoodIn wsX3_divide (wsV RX3 85 RX3 yX3_gives wsX3_gives) := goodIn_app (goodIn_of _ (by decide +kernel)) ggX3_divide_X3_gives
theorem dX3_divide_0 : decode cX3_divide 0 = .ok (.iload_n 1, 1) := by decide +kernel
theorem dX3_divide_1 : decode cX3_divide 1 = .ok (.invokestatic 75, 3) := by decide +kernel
theorem dX3_divide_4 : decode cX3_divide 4 = .ok (.ifCond .eq 17, 3) := by decide +kernel
theorem dX3_divide_7 : decode cX3_divide 7 = .ok (.iload_n 2, 1) := by decide +kernel
theorem dX3_divide_8 : decode cX3_divide 8 = .ok (.invokestatic 92, 3) := by decide +kernel
theorem dX3_divide_11 : decode cX3_divide 11 = .ok (.ifCond .eq 10, 3) := by decide +kernel
theorem dX3_divide_14 : decode cX3_divide 14 = .ok (.iload_n 3, 1) := by decide +kernel
theorem dX3_divide_15 : decode cX3_divide 15 = .ok (.invokestatic 75, 3) := by decide +kernel
theorem dX3_divide_18 : decode cX3_divide 18 = .ok (.ifCond .ne 7, 3) := by decide +kernel
theorem dX3_divide_21 : decode cX3_divide 21 = .ok (.ldc2_w 83, 3) := by decide +kernel
theorem dX3_divide_24 : decode cX3_divide 24 = .ok (.lreturn, 1) := by decide +kernel
theorem dX3_divide_25 : decode cX3_divide 25 = .ok (.aload_n 0, 1) := by decide +kernel
theorem dX3_divide_26 : decode cX3_divide 26 = .ok (.getfield 13, 3) := by decide +kernel
theorem dX3_divide_29 : decode cX3_divide 29 = .ok (.iload_n 1, 1) := by decide +kernel
theorem dX3_divide_30 : decode cX3_divide 30 = .ok (.iaload, 1) := by decide +kernel
theorem dX3_divide_31 : decode cX3_divide 31 = .ok (.istore 4, 2) := by decide +kernel
theorem dX3_divide_33 : decode cX3_divide 33 = .ok (.aload_n 0, 1) := by decide +kernel
theorem dX3_divide_34 : decode cX3_divide 34 = .ok (.iload_n 1, 1) := by decide +kernel
theorem dX3_divide_35 : decode cX3_divide 35 = .ok (.iload_n 2, 1) := by decide +kernel
theorem dX3_divide_36 : decode cX3_divide 36 = .ok (.i2l, 1) := by decide +kernel
theorem dX3_divide_37 : decode cX3_divide 37 = .ok (.invokevirtual 95, 3) := by decide +kernel
theorem dX3_divide_40 : decode cX3_divide 40 = .ok (.lstore 5, 2) := by decide +kernel
theorem dX3_divide_42 : decode cX3_divide 42 = .ok (.aload_n 0, 1) := by decide +kernel
theorem dX3_divide_43 : decode cX3_divide 43 = .ok (.bipush 8, 2) := by decide +kernel
theorem dX3_divide_45 : decode cX3_divide 45 = .ok (.iload 4, 2) := by decide +kernel
theorem dX3_divide_47 : decode cX3_divide 47 = .ok (.ifCond .le 10, 3) := by decide +kernel
theorem dX3_divide_50 : decode cX3_divide 50 = .ok (.iload 4, 2) := by decide +kernel
theorem dX3_divide_52 : decode cX3_divide 52 = .ok (.iconst 1, 1) := by decide +kernel
theorem dX3_divide_53 : decode cX3_divide 53 = .ok (.isub, 1) := by decide +kernel
theorem dX3_divide_54 : decode cX3_divide 54 = .ok (.goto 4, 3) := by decide +kernel
theorem dX3_divide_57 : decode cX3_divide 57 = .ok (.iconst 0, 1) := by decide +kernel
theorem dX3_divide_58 : decode cX3_divide 58 = .ok (.invokevirtual 103, 3) := by decide +kernel
theorem dX3_divide_61 : decode cX3_divide 61 = .ok (.iload 4, 2) := by decide +kernel
theorem dX3_divide_63 : decode cX3_divide 63 = .ok (.istore 7, 2) := by decide +kernel
theorem dX3_divide_65 : decode cX3_divide 65 = .ok (.iload 7, 2) := by decide +kernel
theorem dX3_divide_67 : decode cX3_divide 67 = .ok (.iconst 2, 1) := by decide +kernel
theorem dX3_divide_68 : decode cX3_divide 68 = .ok (.if_icmp .lt 63, 3) := by decide +kernel
theorem dX3_divide_71 : decode cX3_divide 71 = .ok (.aload_n 0, 1) := by decide +kernel
theorem dX3_divide_72 : decode cX3_divide 72 = .ok (.bipush 8, 2) := by decide +kernel
theorem dX3_divide_74 : decode cX3_divide 74 = .ok (.iload 7, 2) := by decide +kernel
theorem dX3_divide_76 : decode cX3_divide 76 = .ok (.iconst 1, 1) := by decide +kernel
theorem dX3_divide_77 : decode cX3_divide 77 = .ok (.isub, 1) := by decide +kernel
theorem dX3_divide_78 : decode cX3_divide 78 = .ok (.ldc2_w 47, 3) := by decide +kernel
theorem dX3_divide_81 : decode cX3_divide 81 = .ok (.aload_n 0, 1) := by decide +kernel
theorem dX3_divide_82 : decode cX3_divide 82 = .ok (.iload_n 1, 1) := by decide +kernel
theorem dX3_divide_83 : decode cX3_divide 83 = .ok (.iload 7, 2) := by decide +kernel
theorem dX3_divide_85 : decode cX3_divide 85 = .ok (.invokevirtual 53, 3) := by decide +kernel
theorem dX3_divide_88 : decode cX3_divide 88 = .ok (.lmul, 1) := by decide +kernel
theorem dX3_divide_89 : decode cX3_divide 89 = .ok (.ldc2_w 47, 3) := by decide +kernel
theorem dX3_divide_92 : decode cX3_divide 92 = .ok (.iload_n 2, 1) := by decide +kernel
theorem dX3_divide_93 : decode cX3_divide 93 = .ok (.i2l, 1) := by decide +kernel
theorem dX3_divide_94 : decode cX3_divide 94 = .ok (.lmul, 1) := by decide +kernel
theorem dX3_divide_95 : decode cX3_divide 95 = .ok (.aload_n 0, 1) := by decide +kernel
theorem dX3_divide_96 : decode cX3_divide 96 = .ok (.bipush 8, 2) := by decide +kernel
theorem dX3_divide_98 : decode cX3_divide 98 = .ok (.iload 7, 2) := by decide +kernel
theorem dX3_divide_100 : decode cX3_divide 100 = .ok (.invokevirtual 53, 3) := by decide +kernel
theorem dX3_divide_103 : decode cX3_divide 103 = .ok (.lmul, 1) := by decide +kernel
theorem dX3_divide_104 : decode cX3_divide 104 = .ok (.ldc2_w 45, 3) := by decide +kernel
theorem dX3_divide_107 : decode cX3_divide 107 = .ok (.invokestatic 88, 3) := by decide +kernel
theorem dX3_divide_110 : decode cX3_divide 110 = .ok (.ladd, 1) := by decide +kernel
theorem dX3_divide_111 : decode cX3_divide 111 = .ok (.aload_n 0, 1) := by decide +kernel
theorem dX3_divide_112 : decode cX3_divide 112 = .ok (.bipush 8, 2) := by decide +kernel
theorem dX3_divide_114 : decode cX3_divide 114 = .ok (.iload 7, 2) := by decide +kernel
theorem dX3_divide_116 : decode cX3_divide 116 = .ok (.iconst 1, 1) := by decide +kernel
theorem dX3_divide_117 : decode cX3_divide 117 = .ok (.iadd, 1) := by decide +kernel
theorem dX3_divide_118 : decode cX3_divide 118 = .ok (.invokevirtual 53, 3) := by decide +kernel
theorem dX3_divide_121 : decode cX3_divide 121 = .ok (.lsub, 1) := by decide +kernel
theorem dX3_divide_122 : decode cX3_divide 122 = .ok (.invokevirtual 49, 3) := by decide +kernel
theorem dX3_divide_125 : decode cX3_divide 125 = .ok (.iinc 7 (-1), 3) := by decide +kernel
theorem dX3_divide_128 : decode cX3_divide 128 = .ok (.goto (-63), 3) := by decide +kernel
theorem dX3_divide_131 : decode cX3_divide 131 = .ok (.aload_n 0, 1) := by decide +kernel
theorem dX3_divide_132 : decode cX3_divide 132 = .ok (.bipush 8, 2) := by decide +kernel
theorem dX3_divide_134 : decode cX3_divide 134 = .ok (.iconst 0, 1) := by decide +kernel
theorem dX3_divide_135 : decode cX3_divide 135 = .ok (.iload 4, 2) := by decide +kernel
theorem dX3_divide_137 : decode cX3_divide 137 = .ok (.ifCond .ne 7, 3) := by decide +kernel
theorem dX3_divide_140 : decode cX3_divide 140 = .ok (.lconst 0, 1) := by decide +kernel
theorem dX3_divide_141 : decode cX3_divide 141 = .ok (.goto 40, 3) := by decide +kernel
theorem dX3_divide_144 : decode cX3_divide 144 = .ok (.aload_n 0, 1) := by decide +kernel
theorem dX3_divide_145 : decode cX3_divide 145 = .ok (.iload_n 1, 1) := by decide +kernel
theorem dX3_divide_146 : decode cX3_divide 146 = .ok (.iconst 1, 1) := by decide +kernel
theorem dX3_divide_147 : decode cX3_divide 147 = .ok (.invokevirtual 53, 3) := by decide +kernel
theorem dX3_divide_150 : decode cX3_divide 150 = .ok (.iload_n 2, 1) := by decide +kernel
theorem dX3_divide_151 : decode cX3_divide 151 = .ok (.i2l, 1) := by decide +kernel
theorem dX3_divide_152 : decode cX3_divide 152 = .ok (.aload_n 0, 1) := by decide +kernel
theorem dX3_divide_153 : decode cX3_divide 153 = .ok (.bipush 8, 2) := by decide +kernel
theorem dX3_divide_155 : decode cX3_divide 155 = .ok (.iconst 1, 1) := by decide +kernel
theorem dX3_divide_156 : decode cX3_divide 156 = .ok (.invokevirtual 53, 3) := by decide +kernel
theorem dX3_divide_159 : decode cX3_divide 159 = .ok (.lmul, 1) := by decide +kernel
theorem dX3_divide_160 : decode cX3_divide 160 = .ok (.ldc2_w 45, 3) := by decide +kernel
theorem dX3_divide_163 : decode cX3_divide 163 = .ok (.invokestatic 88, 3) := by decide +kernel
theorem dX3_divide_166 : decode cX3_divide 166 = .ok (.ladd, 1) := by decide +kernel
theorem dX3_divide_167 : decode cX3_divide 167 = .ok (.aload_n 0, 1) := by decide +kernel
theorem dX3_divide_168 : decode cX3_divide 168 = .ok (.bipush 8, 2) := by decide +kernel
theorem dX3_divide_170 : decode cX3_divide 170 = .ok (.iconst 2, 1) := by decide +kernel
theorem dX3_divide_171 : decode cX3_divide 171 = .ok (.invokevirtual 53, 3) := by decide +kernel
theorem dX3_divide_174 : decode cX3_divide 174 = .ok (.ldc2_w 47, 3) := by decide +kernel
theorem dX3_divide_177 : decode cX3_divide 177 = .ok (.invokestatic 88, 3) := by decide +kernel
theorem dX3_divide_180 : decode cX3_divide 180 = .ok (.lsub, 1) := by decide +kernel
theorem dX3_divide_181 : decode cX3_divide 181 = .ok (.invokevirtual 49, 3) := by decide +kernel
theorem dX3_divide_184 : decode cX3_divide 184 = .ok (.aload_n 0, 1) := by decide +kernel
theorem dX3_divide_185 : decode cX3_divide 185 = .ok (.iload_n 3, 1) := by decide +kernel
theorem dX3_divide_186 : decode cX3_divide 186 = .ok (.invokevirtual 85, 3) := by decide +kernel
theorem dX3_divide_189 : decode cX3_divide 189 = .ok (.lstore 7, 2) := by decide +kernel
theorem dX3_divide_191 : decode cX3_divide 191 = .ok (.lload 7, 2) := by decide +kernel
theorem dX3_divide_193 : decode cX3_divide 193 = .ok (.lconst 0, 1) := by decide +kernel
theorem dX3_divide_194 : decode cX3_divide 194 = .ok (.lcmp, 1) := by decide +kernel
theorem dX3_divide_195 : decode cX3_divide 195 = .ok (.ifCond .ge 8, 3) := by decide +kernel
theorem dX3_divide_198 : decode cX3_divide 198 = .ok (.lload 7, 2) := by decide +kernel
theorem dX3_divide_200 : decode cX3_divide 200 = .ok (.goto 5, 3) := by decide +kernel
theorem dX3_divide_203 : decode cX3_divide 203 = .ok (.lload 5, 2) := by decide +kernel
theorem dX3_divide_205 : decode cX3_divide 205 = .ok (.lreturn, 1) := by decide +kernel
set_option maxRecDepth 20000 in
theorem ggX3_cutBy_X3_of : GoodIn wsX3_cutBy wsX3_of := goodIn_r _ [6, 7, 11, 12, 13, 14, 15, 16, 17, 18] (by decide +kernel) (by decide +kernel)
set_option maxRecDepth 20000 in
theorem gX3_cutBy_X3_of : GoodIn wsX3_cutBy (wsV RX3 53 RX3 yX3_of wsX3_of) := goodIn_app (goodIn_of _ (by decide +kernel)) ggX3_cutBy_X3_of
set_option maxRecDepth 20000 in
theorem ggX3_cutBy_X3_size : GoodIn wsX3_cutBy wsX3_size := goodIn_r _ [10] (by decide +kernel) (by decide +kernel)
set_option maxRecDepth 20000 in
theorem gX3_cutBy_X3_size : GoodIn wsX3_cutBy (va_wsS RX3 59 yX3_size wsX3_size) := goodIn_app (goodIn_of _ (by decide +kernel)) ggX3_cutBy_X3_size
theorem dX3_cutBy_0 : decode cX3_cutBy 0 = .ok (.aload_n 0, 1) := by decide +kernel
theorem dX3_cutBy_1 : decode cX3_cutBy 1 = .ok (.getfield 13, 3) := by decide +kernel
theorem dX3_cutBy_4 : decode cX3_cutBy 4 = .ok (.iload_n 1, 1) := by decide +kernel
theorem dX3_cutBy_5 : decode cX3_cutBy 5 = .ok (.iaload, 1) := by decide +kernel
theorem dX3_cutBy_6 : decode cX3_cutBy 6 = .ok (.istore 4, 2) := by decide +kernel
theorem dX3_cutBy_8 : decode cX3_cutBy 8 = .ok (.lconst 0, 1) := by decide +kernel
theorem dX3_cutBy_9 : decode cX3_cutBy 9 = .ok (.lstore 5, 2) := by decide +kernel
theorem dX3_cutBy_11 : decode cX3_cutBy 11 = .ok (.iload 4, 2) := by decide +kernel
theorem dX3_cutBy_13 : decode cX3_cutBy 13 = .ok (.ifCond .le 42, 3) := by decide +kernel
theorem dX3_cutBy_16 : decode cX3_cutBy 16 = .ok (.lload 5, 2) := by decide +kernel
theorem dX3_cutBy_18 : decode cX3_cutBy 18 = .ok (.aload_n 0, 1) := by decide +kernel
theorem dX3_cutBy_19 : decode cX3_cutBy 19 = .ok (.iload_n 1, 1) := by decide +kernel
theorem dX3_cutBy_20 : decode cX3_cutBy 20 = .ok (.iload 4, 2) := by decide +kernel
theorem dX3_cutBy_22 : decode cX3_cutBy 22 = .ok (.invokevirtual 53, 3) := by decide +kernel
theorem dX3_cutBy_25 : decode cX3_cutBy 25 = .ok (.invokestatic 59, 3) := by decide +kernel
theorem dX3_cutBy_28 : decode cX3_cutBy 28 = .ok (.ladd, 1) := by decide +kernel
theorem dX3_cutBy_29 : decode cX3_cutBy 29 = .ok (.lload_n 2, 1) := by decide +kernel
theorem dX3_cutBy_30 : decode cX3_cutBy 30 = .ok (.lcmp, 1) := by decide +kernel
theorem dX3_cutBy_31 : decode cX3_cutBy 31 = .ok (.ifCond .gt 24, 3) := by decide +kernel
theorem dX3_cutBy_34 : decode cX3_cutBy 34 = .ok (.lload 5, 2) := by decide +kernel
theorem dX3_cutBy_36 : decode cX3_cutBy 36 = .ok (.aload_n 0, 1) := by decide +kernel
theorem dX3_cutBy_37 : decode cX3_cutBy 37 = .ok (.iload_n 1, 1) := by decide +kernel
theorem dX3_cutBy_38 : decode cX3_cutBy 38 = .ok (.iload 4, 2) := by decide +kernel
theorem dX3_cutBy_40 : decode cX3_cutBy 40 = .ok (.invokevirtual 53, 3) := by decide +kernel
theorem dX3_cutBy_43 : decode cX3_cutBy 43 = .ok (.invokestatic 59, 3) := by decide +kernel
theorem dX3_cutBy_46 : decode cX3_cutBy 46 = .ok (.ladd, 1) := by decide +kernel
theorem dX3_cutBy_47 : decode cX3_cutBy 47 = .ok (.lstore 5, 2) := by decide +kernel
theorem dX3_cutBy_49 : decode cX3_cutBy 49 = .ok (.iinc 4 (-1), 3) := by decide +kernel
theorem dX3_cutBy_52 : decode cX3_cutBy 52 = .ok (.goto (-41), 3) := by decide +kernel
theorem dX3_cutBy_55 : decode cX3_cutBy 55 = .ok (.iload 4, 2) := by decide +kernel
theorem dX3_cutBy_57 : decode cX3_cutBy 57 = .ok (.ireturn, 1) := by decide +kernel
set_option maxRecDepth 20000 in
theorem ggX3_isTolerance_X3_in : GoodIn wsX3_isTolerance wsX3_in := goodIn_r _ [5] (by decide +kernel) (by decide +kernel)
set_option maxRecDepth 20000 in
theorem gX3_isTolerance_X3_in : GoodIn wsX3_isTolerance (va_wsS RX3 39 yX3_in wsX3_in) := goodIn_app (goodIn_of _ (by decide +kernel)) ggX3_isTolerance_X3_in
theorem dX3_isTolerance_0 : decode cX3_isTolerance 0 = .ok (.iload_n 0, 1) := by decide +kernel
theorem dX3_isTolerance_1 : decode cX3_isTolerance 1 = .ok (.i2l, 1) := by decide +kernel
theorem dX3_isTolerance_2 : decode cX3_isTolerance 2 = .ok (.lconst 0, 1) := by decide +kernel
theorem dX3_isTolerance_3 : decode cX3_isTolerance 3 = .ok (.ldc2_w 119, 3) := by decide +kernel
theorem dX3_isTolerance_6 : decode cX3_isTolerance 6 = .ok (.invokestatic 39, 3) := by decide +kernel
theorem dX3_isTolerance_9 : decode cX3_isTolerance 9 = .ok (.ireturn, 1) := by decide +kernel
set_option maxRecDepth 20000 in
theorem ggX3_cut_X3_isSeries : GoodIn wsX3_cut wsX3_isSeries := goodIn_r _ [6, 7, 8, 9, 5, 10] (by decide +kernel) (by decide +kernel)
set_option maxRecDepth 20000 in
theorem gX3_cut_X3_isSeries : GoodIn wsX3_cut (va_wsS RX3 75 yX3_isSeries wsX3_isSeries) := goodIn_app (goodIn_of _ (by decide +kernel)) ggX3_cut_X3_isSeries
set_option maxRecDepth 20000 in
theorem ggX3_cut_X3_isTolerance : GoodIn wsX3_cut wsX3_isTolerance := goodIn_r _ [13, 14, 8, 9, 5, 10] (by decide +kernel) (by decide +kernel)
set_option maxRecDepth 20000 in
theorem gX3_cut_X3_isTolerance : GoodIn wsX3_cut (va_wsS RX3 121 yX3_isTolerance wsX3_isTolerance) := goodIn_app (goodIn_of _ (by decide +kernel)) ggX3_cut_X3_isTolerance
set_option maxRecDepth 20000 in
theorem ggX3_cut_X3_cutBy : GoodIn wsX3_cut wsX3_cutBy := goodIn_r _ [18, 2, 19, 20, 21, 5, 22, 23, 24, 25, 26, 31, 32, 33, 34, 35, 36, 37, 38] (by decide +kernel) (by decide +kernel)
set_option maxRecDepth 20000 in
theorem gX3_cut_X3_cutBy : GoodIn wsX3_cut (wsV RX3 124 RX3 yX3_cutBy wsX3_cutBy) := goodIn_app (goodIn_of _ (by decide +kernel)) ggX3_cut_X3_cutBy
set_option maxRecDepth 20000 in
theorem ggX3_cut_X3_sets : GoodIn wsX3_cut wsX3_sets := goodIn_r _ [30, 23, 31, 32, 33, 34, 35, 36, 37, 38] (by decide +kernel) (by decide +kernel)
set_option maxRecDepth 20000 in
theorem gX3_cut_X3_sets : GoodIn wsX3_cut (wsV RX3 49 RX3 yX3_sets wsX3_sets) := goodIn_app (goodIn_of _ (by decide +kernel)) ggX3_cut_X3_sets
theorem dX3_cut_0 : decode cX3_cut 0 = .ok (.iload_n 1, 1) := by decide +kernel
theorem dX3_cut_1 : decode cX3_cut 1 = .ok (.invokestatic 75, 3) := by decide +kernel
theorem dX3_cut_4 : decode cX3_cut 4 = .ok (.ifCond .eq 10, 3) := by decide +kernel
theorem dX3_cut_7 : decode cX3_cut 7 = .ok (.iload_n 2, 1) := by decide +kernel
theorem dX3_cut_8 : decode cX3_cut 8 = .ok (.invokestatic 121, 3) := by decide +kernel
theorem dX3_cut_11 : decode cX3_cut 11 = .ok (.ifCond .ne 7, 3) := by decide +kernel
theorem dX3_cut_14 : decode cX3_cut 14 = .ok (.ldc2_w 83, 3) := by decide +kernel
theorem dX3_cut_17 : decode cX3_cut 17 = .ok (.lreturn, 1) := by decide +kernel
theorem dX3_cut_18 : decode cX3_cut 18 = .ok (.aload_n 0, 1) := by decide +kernel
theorem dX3_cut_19 : decode cX3_cut 19 = .ok (.iload_n 1, 1) := by decide +kernel
theorem dX3_cut_20 : decode cX3_cut 20 = .ok (.iload_n 2, 1) := by decide +kernel
theorem dX3_cut_21 : decode cX3_cut 21 = .ok (.i2l, 1) := by decide +kernel
theorem dX3_cut_22 : decode cX3_cut 22 = .ok (.invokevirtual 124, 3) := by decide +kernel
theorem dX3_cut_25 : decode cX3_cut 25 = .ok (.istore_n 3, 1) := by decide +kernel
theorem dX3_cut_26 : decode cX3_cut 26 = .ok (.aload_n 0, 1) := by decide +kernel
theorem dX3_cut_27 : decode cX3_cut 27 = .ok (.getfield 13, 3) := by decide +kernel
theorem dX3_cut_30 : decode cX3_cut 30 = .ok (.iload_n 1, 1) := by decide +kernel
theorem dX3_cut_31 : decode cX3_cut 31 = .ok (.iaload, 1) := by decide +kernel
theorem dX3_cut_32 : decode cX3_cut 32 = .ok (.iload_n 3, 1) := by decide +kernel
theorem dX3_cut_33 : decode cX3_cut 33 = .ok (.isub, 1) := by decide +kernel
theorem dX3_cut_34 : decode cX3_cut 34 = .ok (.istore 4, 2) := by decide +kernel
theorem dX3_cut_36 : decode cX3_cut 36 = .ok (.iload_n 3, 1) := by decide +kernel
theorem dX3_cut_37 : decode cX3_cut 37 = .ok (.iconst 1, 1) := by decide +kernel
theorem dX3_cut_38 : decode cX3_cut 38 = .ok (.iadd, 1) := by decide +kernel
theorem dX3_cut_39 : decode cX3_cut 39 = .ok (.istore 5, 2) := by decide +kernel
theorem dX3_cut_41 : decode cX3_cut 41 = .ok (.iload 5, 2) := by decide +kernel
theorem dX3_cut_43 : decode cX3_cut 43 = .ok (.bipush 24, 2) := by decide +kernel
theorem dX3_cut_45 : decode cX3_cut 45 = .ok (.if_icmp .gt 17, 3) := by decide +kernel
theorem dX3_cut_48 : decode cX3_cut 48 = .ok (.aload_n 0, 1) := by decide +kernel
theorem dX3_cut_49 : decode cX3_cut 49 = .ok (.iload_n 1, 1) := by decide +kernel
theorem dX3_cut_50 : decode cX3_cut 50 = .ok (.iload 5, 2) := by decide +kernel
theorem dX3_cut_52 : decode cX3_cut 52 = .ok (.lconst 0, 1) := by decide +kernel
theorem dX3_cut_53 : decode cX3_cut 53 = .ok (.invokevirtual 49, 3) := by decide +kernel
theorem dX3_cut_56 : decode cX3_cut 56 = .ok (.iinc 5 1, 3) := by decide +kernel
theorem dX3_cut_59 : decode cX3_cut 59 = .ok (.goto (-18), 3) := by decide +kernel
theorem dX3_cut_62 : decode cX3_cut 62 = .ok (.aload_n 0, 1) := by decide +kernel
theorem dX3_cut_63 : decode cX3_cut 63 = .ok (.getfield 13, 3) := by decide +kernel
theorem dX3_cut_66 : decode cX3_cut 66 = .ok (.iload_n 1, 1) := by decide +kernel
theorem dX3_cut_67 : decode cX3_cut 67 = .ok (.iload_n 3, 1) := by decide +kernel
theorem dX3_cut_68 : decode cX3_cut 68 = .ok (.iastore, 1) := by decide +kernel
theorem dX3_cut_69 : decode cX3_cut 69 = .ok (.iload 4, 2) := by decide +kernel
theorem dX3_cut_71 : decode cX3_cut 71 = .ok (.i2l, 1) := by decide +kernel
theorem dX3_cut_72 : decode cX3_cut 72 = .ok (.lreturn, 1) := by decide +kernel
set_option maxRecDepth 20000 in
theorem ggX3_basis_X3_in : GoodIn wsX3_basis wsX3_in := goodIn_r _ [7] (by decide +kernel) (by decide +kernel)
set_option maxRecDepth 20000 in
theorem gX3_basis_X3_in : GoodIn wsX3_basis (va_wsS RX3 39 yX3_in wsX3_in) := goodIn_app (goodIn_of _ (by decide +kernel)) ggX3_basis_X3_in
set_option maxRecDepth 20000 in
theorem ggX3_basis_X3_isSeries : GoodIn wsX3_basis wsX3_isSeries := goodIn_r _ [10, 11, 4, 5, 6, 7] (by decide +kernel) (by decide +kernel)
set_option maxRecDepth 20000 in
theorem gX3_basis_X3_isSeries : GoodIn wsX3_basis (va_wsS RX3 75 yX3_isSeries wsX3_isSeries) := goodIn_app (goodIn_of _ (by decide +kernel)) ggX3_basis_X3_isSeries
set_option maxRecDepth 20000 in
theorem ggX3_basis_X3_clears : GoodIn wsX3_basis wsX3_clears := goodIn_r _ [15, 16, 17, 18, 19, 6, 20, 21, 22, 23, 24, 25, 26, 27, 28, 29] (by decide +kernel) (by decide +kernel)
set_option maxRecDepth 20000 in
theorem gX3_basis_X3_clears : GoodIn wsX3_basis (wsV RX3 103 RX3 yX3_clears wsX3_clears) := goodIn_app (goodIn_of _ (by decide +kernel)) ggX3_basis_X3_clears
set_option maxRecDepth 20000 in
theorem ggX3_basis_X3_sets : GoodIn wsX3_basis wsX3_sets := goodIn_r _ [20, 21, 22, 23, 24, 25, 26, 27, 28, 29] (by decide +kernel) (by decide +kernel)
set_option maxRecDepth 20000 in
theorem gX3_basis_X3_sets : GoodIn wsX3_basis (wsV RX3 49 RX3 yX3_sets wsX3_sets) := goodIn_app (goodIn_of _ (by decide +kernel)) ggX3_basis_X3_sets
theorem dX3_basis_0 : decode cX3_basis 0 = .ok (.iload_n 1, 1) := by decide +kernel
theorem dX3_basis_1 : decode cX3_basis 1 = .ok (.i2l, 1) := by decide +kernel
theorem dX3_basis_2 : decode cX3_basis 2 = .ok (.lconst 0, 1) := by decide +kernel
theorem dX3_basis_3 : decode cX3_basis 3 = .ok (.ldc2_w 79, 3) := by decide +kernel
theorem dX3_basis_6 : decode cX3_basis 6 = .ok (.invokestatic 39, 3) := by decide +kernel
theorem dX3_basis_9 : decode cX3_basis 9 = .ok (.ifCond .eq 10, 3) := by decide +kernel
theorem dX3_basis_12 : decode cX3_basis 12 = .ok (.iload_n 2, 1) := by decide +kernel
theorem dX3_basis_13 : decode cX3_basis 13 = .ok (.invokestatic 75, 3) := by decide +kernel
theorem dX3_basis_16 : decode cX3_basis 16 = .ok (.ifCond .ne 7, 3) := by decide +kernel
theorem dX3_basis_19 : decode cX3_basis 19 = .ok (.ldc2_w 83, 3) := by decide +kernel
theorem dX3_basis_22 : decode cX3_basis 22 = .ok (.lreturn, 1) := by decide +kernel
theorem dX3_basis_23 : decode cX3_basis 23 = .ok (.aload_n 0, 1) := by decide +kernel
theorem dX3_basis_24 : decode cX3_basis 24 = .ok (.iload_n 2, 1) := by decide +kernel
theorem dX3_basis_25 : decode cX3_basis 25 = .ok (.iload_n 1, 1) := by decide +kernel
theorem dX3_basis_26 : decode cX3_basis 26 = .ok (.invokevirtual 103, 3) := by decide +kernel
theorem dX3_basis_29 : decode cX3_basis 29 = .ok (.aload_n 0, 1) := by decide +kernel
theorem dX3_basis_30 : decode cX3_basis 30 = .ok (.iload_n 2, 1) := by decide +kernel
theorem dX3_basis_31 : decode cX3_basis 31 = .ok (.iload_n 1, 1) := by decide +kernel
end
section
theorem dX3_basis_32 : decode cX3_basis 32 = .ok (.ldc2_w 45, 3) := by decide +kernel
theorem dX3_basis_35 : decode cX3_basis 35 = .ok (.invokevirtual 49, 3) := by decide +kernel
theorem dX3_basis_38 : decode cX3_basis 38 = .ok (.iload_n 1, 1) := by decide +kernel
theorem dX3_basis_39 : decode cX3_basis 39 = .ok (.i2l, 1) := by decide +kernel
theorem dX3_basis_40 : decode cX3_basis 40 = .ok (.lreturn, 1) := by decide +kernel
set_option maxRecDepth 20000 in
theorem ggX3_integral_X3_isSeries : GoodIn wsX3_integral wsX3_isSeries := goodIn_r _ [8, 9, 10, 11, 7, 12] (by decide +kernel) (by decide +kernel)
set_option maxRecDepth 20000 in
theorem gX3_integral_X3_isSeries : GoodIn wsX3_integral (va_wsS RX3 75 yX3_isSeries wsX3_isSeries) := goodIn_app (goodIn_of _ (by decide +kernel)) ggX3_integral_X3_isSeries
set_option maxRecDepth 20000 in
theorem ggX3_integral_X3_of : GoodIn wsX3_integral wsX3_of := goodIn_r _ [16, 17, 21, 22, 23, 24, 25, 26, 27, 28] (by decide +kernel) (by decide +kernel)
set_option maxRecDepth 20000 in
theorem gX3_integral_X3_of : GoodIn wsX3_integral (wsV RX3 53 RX3 yX3_of wsX3_of) := goodIn_app (goodIn_of _ (by decide +kernel)) ggX3_integral_X3_of
set_option maxRecDepth 20000 in
theorem ggX3_integral_X3_rounded : GoodIn wsX3_integral wsX3_rounded := goodIn_r _ [20, 2] (by decide +kernel) (by decide +kernel)
set_option maxRecDepth 20000 in
theorem gX3_integral_X3_rounded : GoodIn wsX3_integral (va_wsS RX3 88 yX3_rounded wsX3_rounded) := goodIn_app (goodIn_of _ (by decide +kernel)) ggX3_integral_X3_rounded
theorem dX3_integral_0 : decode cX3_integral 0 = .ok (.iload_n 1, 1) := by decide +kernel
theorem dX3_integral_1 : decode cX3_integral 1 = .ok (.invokestatic 75, 3) := by decide +kernel
theorem dX3_integral_4 : decode cX3_integral 4 = .ok (.ifCond .ne 7, 3) := by decide +kernel
theorem dX3_integral_7 : decode cX3_integral 7 = .ok (.ldc2_w 83, 3) := by decide +kernel
theorem dX3_integral_10 : decode cX3_integral 10 = .ok (.lreturn, 1) := by decide +kernel
theorem dX3_integral_11 : decode cX3_integral 11 = .ok (.ldc2_w 47, 3) := by decide +kernel
theorem dX3_integral_14 : decode cX3_integral 14 = .ok (.aload_n 0, 1) := by decide +kernel
theorem dX3_integral_15 : decode cX3_integral 15 = .ok (.iload_n 1, 1) := by decide +kernel
theorem dX3_integral_16 : decode cX3_integral 16 = .ok (.iconst 0, 1) := by decide +kernel
theorem dX3_integral_17 : decode cX3_integral 17 = .ok (.invokevirtual 53, 3) := by decide +kernel
theorem dX3_integral_20 : decode cX3_integral 20 = .ok (.lmul, 1) := by decide +kernel
theorem dX3_integral_21 : decode cX3_integral 21 = .ok (.lstore_n 2, 1) := by decide +kernel
theorem dX3_integral_22 : decode cX3_integral 22 = .ok (.iconst 2, 1) := by decide +kernel
theorem dX3_integral_23 : decode cX3_integral 23 = .ok (.istore 4, 2) := by decide +kernel
theorem dX3_integral_25 : decode cX3_integral 25 = .ok (.iload 4, 2) := by decide +kernel
theorem dX3_integral_27 : decode cX3_integral 27 = .ok (.aload_n 0, 1) := by decide +kernel
theorem dX3_integral_28 : decode cX3_integral 28 = .ok (.getfield 13, 3) := by decide +kernel
theorem dX3_integral_31 : decode cX3_integral 31 = .ok (.iload_n 1, 1) := by decide +kernel
theorem dX3_integral_32 : decode cX3_integral 32 = .ok (.iaload, 1) := by decide +kernel
theorem dX3_integral_33 : decode cX3_integral 33 = .ok (.if_icmp .gt 35, 3) := by decide +kernel
theorem dX3_integral_36 : decode cX3_integral 36 = .ok (.lload_n 2, 1) := by decide +kernel
theorem dX3_integral_37 : decode cX3_integral 37 = .ok (.ldc2_w 128, 3) := by decide +kernel
theorem dX3_integral_40 : decode cX3_integral 40 = .ok (.aload_n 0, 1) := by decide +kernel
theorem dX3_integral_41 : decode cX3_integral 41 = .ok (.iload_n 1, 1) := by decide +kernel
theorem dX3_integral_42 : decode cX3_integral 42 = .ok (.iload 4, 2) := by decide +kernel
theorem dX3_integral_44 : decode cX3_integral 44 = .ok (.invokevirtual 53, 3) := by decide +kernel
theorem dX3_integral_47 : decode cX3_integral 47 = .ok (.lmul, 1) := by decide +kernel
theorem dX3_integral_48 : decode cX3_integral 48 = .ok (.iload 4, 2) := by decide +kernel
theorem dX3_integral_50 : decode cX3_integral 50 = .ok (.i2l, 1) := by decide +kernel
theorem dX3_integral_51 : decode cX3_integral 51 = .ok (.iload 4, 2) := by decide +kernel
theorem dX3_integral_53 : decode cX3_integral 53 = .ok (.i2l, 1) := by decide +kernel
theorem dX3_integral_54 : decode cX3_integral 54 = .ok (.lmul, 1) := by decide +kernel
theorem dX3_integral_55 : decode cX3_integral 55 = .ok (.lconst 1, 1) := by decide +kernel
theorem dX3_integral_56 : decode cX3_integral 56 = .ok (.lsub, 1) := by decide +kernel
theorem dX3_integral_57 : decode cX3_integral 57 = .ok (.invokestatic 88, 3) := by decide +kernel
theorem dX3_integral_60 : decode cX3_integral 60 = .ok (.ladd, 1) := by decide +kernel
theorem dX3_integral_61 : decode cX3_integral 61 = .ok (.lstore_n 2, 1) := by decide +kernel
theorem dX3_integral_62 : decode cX3_integral 62 = .ok (.iinc 4 2, 3) := by decide +kernel
theorem dX3_integral_65 : decode cX3_integral 65 = .ok (.goto (-40), 3) := by decide +kernel
theorem dX3_integral_68 : decode cX3_integral 68 = .ok (.lload_n 2, 1) := by decide +kernel
theorem dX3_integral_69 : decode cX3_integral 69 = .ok (.lreturn, 1) := by decide +kernel
set_option maxRecDepth 20000 in
theorem ggX3_inner_X3_isSeries : GoodIn wsX3_inner wsX3_isSeries := goodIn_r _ [6, 7, 8, 9, 5, 10] (by decide +kernel) (by decide +kernel)
set_option maxRecDepth 20000 in
theorem gX3_inner_X3_isSeries : GoodIn wsX3_inner (va_wsS RX3 75 yX3_isSeries wsX3_isSeries) := goodIn_app (goodIn_of _ (by decide +kernel)) ggX3_inner_X3_isSeries
set_option maxRecDepth 20000 in
theorem ggX3_inner_X3_of : GoodIn wsX3_inner wsX3_of := goodIn_r _ [14, 15, 20, 21, 22, 23, 24, 25, 26, 27] (by decide +kernel) (by decide +kernel)
set_option maxRecDepth 20000 in
theorem gX3_inner_X3_of : GoodIn wsX3_inner (wsV RX3 53 RX3 yX3_of wsX3_of) := goodIn_app (goodIn_of _ (by decide +kernel)) ggX3_inner_X3_of
set_option maxRecDepth 20000 in
theorem ggX3_inner_X3_rounded : GoodIn wsX3_inner wsX3_rounded := goodIn_r _ [18, 19] (by decide +kernel) (by decide +kernel)
set_option maxRecDepth 20000 in
theorem gX3_inner_X3_rounded : GoodIn wsX3_inner (va_wsS RX3 88 yX3_rounded wsX3_rounded) := goodIn_app (goodIn_of _ (by decide +kernel)) ggX3_inner_X3_rounded
theorem dX3_inner_0 : decode cX3_inner 0 = .ok (.iload_n 1, 1) := by decide +kernel
theorem dX3_inner_1 : decode cX3_inner 1 = .ok (.invokestatic 75, 3) := by decide +kernel
theorem dX3_inner_4 : decode cX3_inner 4 = .ok (.ifCond .eq 10, 3) := by decide +kernel
theorem dX3_inner_7 : decode cX3_inner 7 = .ok (.iload_n 2, 1) := by decide +kernel
theorem dX3_inner_8 : decode cX3_inner 8 = .ok (.invokestatic 75, 3) := by decide +kernel
theorem dX3_inner_11 : decode cX3_inner 11 = .ok (.ifCond .ne 7, 3) := by decide +kernel
theorem dX3_inner_14 : decode cX3_inner 14 = .ok (.ldc2_w 83, 3) := by decide +kernel
theorem dX3_inner_17 : decode cX3_inner 17 = .ok (.lreturn, 1) := by decide +kernel
theorem dX3_inner_18 : decode cX3_inner 18 = .ok (.aload_n 0, 1) := by decide +kernel
theorem dX3_inner_19 : decode cX3_inner 19 = .ok (.iload_n 1, 1) := by decide +kernel
theorem dX3_inner_20 : decode cX3_inner 20 = .ok (.iconst 0, 1) := by decide +kernel
theorem dX3_inner_21 : decode cX3_inner 21 = .ok (.invokevirtual 53, 3) := by decide +kernel
theorem dX3_inner_24 : decode cX3_inner 24 = .ok (.aload_n 0, 1) := by decide +kernel
theorem dX3_inner_25 : decode cX3_inner 25 = .ok (.iload_n 2, 1) := by decide +kernel
theorem dX3_inner_26 : decode cX3_inner 26 = .ok (.iconst 0, 1) := by decide +kernel
theorem dX3_inner_27 : decode cX3_inner 27 = .ok (.invokevirtual 53, 3) := by decide +kernel
theorem dX3_inner_30 : decode cX3_inner 30 = .ok (.lmul, 1) := by decide +kernel
theorem dX3_inner_31 : decode cX3_inner 31 = .ok (.lstore_n 3, 1) := by decide +kernel
theorem dX3_inner_32 : decode cX3_inner 32 = .ok (.iconst 0, 1) := by decide +kernel
theorem dX3_inner_33 : decode cX3_inner 33 = .ok (.istore 5, 2) := by decide +kernel
theorem dX3_inner_35 : decode cX3_inner 35 = .ok (.iload 5, 2) := by decide +kernel
theorem dX3_inner_37 : decode cX3_inner 37 = .ok (.bipush 24, 2) := by decide +kernel
theorem dX3_inner_39 : decode cX3_inner 39 = .ok (.if_icmp .gt 27, 3) := by decide +kernel
theorem dX3_inner_42 : decode cX3_inner 42 = .ok (.lload_n 3, 1) := by decide +kernel
theorem dX3_inner_43 : decode cX3_inner 43 = .ok (.aload_n 0, 1) := by decide +kernel
theorem dX3_inner_44 : decode cX3_inner 44 = .ok (.iload_n 1, 1) := by decide +kernel
theorem dX3_inner_45 : decode cX3_inner 45 = .ok (.iload 5, 2) := by decide +kernel
theorem dX3_inner_47 : decode cX3_inner 47 = .ok (.invokevirtual 53, 3) := by decide +kernel
theorem dX3_inner_50 : decode cX3_inner 50 = .ok (.aload_n 0, 1) := by decide +kernel
theorem dX3_inner_51 : decode cX3_inner 51 = .ok (.iload_n 2, 1) := by decide +kernel
theorem dX3_inner_52 : decode cX3_inner 52 = .ok (.iload 5, 2) := by decide +kernel
theorem dX3_inner_54 : decode cX3_inner 54 = .ok (.invokevirtual 53, 3) := by decide +kernel
theorem dX3_inner_57 : decode cX3_inner 57 = .ok (.lmul, 1) := by decide +kernel
theorem dX3_inner_58 : decode cX3_inner 58 = .ok (.ladd, 1) := by decide +kernel
theorem dX3_inner_59 : decode cX3_inner 59 = .ok (.lstore_n 3, 1) := by decide +kernel
theorem dX3_inner_60 : decode cX3_inner 60 = .ok (.iinc 5 1, 3) := by decide +kernel
theorem dX3_inner_63 : decode cX3_inner 63 = .ok (.goto (-28), 3) := by decide +kernel
theorem dX3_inner_66 : decode cX3_inner 66 = .ok (.lload_n 3, 1) := by decide +kernel
theorem dX3_inner_67 : decode cX3_inner 67 = .ok (.ldc2_w 45, 3) := by decide +kernel
theorem dX3_inner_70 : decode cX3_inner 70 = .ok (.invokestatic 88, 3) := by decide +kernel
theorem dX3_inner_73 : decode cX3_inner 73 = .ok (.lreturn, 1) := by decide +kernel
set_option maxRecDepth 20000 in
theorem ggX3_bound_X3_isSeries : GoodIn wsX3_bound wsX3_isSeries := goodIn_r _ [5, 6, 7, 8, 4, 9] (by decide +kernel) (by decide +kernel)
set_option maxRecDepth 20000 in
theorem gX3_bound_X3_isSeries : GoodIn wsX3_bound (va_wsS RX3 75 yX3_isSeries wsX3_isSeries) := goodIn_app (goodIn_of _ (by decide +kernel)) ggX3_bound_X3_isSeries
set_option maxRecDepth 20000 in
theorem ggX3_bound_X3_of : GoodIn wsX3_bound wsX3_of := goodIn_r _ [13, 14, 18, 19, 20, 21, 22, 23, 24, 25] (by decide +kernel) (by decide +kernel)
set_option maxRecDepth 20000 in
theorem gX3_bound_X3_of : GoodIn wsX3_bound (wsV RX3 53 RX3 yX3_of wsX3_of) := goodIn_app (goodIn_of _ (by decide +kernel)) ggX3_bound_X3_of
set_option maxRecDepth 20000 in
theorem ggX3_bound_X3_size : GoodIn wsX3_bound wsX3_size := goodIn_r _ [17] (by decide +kernel) (by decide +kernel)
set_option maxRecDepth 20000 in
theorem gX3_bound_X3_size : GoodIn wsX3_bound (va_wsS RX3 59 yX3_size wsX3_size) := goodIn_app (goodIn_of _ (by decide +kernel)) ggX3_bound_X3_size
theorem dX3_bound_0 : decode cX3_bound 0 = .ok (.iload_n 1, 1) := by decide +kernel
theorem dX3_bound_1 : decode cX3_bound 1 = .ok (.invokestatic 75, 3) := by decide +kernel
theorem dX3_bound_4 : decode cX3_bound 4 = .ok (.ifCond .ne 7, 3) := by decide +kernel
theorem dX3_bound_7 : decode cX3_bound 7 = .ok (.ldc2_w 83, 3) := by decide +kernel
theorem dX3_bound_10 : decode cX3_bound 10 = .ok (.lreturn, 1) := by decide +kernel
theorem dX3_bound_11 : decode cX3_bound 11 = .ok (.lconst 0, 1) := by decide +kernel
theorem dX3_bound_12 : decode cX3_bound 12 = .ok (.lstore_n 2, 1) := by decide +kernel
theorem dX3_bound_13 : decode cX3_bound 13 = .ok (.iconst 0, 1) := by decide +kernel
theorem dX3_bound_14 : decode cX3_bound 14 = .ok (.istore 4, 2) := by decide +kernel
theorem dX3_bound_16 : decode cX3_bound 16 = .ok (.iload 4, 2) := by decide +kernel
theorem dX3_bound_18 : decode cX3_bound 18 = .ok (.bipush 24, 2) := by decide +kernel
theorem dX3_bound_20 : decode cX3_bound 20 = .ok (.if_icmp .gt 22, 3) := by decide +kernel
theorem dX3_bound_23 : decode cX3_bound 23 = .ok (.lload_n 2, 1) := by decide +kernel
theorem dX3_bound_24 : decode cX3_bound 24 = .ok (.aload_n 0, 1) := by decide +kernel
theorem dX3_bound_25 : decode cX3_bound 25 = .ok (.iload_n 1, 1) := by decide +kernel
theorem dX3_bound_26 : decode cX3_bound 26 = .ok (.iload 4, 2) := by decide +kernel
theorem dX3_bound_28 : decode cX3_bound 28 = .ok (.invokevirtual 53, 3) := by decide +kernel
theorem dX3_bound_31 : decode cX3_bound 31 = .ok (.invokestatic 59, 3) := by decide +kernel
theorem dX3_bound_34 : decode cX3_bound 34 = .ok (.ladd, 1) := by decide +kernel
theorem dX3_bound_35 : decode cX3_bound 35 = .ok (.lstore_n 2, 1) := by decide +kernel
theorem dX3_bound_36 : decode cX3_bound 36 = .ok (.iinc 4 1, 3) := by decide +kernel
theorem dX3_bound_39 : decode cX3_bound 39 = .ok (.goto (-23), 3) := by decide +kernel
theorem dX3_bound_42 : decode cX3_bound 42 = .ok (.lload_n 2, 1) := by decide +kernel
theorem dX3_bound_43 : decode cX3_bound 43 = .ok (.lreturn, 1) := by decide +kernel
set_option maxRecDepth 20000 in
theorem ggX3_degreeWith_X3_isSeries : GoodIn wsX3_degreeWith wsX3_isSeries := goodIn_r _ [5, 6, 7, 8, 4, 9] (by decide +kernel) (by decide +kernel)
set_option maxRecDepth 20000 in
theorem gX3_degreeWith_X3_isSeries : GoodIn wsX3_degreeWith (va_wsS RX3 75 yX3_isSeries wsX3_isSeries) := goodIn_app (goodIn_of _ (by decide +kernel)) ggX3_degreeWith_X3_isSeries
set_option maxRecDepth 20000 in
theorem ggX3_degreeWith_X3_isTolerance : GoodIn wsX3_degreeWith wsX3_isTolerance := goodIn_r _ [12, 13, 7, 8, 4, 9] (by decide +kernel) (by decide +kernel)
set_option maxRecDepth 20000 in
theorem gX3_degreeWith_X3_isTolerance : GoodIn wsX3_degreeWith (va_wsS RX3 121 yX3_isTolerance wsX3_isTolerance) := goodIn_app (goodIn_of _ (by decide +kernel)) ggX3_degreeWith_X3_isTolerance
set_option maxRecDepth 20000 in
theorem ggX3_degreeWith_X3_cutBy : GoodIn wsX3_degreeWith wsX3_cutBy := goodIn_r _ [17, 18, 19, 20, 21, 4, 22, 23, 24, 25, 26, 27, 28, 29, 30, 31, 32, 33, 34] (by decide +kernel) (by decide +kernel)
set_option maxRecDepth 20000 in
theorem gX3_degreeWith_X3_cutBy : GoodIn wsX3_degreeWith (wsV RX3 124 RX3 yX3_cutBy wsX3_cutBy) := goodIn_app (goodIn_of _ (by decide +kernel)) ggX3_degreeWith_X3_cutBy
theorem dX3_degreeWith_0 : decode cX3_degreeWith 0 = .ok (.iload_n 1, 1) := by decide +kernel
theorem dX3_degreeWith_1 : decode cX3_degreeWith 1 = .ok (.invokestatic 75, 3) := by decide +kernel
theorem dX3_degreeWith_4 : decode cX3_degreeWith 4 = .ok (.ifCond .eq 21, 3) := by decide +kernel
theorem dX3_degreeWith_7 : decode cX3_degreeWith 7 = .ok (.iload_n 2, 1) := by decide +kernel
theorem dX3_degreeWith_8 : decode cX3_degreeWith 8 = .ok (.invokestatic 121, 3) := by decide +kernel
theorem dX3_degreeWith_11 : decode cX3_degreeWith 11 = .ok (.ifCond .eq 14, 3) := by decide +kernel
theorem dX3_degreeWith_14 : decode cX3_degreeWith 14 = .ok (.aload_n 0, 1) := by decide +kernel
theorem dX3_degreeWith_15 : decode cX3_degreeWith 15 = .ok (.iload_n 1, 1) := by decide +kernel
theorem dX3_degreeWith_16 : decode cX3_degreeWith 16 = .ok (.iload_n 2, 1) := by decide +kernel
theorem dX3_degreeWith_17 : decode cX3_degreeWith 17 = .ok (.i2l, 1) := by decide +kernel
theorem dX3_degreeWith_18 : decode cX3_degreeWith 18 = .ok (.invokevirtual 124, 3) := by decide +kernel
theorem dX3_degreeWith_21 : decode cX3_degreeWith 21 = .ok (.i2l, 1) := by decide +kernel
theorem dX3_degreeWith_22 : decode cX3_degreeWith 22 = .ok (.goto 6, 3) := by decide +kernel
theorem dX3_degreeWith_25 : decode cX3_degreeWith 25 = .ok (.ldc2_w 83, 3) := by decide +kernel
theorem dX3_degreeWith_28 : decode cX3_degreeWith 28 = .ok (.lreturn, 1) := by decide +kernel
set_option maxRecDepth 20000 in
theorem ggX3_byValue_X3_isSeries : GoodIn wsX3_byValue wsX3_isSeries := goodIn_r _ [8, 9, 10, 11, 7, 12] (by decide +kernel) (by decide +kernel)
set_option maxRecDepth 20000 in
theorem gX3_byValue_X3_isSeries : GoodIn wsX3_byValue (va_wsS RX3 75 yX3_isSeries wsX3_isSeries) := goodIn_app (goodIn_of _ (by decide +kernel)) ggX3_byValue_X3_isSeries
set_option maxRecDepth 20000 in
theorem ggX3_byValue_X3_in : GoodIn wsX3_byValue wsX3_in := goodIn_r _ [12] (by decide +kernel) (by decide +kernel)
set_option maxRecDepth 20000 in
theorem gX3_byValue_X3_in : GoodIn wsX3_byValue (va_wsS RX3 39 yX3_in wsX3_in) := goodIn_app (goodIn_of _ (by decide +kernel)) ggX3_byValue_X3_in
set_option maxRecDepth 20000 in
theorem ggX3_byValue_X3_of : GoodIn wsX3_byValue wsX3_of := goodIn_r _ [16, 17, 21, 22, 23, 24, 25, 26, 27, 28] (by decide +kernel) (by decide +kernel)
set_option maxRecDepth 20000 in
theorem gX3_byValue_X3_of : GoodIn wsX3_byValue (wsV RX3 53 RX3 yX3_of wsX3_of) := goodIn_app (goodIn_of _ (by decide +kernel)) ggX3_byValue_X3_of
set_option maxRecDepth 20000 in
theorem ggX3_byValue_X3_size : GoodIn wsX3_byValue wsX3_size := goodIn_r _ [20] (by decide +kernel) (by decide +kernel)
set_option maxRecDepth 20000 in
theorem gX3_byValue_X3_size : GoodIn wsX3_byValue (va_wsS RX3 59 yX3_size wsX3_size) := goodIn_app (goodIn_of _ (by decide +kernel)) ggX3_byValue_X3_size
theorem dX3_byValue_0 : decode cX3_byValue 0 = .ok (.iload_n 1, 1) := by decide +kernel
theorem dX3_byValue_1 : decode cX3_byValue 1 = .ok (.invokestatic 75, 3) := by decide +kernel
theorem dX3_byValue_4 : decode cX3_byValue 4 = .ok (.ifCond .eq 15, 3) := by decide +kernel
theorem dX3_byValue_7 : decode cX3_byValue 7 = .ok (.iload_n 2, 1) := by decide +kernel
theorem dX3_byValue_8 : decode cX3_byValue 8 = .ok (.i2l, 1) := by decide +kernel
theorem dX3_byValue_9 : decode cX3_byValue 9 = .ok (.lconst 0, 1) := by decide +kernel
theorem dX3_byValue_10 : decode cX3_byValue 10 = .ok (.ldc2_w 79, 3) := by decide +kernel
theorem dX3_byValue_13 : decode cX3_byValue 13 = .ok (.invokestatic 39, 3) := by decide +kernel
theorem dX3_byValue_16 : decode cX3_byValue 16 = .ok (.ifCond .ne 7, 3) := by decide +kernel
theorem dX3_byValue_19 : decode cX3_byValue 19 = .ok (.ldc2_w 83, 3) := by decide +kernel
theorem dX3_byValue_22 : decode cX3_byValue 22 = .ok (.lreturn, 1) := by decide +kernel
theorem dX3_byValue_23 : decode cX3_byValue 23 = .ok (.iconst 0, 1) := by decide +kernel
theorem dX3_byValue_24 : decode cX3_byValue 24 = .ok (.istore_n 3, 1) := by decide +kernel
theorem dX3_byValue_25 : decode cX3_byValue 25 = .ok (.iload_n 3, 1) := by decide +kernel
theorem dX3_byValue_26 : decode cX3_byValue 26 = .ok (.aload_n 0, 1) := by decide +kernel
theorem dX3_byValue_27 : decode cX3_byValue 27 = .ok (.getfield 13, 3) := by decide +kernel
theorem dX3_byValue_30 : decode cX3_byValue 30 = .ok (.iload_n 1, 1) := by decide +kernel
theorem dX3_byValue_31 : decode cX3_byValue 31 = .ok (.iaload, 1) := by decide +kernel
theorem dX3_byValue_32 : decode cX3_byValue 32 = .ok (.if_icmp .gt 93, 3) := by decide +kernel
theorem dX3_byValue_35 : decode cX3_byValue 35 = .ok (.iconst 0, 1) := by decide +kernel
theorem dX3_byValue_36 : decode cX3_byValue 36 = .ok (.istore 4, 2) := by decide +kernel
theorem dX3_byValue_38 : decode cX3_byValue 38 = .ok (.iconst 0, 1) := by decide +kernel
theorem dX3_byValue_39 : decode cX3_byValue 39 = .ok (.istore 5, 2) := by decide +kernel
theorem dX3_byValue_41 : decode cX3_byValue 41 = .ok (.iload 5, 2) := by decide +kernel
theorem dX3_byValue_43 : decode cX3_byValue 43 = .ok (.aload_n 0, 1) := by decide +kernel
theorem dX3_byValue_44 : decode cX3_byValue 44 = .ok (.getfield 13, 3) := by decide +kernel
theorem dX3_byValue_47 : decode cX3_byValue 47 = .ok (.iload_n 1, 1) := by decide +kernel
theorem dX3_byValue_48 : decode cX3_byValue 48 = .ok (.iaload, 1) := by decide +kernel
theorem dX3_byValue_49 : decode cX3_byValue 49 = .ok (.if_icmp .gt 61, 3) := by decide +kernel
theorem dX3_byValue_52 : decode cX3_byValue 52 = .ok (.aload_n 0, 1) := by decide +kernel
theorem dX3_byValue_53 : decode cX3_byValue 53 = .ok (.iload_n 1, 1) := by decide +kernel
theorem dX3_byValue_54 : decode cX3_byValue 54 = .ok (.iload 5, 2) := by decide +kernel
theorem dX3_byValue_56 : decode cX3_byValue 56 = .ok (.invokevirtual 53, 3) := by decide +kernel
theorem dX3_byValue_59 : decode cX3_byValue 59 = .ok (.invokestatic 59, 3) := by decide +kernel
theorem dX3_byValue_62 : decode cX3_byValue 62 = .ok (.aload_n 0, 1) := by decide +kernel
theorem dX3_byValue_63 : decode cX3_byValue 63 = .ok (.iload_n 1, 1) := by decide +kernel
theorem dX3_byValue_64 : decode cX3_byValue 64 = .ok (.iload_n 3, 1) := by decide +kernel
theorem dX3_byValue_65 : decode cX3_byValue 65 = .ok (.invokevirtual 53, 3) := by decide +kernel
theorem dX3_byValue_68 : decode cX3_byValue 68 = .ok (.invokestatic 59, 3) := by decide +kernel
theorem dX3_byValue_71 : decode cX3_byValue 71 = .ok (.lsub, 1) := by decide +kernel
theorem dX3_byValue_72 : decode cX3_byValue 72 = .ok (.lstore 6, 2) := by decide +kernel
theorem dX3_byValue_74 : decode cX3_byValue 74 = .ok (.iload 4, 2) := by decide +kernel
theorem dX3_byValue_76 : decode cX3_byValue 76 = .ok (.lload 6, 2) := by decide +kernel
theorem dX3_byValue_78 : decode cX3_byValue 78 = .ok (.lconst 0, 1) := by decide +kernel
theorem dX3_byValue_79 : decode cX3_byValue 79 = .ok (.lcmp, 1) := by decide +kernel
theorem dX3_byValue_80 : decode cX3_byValue 80 = .ok (.ifCond .gt 16, 3) := by decide +kernel
theorem dX3_byValue_83 : decode cX3_byValue 83 = .ok (.lload 6, 2) := by decide +kernel
theorem dX3_byValue_85 : decode cX3_byValue 85 = .ok (.lconst 0, 1) := by decide +kernel
theorem dX3_byValue_86 : decode cX3_byValue 86 = .ok (.lcmp, 1) := by decide +kernel
theorem dX3_byValue_87 : decode cX3_byValue 87 = .ok (.ifCond .ne 13, 3) := by decide +kernel
theorem dX3_byValue_90 : decode cX3_byValue 90 = .ok (.iload 5, 2) := by decide +kernel
theorem dX3_byValue_92 : decode cX3_byValue 92 = .ok (.iload_n 3, 1) := by decide +kernel
theorem dX3_byValue_93 : decode cX3_byValue 93 = .ok (.if_icmp .ge 7, 3) := by decide +kernel
theorem dX3_byValue_96 : decode cX3_byValue 96 = .ok (.iconst 1, 1) := by decide +kernel
theorem dX3_byValue_97 : decode cX3_byValue 97 = .ok (.goto 4, 3) := by decide +kernel
theorem dX3_byValue_100 : decode cX3_byValue 100 = .ok (.iconst 0, 1) := by decide +kernel
theorem dX3_byValue_101 : decode cX3_byValue 101 = .ok (.iadd, 1) := by decide +kernel
theorem dX3_byValue_102 : decode cX3_byValue 102 = .ok (.istore 4, 2) := by decide +kernel
theorem dX3_byValue_104 : decode cX3_byValue 104 = .ok (.iinc 5 1, 3) := by decide +kernel
theorem dX3_byValue_107 : decode cX3_byValue 107 = .ok (.goto (-66), 3) := by decide +kernel
theorem dX3_byValue_110 : decode cX3_byValue 110 = .ok (.iload 4, 2) := by decide +kernel
theorem dX3_byValue_112 : decode cX3_byValue 112 = .ok (.iload_n 2, 1) := by decide +kernel
theorem dX3_byValue_113 : decode cX3_byValue 113 = .ok (.if_icmp .ne 6, 3) := by decide +kernel
theorem dX3_byValue_116 : decode cX3_byValue 116 = .ok (.iload_n 3, 1) := by decide +kernel
theorem dX3_byValue_117 : decode cX3_byValue 117 = .ok (.i2l, 1) := by decide +kernel
theorem dX3_byValue_118 : decode cX3_byValue 118 = .ok (.lreturn, 1) := by decide +kernel
theorem dX3_byValue_119 : decode cX3_byValue 119 = .ok (.iinc 3 1, 3) := by decide +kernel
theorem dX3_byValue_122 : decode cX3_byValue 122 = .ok (.goto (-97), 3) := by decide +kernel
theorem dX3_byValue_125 : decode cX3_byValue 125 = .ok (.ldc2_w 130, 3) := by decide +kernel
theorem dX3_byValue_128 : decode cX3_byValue 128 = .ok (.lreturn, 1) := by decide +kernel
theorem dX3_cosine_0 : decode cX3_cosine 0 = .ok (.iload_n 1, 1) := by decide +kernel
theorem dX3_cosine_1 : decode cX3_cosine 1 = .ok (.bipush 32, 2) := by decide +kernel
theorem dX3_cosine_3 : decode cX3_cosine 3 = .ok (.irem, 1) := by decide +kernel
theorem dX3_cosine_4 : decode cX3_cosine 4 = .ok (.istore_n 2, 1) := by decide +kernel
theorem dX3_cosine_5 : decode cX3_cosine 5 = .ok (.iload_n 2, 1) := by decide +kernel
theorem dX3_cosine_6 : decode cX3_cosine 6 = .ok (.bipush 16, 2) := by decide +kernel
theorem dX3_cosine_8 : decode cX3_cosine 8 = .ok (.if_icmp .le 10, 3) := by decide +kernel
theorem dX3_cosine_11 : decode cX3_cosine 11 = .ok (.bipush 32, 2) := by decide +kernel
theorem dX3_cosine_13 : decode cX3_cosine 13 = .ok (.iload_n 2, 1) := by decide +kernel
theorem dX3_cosine_14 : decode cX3_cosine 14 = .ok (.isub, 1) := by decide +kernel
theorem dX3_cosine_15 : decode cX3_cosine 15 = .ok (.goto 4, 3) := by decide +kernel
theorem dX3_cosine_18 : decode cX3_cosine 18 = .ok (.iload_n 2, 1) := by decide +kernel
theorem dX3_cosine_19 : decode cX3_cosine 19 = .ok (.istore_n 2, 1) := by decide +kernel
theorem dX3_cosine_20 : decode cX3_cosine 20 = .ok (.iload_n 2, 1) := by decide +kernel
theorem dX3_cosine_21 : decode cX3_cosine 21 = .ok (.bipush 8, 2) := by decide +kernel
theorem dX3_cosine_23 : decode cX3_cosine 23 = .ok (.if_icmp .gt 13, 3) := by decide +kernel
theorem dX3_cosine_26 : decode cX3_cosine 26 = .ok (.aload_n 0, 1) := by decide +kernel
theorem dX3_cosine_27 : decode cX3_cosine 27 = .ok (.getfield 28, 3) := by decide +kernel
theorem dX3_cosine_30 : decode cX3_cosine 30 = .ok (.iload_n 2, 1) := by decide +kernel
theorem dX3_cosine_31 : decode cX3_cosine 31 = .ok (.iaload, 1) := by decide +kernel
theorem dX3_cosine_32 : decode cX3_cosine 32 = .ok (.i2l, 1) := by decide +kernel
theorem dX3_cosine_33 : decode cX3_cosine 33 = .ok (.goto 14, 3) := by decide +kernel
theorem dX3_cosine_36 : decode cX3_cosine 36 = .ok (.aload_n 0, 1) := by decide +kernel
theorem dX3_cosine_37 : decode cX3_cosine 37 = .ok (.getfield 28, 3) := by decide +kernel
theorem dX3_cosine_40 : decode cX3_cosine 40 = .ok (.bipush 16, 2) := by decide +kernel
theorem dX3_cosine_42 : decode cX3_cosine 42 = .ok (.iload_n 2, 1) := by decide +kernel
theorem dX3_cosine_43 : decode cX3_cosine 43 = .ok (.isub, 1) := by decide +kernel
theorem dX3_cosine_44 : decode cX3_cosine 44 = .ok (.iaload, 1) := by decide +kernel
theorem dX3_cosine_45 : decode cX3_cosine 45 = .ok (.ineg, 1) := by decide +kernel
theorem dX3_cosine_46 : decode cX3_cosine 46 = .ok (.i2l, 1) := by decide +kernel
theorem dX3_cosine_47 : decode cX3_cosine 47 = .ok (.lreturn, 1) := by decide +kernel
set_option maxRecDepth 20000 in
theorem ggX3_isPower_X3_in : GoodIn wsX3_isPower wsX3_in := goodIn_r _ [5] (by decide +kernel) (by decide +kernel)
set_option maxRecDepth 20000 in
theorem gX3_isPower_X3_in : GoodIn wsX3_isPower (va_wsS RX3 39 yX3_in wsX3_in) := goodIn_app (goodIn_of _ (by decide +kernel)) ggX3_isPower_X3_in
theorem dX3_isPower_0 : decode cX3_isPower 0 = .ok (.iload_n 0, 1) := by decide +kernel
theorem dX3_isPower_1 : decode cX3_isPower 1 = .ok (.i2l, 1) := by decide +kernel
theorem dX3_isPower_2 : decode cX3_isPower 2 = .ok (.lconst 0, 1) := by decide +kernel
theorem dX3_isPower_3 : decode cX3_isPower 3 = .ok (.ldc2_w 132, 3) := by decide +kernel
theorem dX3_isPower_6 : decode cX3_isPower 6 = .ok (.invokestatic 39, 3) := by decide +kernel
theorem dX3_isPower_9 : decode cX3_isPower 9 = .ok (.ireturn, 1) := by decide +kernel
set_option maxRecDepth 20000 in
theorem ggX3_setValue_X3_in : GoodIn wsX3_setValue wsX3_in := goodIn_r _ [9] (by decide +kernel) (by decide +kernel)
set_option maxRecDepth 20000 in
theorem gX3_setValue_X3_in : GoodIn wsX3_setValue (va_wsS RX3 39 yX3_in wsX3_in) := goodIn_app (goodIn_of _ (by decide +kernel)) ggX3_setValue_X3_in
theorem dX3_setValue_0 : decode cX3_setValue 0 = .ok (.iload_n 1, 1) := by decide +kernel
theorem dX3_setValue_1 : decode cX3_setValue 1 = .ok (.i2l, 1) := by decide +kernel
theorem dX3_setValue_2 : decode cX3_setValue 2 = .ok (.lconst 0, 1) := by decide +kernel
theorem dX3_setValue_3 : decode cX3_setValue 3 = .ok (.ldc2_w 134, 3) := by decide +kernel
theorem dX3_setValue_6 : decode cX3_setValue 6 = .ok (.invokestatic 39, 3) := by decide +kernel
theorem dX3_setValue_9 : decode cX3_setValue 9 = .ok (.ifCond .eq 17, 3) := by decide +kernel
theorem dX3_setValue_12 : decode cX3_setValue 12 = .ok (.iload_n 2, 1) := by decide +kernel
theorem dX3_setValue_13 : decode cX3_setValue 13 = .ok (.i2l, 1) := by decide +kernel
theorem dX3_setValue_14 : decode cX3_setValue 14 = .ok (.ldc2_w 136, 3) := by decide +kernel
theorem dX3_setValue_17 : decode cX3_setValue 17 = .ok (.ldc2_w 138, 3) := by decide +kernel
theorem dX3_setValue_20 : decode cX3_setValue 20 = .ok (.invokestatic 39, 3) := by decide +kernel
theorem dX3_setValue_23 : decode cX3_setValue 23 = .ok (.ifCond .ne 7, 3) := by decide +kernel
theorem dX3_setValue_26 : decode cX3_setValue 26 = .ok (.ldc2_w 83, 3) := by decide +kernel
theorem dX3_setValue_29 : decode cX3_setValue 29 = .ok (.lreturn, 1) := by decide +kernel
theorem dX3_setValue_30 : decode cX3_setValue 30 = .ok (.aload_n 0, 1) := by decide +kernel
theorem dX3_setValue_31 : decode cX3_setValue 31 = .ok (.getfield 17, 3) := by decide +kernel
theorem dX3_setValue_34 : decode cX3_setValue 34 = .ok (.iload_n 1, 1) := by decide +kernel
theorem dX3_setValue_35 : decode cX3_setValue 35 = .ok (.iaload, 1) := by decide +kernel
theorem dX3_setValue_36 : decode cX3_setValue 36 = .ok (.istore_n 3, 1) := by decide +kernel
theorem dX3_setValue_37 : decode cX3_setValue 37 = .ok (.aload_n 0, 1) := by decide +kernel
theorem dX3_setValue_38 : decode cX3_setValue 38 = .ok (.getfield 17, 3) := by decide +kernel
theorem dX3_setValue_41 : decode cX3_setValue 41 = .ok (.iload_n 1, 1) := by decide +kernel
theorem dX3_setValue_42 : decode cX3_setValue 42 = .ok (.iload_n 2, 1) := by decide +kernel
theorem dX3_setValue_43 : decode cX3_setValue 43 = .ok (.iastore, 1) := by decide +kernel
theorem dX3_setValue_44 : decode cX3_setValue 44 = .ok (.iload_n 3, 1) := by decide +kernel
theorem dX3_setValue_45 : decode cX3_setValue 45 = .ok (.i2l, 1) := by decide +kernel
theorem dX3_setValue_46 : decode cX3_setValue 46 = .ok (.lreturn, 1) := by decide +kernel
set_option maxRecDepth 20000 in
theorem ggX3_interpolate_X3_isPower : GoodIn wsX3_interpolate wsX3_isPower := goodIn_r _ [8, 9, 10, 11, 7, 12] (by decide +kernel) (by decide +kernel)
set_option maxRecDepth 20000 in
theorem gX3_interpolate_X3_isPower : GoodIn wsX3_interpolate (va_wsS RX3 140 yX3_isPower wsX3_isPower) := goodIn_app (goodIn_of _ (by decide +kernel)) ggX3_interpolate_X3_isPower
set_option maxRecDepth 20000 in
theorem ggX3_interpolate_X3_isSeries : GoodIn wsX3_interpolate wsX3_isSeries := goodIn_r _ [15, 16, 10, 11, 7, 12] (by decide +kernel) (by decide +kernel)
set_option maxRecDepth 20000 in
theorem gX3_interpolate_X3_isSeries : GoodIn wsX3_interpolate (va_wsS RX3 75 yX3_isSeries wsX3_isSeries) := goodIn_app (goodIn_of _ (by decide +kernel)) ggX3_interpolate_X3_isSeries
set_option maxRecDepth 20000 in
theorem ggX3_interpolate_X3_clears : GoodIn wsX3_interpolate wsX3_clears := goodIn_r _ [20, 21, 22, 23, 24, 7, 25, 26, 57, 58, 59, 60, 61, 62, 63, 64] (by decide +kernel) (by decide +kernel)
set_option maxRecDepth 20000 in
theorem gX3_interpolate_X3_clears : GoodIn wsX3_interpolate (wsV RX3 103 RX3 yX3_clears wsX3_clears) := goodIn_app (goodIn_of _ (by decide +kernel)) ggX3_interpolate_X3_clears
set_option maxRecDepth 20000 in
theorem ggX3_interpolate_X3_cosine : GoodIn wsX3_interpolate wsX3_cosine := goodIn_r _ [30, 31, 57, 58, 59, 60, 61, 62, 63, 64] (by decide +kernel) (by decide +kernel)
set_option maxRecDepth 20000 in
theorem gX3_interpolate_X3_cosine : GoodIn wsX3_interpolate (wsV RX3 143 RX3 yX3_cosine wsX3_cosine) := goodIn_app (goodIn_of _ (by decide +kernel)) ggX3_interpolate_X3_cosine
set_option maxRecDepth 20000 in
theorem ggX3_interpolate_X3_rounded : GoodIn wsX3_interpolate wsX3_rounded := goodIn_r _ [34, 2] (by decide +kernel) (by decide +kernel)
set_option maxRecDepth 20000 in
theorem gX3_interpolate_X3_rounded : GoodIn wsX3_interpolate (va_wsS RX3 88 yX3_rounded wsX3_rounded) := goodIn_app (goodIn_of _ (by decide +kernel)) ggX3_interpolate_X3_rounded
set_option maxRecDepth 20000 in
theorem ggX3_interpolate_X3_sets : GoodIn wsX3_interpolate wsX3_sets := goodIn_r _ [25, 26, 57, 58, 59, 60, 61, 62, 63, 64] (by decide +kernel) (by decide +kernel)
set_option maxRecDepth 20000 in
theorem gX3_interpolate_X3_sets : GoodIn wsX3_interpolate (wsV RX3 49 RX3 yX3_sets wsX3_sets) := goodIn_app (goodIn_of _ (by decide +kernel)) ggX3_interpolate_X3_sets
set_option maxRecDepth 20000 in
theorem ggX3_interpolate_X3_gives : GoodIn wsX3_interpolate wsX3_gives := goodIn_r _ [38, 21, 39, 40, 41, 7, 42, 43, 44, 45, 46, 47, 48, 49, 26, 50, 51, 52, 53, 54, 55, 56, 22, 23, 24, 25, 57, 58, 59, 60, 61, 62, 63, 64] (by decide +kernel) (by decide +kernel)
set_option maxRecDepth 20000 in
theorem gX3_interpolate_X3_gives : GoodIn wsX3_interpolate (wsV RX3 85 RX3 yX3_gives wsX3_gives) := goodIn_app (goodIn_of _ (by decide +kernel)) ggX3_interpolate_X3_gives
theorem dX3_interpolate_0 : decode cX3_interpolate 0 = .ok (.iload_n 1, 1) := by decide +kernel
theorem dX3_interpolate_1 : decode cX3_interpolate 1 = .ok (.invokestatic 140, 3) := by decide +kernel
theorem dX3_interpolate_4 : decode cX3_interpolate 4 = .ok (.ifCond .eq 10, 3) := by decide +kernel
theorem dX3_interpolate_7 : decode cX3_interpolate 7 = .ok (.iload_n 2, 1) := by decide +kernel
theorem dX3_interpolate_8 : decode cX3_interpolate 8 = .ok (.invokestatic 75, 3) := by decide +kernel
theorem dX3_interpolate_11 : decode cX3_interpolate 11 = .ok (.ifCond .ne 7, 3) := by decide +kernel
theorem dX3_interpolate_14 : decode cX3_interpolate 14 = .ok (.ldc2_w 83, 3) := by decide +kernel
theorem dX3_interpolate_17 : decode cX3_interpolate 17 = .ok (.lreturn, 1) := by decide +kernel
theorem dX3_interpolate_18 : decode cX3_interpolate 18 = .ok (.iconst 1, 1) := by decide +kernel
theorem dX3_interpolate_19 : decode cX3_interpolate 19 = .ok (.iload_n 1, 1) := by decide +kernel
theorem dX3_interpolate_20 : decode cX3_interpolate 20 = .ok (.ishl, 1) := by decide +kernel
theorem dX3_interpolate_21 : decode cX3_interpolate 21 = .ok (.istore_n 3, 1) := by decide +kernel
theorem dX3_interpolate_22 : decode cX3_interpolate 22 = .ok (.aload_n 0, 1) := by decide +kernel
theorem dX3_interpolate_23 : decode cX3_interpolate 23 = .ok (.bipush 8, 2) := by decide +kernel
theorem dX3_interpolate_25 : decode cX3_interpolate 25 = .ok (.iload_n 3, 1) := by decide +kernel
theorem dX3_interpolate_26 : decode cX3_interpolate 26 = .ok (.invokevirtual 103, 3) := by decide +kernel
theorem dX3_interpolate_29 : decode cX3_interpolate 29 = .ok (.iconst 0, 1) := by decide +kernel
theorem dX3_interpolate_30 : decode cX3_interpolate 30 = .ok (.istore 4, 2) := by decide +kernel
theorem dX3_interpolate_32 : decode cX3_interpolate 32 = .ok (.iload 4, 2) := by decide +kernel
theorem dX3_interpolate_34 : decode cX3_interpolate 34 = .ok (.iload_n 3, 1) := by decide +kernel
theorem dX3_interpolate_35 : decode cX3_interpolate 35 = .ok (.if_icmp .gt 116, 3) := by decide +kernel
theorem dX3_interpolate_38 : decode cX3_interpolate 38 = .ok (.lconst 0, 1) := by decide +kernel
theorem dX3_interpolate_39 : decode cX3_interpolate 39 = .ok (.lstore 5, 2) := by decide +kernel
theorem dX3_interpolate_41 : decode cX3_interpolate 41 = .ok (.iconst 0, 1) := by decide +kernel
theorem dX3_interpolate_42 : decode cX3_interpolate 42 = .ok (.istore 7, 2) := by decide +kernel
theorem dX3_interpolate_44 : decode cX3_interpolate 44 = .ok (.iload 7, 2) := by decide +kernel
theorem dX3_interpolate_46 : decode cX3_interpolate 46 = .ok (.iload_n 3, 1) := by decide +kernel
theorem dX3_interpolate_47 : decode cX3_interpolate 47 = .ok (.if_icmp .gt 56, 3) := by decide +kernel
theorem dX3_interpolate_50 : decode cX3_interpolate 50 = .ok (.lload 5, 2) := by decide +kernel
theorem dX3_interpolate_52 : decode cX3_interpolate 52 = .ok (.iload 7, 2) := by decide +kernel
theorem dX3_interpolate_54 : decode cX3_interpolate 54 = .ok (.ifCond .eq 9, 3) := by decide +kernel
theorem dX3_interpolate_57 : decode cX3_interpolate 57 = .ok (.iload 7, 2) := by decide +kernel
theorem dX3_interpolate_59 : decode cX3_interpolate 59 = .ok (.iload_n 3, 1) := by decide +kernel
theorem dX3_interpolate_60 : decode cX3_interpolate 60 = .ok (.if_icmp .ne 7, 3) := by decide +kernel
theorem dX3_interpolate_63 : decode cX3_interpolate 63 = .ok (.lconst 1, 1) := by decide +kernel
theorem dX3_interpolate_64 : decode cX3_interpolate 64 = .ok (.goto 6, 3) := by decide +kernel
theorem dX3_interpolate_67 : decode cX3_interpolate 67 = .ok (.ldc2_w 47, 3) := by decide +kernel
theorem dX3_interpolate_70 : decode cX3_interpolate 70 = .ok (.aload_n 0, 1) := by decide +kernel
theorem dX3_interpolate_71 : decode cX3_interpolate 71 = .ok (.getfield 17, 3) := by decide +kernel
theorem dX3_interpolate_74 : decode cX3_interpolate 74 = .ok (.iload 7, 2) := by decide +kernel
theorem dX3_interpolate_76 : decode cX3_interpolate 76 = .ok (.iaload, 1) := by decide +kernel
theorem dX3_interpolate_77 : decode cX3_interpolate 77 = .ok (.i2l, 1) := by decide +kernel
theorem dX3_interpolate_78 : decode cX3_interpolate 78 = .ok (.lmul, 1) := by decide +kernel
theorem dX3_interpolate_79 : decode cX3_interpolate 79 = .ok (.aload_n 0, 1) := by decide +kernel
theorem dX3_interpolate_80 : decode cX3_interpolate 80 = .ok (.iload 7, 2) := by decide +kernel
theorem dX3_interpolate_82 : decode cX3_interpolate 82 = .ok (.iload 4, 2) := by decide +kernel
theorem dX3_interpolate_84 : decode cX3_interpolate 84 = .ok (.imul, 1) := by decide +kernel
theorem dX3_interpolate_85 : decode cX3_interpolate 85 = .ok (.bipush 16, 2) := by decide +kernel
theorem dX3_interpolate_87 : decode cX3_interpolate 87 = .ok (.iload_n 3, 1) := by decide +kernel
theorem dX3_interpolate_88 : decode cX3_interpolate 88 = .ok (.idiv, 1) := by decide +kernel
theorem dX3_interpolate_89 : decode cX3_interpolate 89 = .ok (.imul, 1) := by decide +kernel
theorem dX3_interpolate_90 : decode cX3_interpolate 90 = .ok (.invokevirtual 143, 3) := by decide +kernel
theorem dX3_interpolate_93 : decode cX3_interpolate 93 = .ok (.lmul, 1) := by decide +kernel
theorem dX3_interpolate_94 : decode cX3_interpolate 94 = .ok (.ladd, 1) := by decide +kernel
theorem dX3_interpolate_95 : decode cX3_interpolate 95 = .ok (.lstore 5, 2) := by decide +kernel
theorem dX3_interpolate_97 : decode cX3_interpolate 97 = .ok (.iinc 7 1, 3) := by decide +kernel
theorem dX3_interpolate_100 : decode cX3_interpolate 100 = .ok (.goto (-56), 3) := by decide +kernel
theorem dX3_interpolate_103 : decode cX3_interpolate 103 = .ok (.aload_n 0, 1) := by decide +kernel
theorem dX3_interpolate_104 : decode cX3_interpolate 104 = .ok (.bipush 8, 2) := by decide +kernel
theorem dX3_interpolate_106 : decode cX3_interpolate 106 = .ok (.iload 4, 2) := by decide +kernel
theorem dX3_interpolate_108 : decode cX3_interpolate 108 = .ok (.iload 4, 2) := by decide +kernel
theorem dX3_interpolate_110 : decode cX3_interpolate 110 = .ok (.ifCond .eq 9, 3) := by decide +kernel
theorem dX3_interpolate_113 : decode cX3_interpolate 113 = .ok (.iload 4, 2) := by decide +kernel
theorem dX3_interpolate_115 : decode cX3_interpolate 115 = .ok (.iload_n 3, 1) := by decide +kernel
theorem dX3_interpolate_116 : decode cX3_interpolate 116 = .ok (.if_icmp .ne 7, 3) := by decide +kernel
theorem dX3_interpolate_119 : decode cX3_interpolate 119 = .ok (.lconst 1, 1) := by decide +kernel
theorem dX3_interpolate_120 : decode cX3_interpolate 120 = .ok (.goto 6, 3) := by decide +kernel
theorem dX3_interpolate_123 : decode cX3_interpolate 123 = .ok (.ldc2_w 47, 3) := by decide +kernel
theorem dX3_interpolate_126 : decode cX3_interpolate 126 = .ok (.lload 5, 2) := by decide +kernel
theorem dX3_interpolate_128 : decode cX3_interpolate 128 = .ok (.lmul, 1) := by decide +kernel
theorem dX3_interpolate_129 : decode cX3_interpolate 129 = .ok (.ldc2_w 47, 3) := by decide +kernel
theorem dX3_interpolate_132 : decode cX3_interpolate 132 = .ok (.iload_n 3, 1) := by decide +kernel
theorem dX3_interpolate_133 : decode cX3_interpolate 133 = .ok (.i2l, 1) := by decide +kernel
theorem dX3_interpolate_134 : decode cX3_interpolate 134 = .ok (.lmul, 1) := by decide +kernel
theorem dX3_interpolate_135 : decode cX3_interpolate 135 = .ok (.ldc2_w 45, 3) := by decide +kernel
theorem dX3_interpolate_138 : decode cX3_interpolate 138 = .ok (.lmul, 1) := by decide +kernel
theorem dX3_interpolate_139 : decode cX3_interpolate 139 = .ok (.invokestatic 88, 3) := by decide +kernel
theorem dX3_interpolate_142 : decode cX3_interpolate 142 = .ok (.invokevirtual 49, 3) := by decide +kernel
theorem dX3_interpolate_145 : decode cX3_interpolate 145 = .ok (.iinc 4 1, 3) := by decide +kernel
theorem dX3_interpolate_148 : decode cX3_interpolate 148 = .ok (.goto (-116), 3) := by decide +kernel
theorem dX3_interpolate_151 : decode cX3_interpolate 151 = .ok (.aload_n 0, 1) := by decide +kernel
theorem dX3_interpolate_152 : decode cX3_interpolate 152 = .ok (.iload_n 2, 1) := by decide +kernel
theorem dX3_interpolate_153 : decode cX3_interpolate 153 = .ok (.invokevirtual 85, 3) := by decide +kernel
theorem dX3_interpolate_156 : decode cX3_interpolate 156 = .ok (.lreturn, 1) := by decide +kernel
set_option maxRecDepth 20000 in
theorem ggX3_pointAt_X3_cosine : GoodIn wsX3_pointAt wsX3_cosine := goodIn_r _ [5, 6, 7, 8, 9, 10, 11, 12, 13, 14] (by decide +kernel) (by decide +kernel)
set_option maxRecDepth 20000 in
theorem gX3_pointAt_X3_cosine : GoodIn wsX3_pointAt (wsV RX3 143 RX3 yX3_cosine wsX3_cosine) := goodIn_app (goodIn_of _ (by decide +kernel)) ggX3_pointAt_X3_cosine
theorem dX3_pointAt_0 : decode cX3_pointAt 0 = .ok (.aload_n 0, 1) := by decide +kernel
theorem dX3_pointAt_1 : decode cX3_pointAt 1 = .ok (.iload_n 2, 1) := by decide +kernel
theorem dX3_pointAt_2 : decode cX3_pointAt 2 = .ok (.bipush 16, 2) := by decide +kernel
theorem dX3_pointAt_4 : decode cX3_pointAt 4 = .ok (.iload_n 1, 1) := by decide +kernel
theorem dX3_pointAt_5 : decode cX3_pointAt 5 = .ok (.ishr, 1) := by decide +kernel
theorem dX3_pointAt_6 : decode cX3_pointAt 6 = .ok (.imul, 1) := by decide +kernel
theorem dX3_pointAt_7 : decode cX3_pointAt 7 = .ok (.invokevirtual 143, 3) := by decide +kernel
theorem dX3_pointAt_10 : decode cX3_pointAt 10 = .ok (.lreturn, 1) := by decide +kernel
set_option maxRecDepth 20000 in
theorem ggX3_sample_X3_isSeries : GoodIn wsX3_sample wsX3_isSeries := goodIn_r _ [8, 9, 10, 11, 7, 12] (by decide +kernel) (by decide +kernel)
set_option maxRecDepth 20000 in
theorem gX3_sample_X3_isSeries : GoodIn wsX3_sample (va_wsS RX3 75 yX3_isSeries wsX3_isSeries) := goodIn_app (goodIn_of _ (by decide +kernel)) ggX3_sample_X3_isSeries
set_option maxRecDepth 20000 in
theorem ggX3_sample_X3_isPower : GoodIn wsX3_sample wsX3_isPower := goodIn_r _ [15, 16, 10, 11, 7, 12] (by decide +kernel) (by decide +kernel)
set_option maxRecDepth 20000 in
theorem gX3_sample_X3_isPower : GoodIn wsX3_sample (va_wsS RX3 140 yX3_isPower wsX3_isPower) := goodIn_app (goodIn_of _ (by decide +kernel)) ggX3_sample_X3_isPower
set_option maxRecDepth 20000 in
theorem ggX3_sample_X3_pointAt : GoodIn wsX3_sample wsX3_pointAt := goodIn_r _ [20, 21, 22, 23, 7, 24, 25, 44, 45, 46, 47, 48, 49, 50, 51] (by decide +kernel) (by decide +kernel)
set_option maxRecDepth 20000 in
theorem gX3_sample_X3_pointAt : GoodIn wsX3_sample (wsV RX3 146 RX3 yX3_pointAt wsX3_pointAt) := goodIn_app (goodIn_of _ (by decide +kernel)) ggX3_sample_X3_pointAt
set_option maxRecDepth 20000 in
theorem ggX3_sample_X3_valueAt : GoodIn wsX3_sample wsX3_valueAt := goodIn_r _ [29, 30, 31, 32, 33, 34, 35, 7, 36, 37, 38, 39, 40, 44, 45, 46, 47, 48, 49, 50, 51] (by decide +kernel) (by decide +kernel)
set_option maxRecDepth 20000 in
theorem gX3_sample_X3_valueAt : GoodIn wsX3_sample (wsV RX3 95 RX3 yX3_valueAt wsX3_valueAt) := goodIn_app (goodIn_of _ (by decide +kernel)) ggX3_sample_X3_valueAt
set_option maxRecDepth 20000 in
theorem ggX3_sample_X3_size : GoodIn wsX3_sample wsX3_size := goodIn_r _ [43] (by decide +kernel) (by decide +kernel)
set_option maxRecDepth 20000 in
theorem gX3_sample_X3_size : GoodIn wsX3_sample (va_wsS RX3 59 yX3_size wsX3_size) := goodIn_app (goodIn_of _ (by decide +kernel)) ggX3_sample_X3_size
theorem dX3_sample_0 : decode cX3_sample 0 = .ok (.iload_n 1, 1) := by decide +kernel
theorem dX3_sample_1 : decode cX3_sample 1 = .ok (.invokestatic 75, 3) := by decide +kernel
theorem dX3_sample_4 : decode cX3_sample 4 = .ok (.ifCond .eq 10, 3) := by decide +kernel
theorem dX3_sample_7 : decode cX3_sample 7 = .ok (.iload_n 2, 1) := by decide +kernel
theorem dX3_sample_8 : decode cX3_sample 8 = .ok (.invokestatic 140, 3) := by decide +kernel
theorem dX3_sample_11 : decode cX3_sample 11 = .ok (.ifCond .ne 7, 3) := by decide +kernel
theorem dX3_sample_14 : decode cX3_sample 14 = .ok (.ldc2_w 83, 3) := by decide +kernel
theorem dX3_sample_17 : decode cX3_sample 17 = .ok (.lreturn, 1) := by decide +kernel
theorem dX3_sample_18 : decode cX3_sample 18 = .ok (.iconst 1, 1) := by decide +kernel
theorem dX3_sample_19 : decode cX3_sample 19 = .ok (.iload_n 2, 1) := by decide +kernel
theorem dX3_sample_20 : decode cX3_sample 20 = .ok (.ishl, 1) := by decide +kernel
theorem dX3_sample_21 : decode cX3_sample 21 = .ok (.istore_n 3, 1) := by decide +kernel
theorem dX3_sample_22 : decode cX3_sample 22 = .ok (.iconst 0, 1) := by decide +kernel
theorem dX3_sample_23 : decode cX3_sample 23 = .ok (.istore 4, 2) := by decide +kernel
theorem dX3_sample_25 : decode cX3_sample 25 = .ok (.iload 4, 2) := by decide +kernel
theorem dX3_sample_27 : decode cX3_sample 27 = .ok (.iload_n 3, 1) := by decide +kernel
theorem dX3_sample_28 : decode cX3_sample 28 = .ok (.if_icmp .gt 35, 3) := by decide +kernel
theorem dX3_sample_31 : decode cX3_sample 31 = .ok (.aload_n 0, 1) := by decide +kernel
theorem dX3_sample_32 : decode cX3_sample 32 = .ok (.iload_n 1, 1) := by decide +kernel
theorem dX3_sample_33 : decode cX3_sample 33 = .ok (.aload_n 0, 1) := by decide +kernel
theorem dX3_sample_34 : decode cX3_sample 34 = .ok (.iload_n 2, 1) := by decide +kernel
theorem dX3_sample_35 : decode cX3_sample 35 = .ok (.iload 4, 2) := by decide +kernel
theorem dX3_sample_37 : decode cX3_sample 37 = .ok (.invokevirtual 146, 3) := by decide +kernel
theorem dX3_sample_40 : decode cX3_sample 40 = .ok (.invokevirtual 95, 3) := by decide +kernel
theorem dX3_sample_43 : decode cX3_sample 43 = .ok (.invokestatic 59, 3) := by decide +kernel
theorem dX3_sample_46 : decode cX3_sample 46 = .ok (.ldc2_w 138, 3) := by decide +kernel
theorem dX3_sample_49 : decode cX3_sample 49 = .ok (.lcmp, 1) := by decide +kernel
theorem dX3_sample_50 : decode cX3_sample 50 = .ok (.ifCond .le 7, 3) := by decide +kernel
theorem dX3_sample_53 : decode cX3_sample 53 = .ok (.ldc2_w 65, 3) := by decide +kernel
theorem dX3_sample_56 : decode cX3_sample 56 = .ok (.lreturn, 1) := by decide +kernel
theorem dX3_sample_57 : decode cX3_sample 57 = .ok (.iinc 4 1, 3) := by decide +kernel
theorem dX3_sample_60 : decode cX3_sample 60 = .ok (.goto (-35), 3) := by decide +kernel
theorem dX3_sample_63 : decode cX3_sample 63 = .ok (.iconst 0, 1) := by decide +kernel
theorem dX3_sample_64 : decode cX3_sample 64 = .ok (.istore 4, 2) := by decide +kernel
theorem dX3_sample_66 : decode cX3_sample 66 = .ok (.iload 4, 2) := by decide +kernel
theorem dX3_sample_68 : decode cX3_sample 68 = .ok (.iload_n 3, 1) := by decide +kernel
theorem dX3_sample_69 : decode cX3_sample 69 = .ok (.if_icmp .gt 29, 3) := by decide +kernel
theorem dX3_sample_72 : decode cX3_sample 72 = .ok (.aload_n 0, 1) := by decide +kernel
theorem dX3_sample_73 : decode cX3_sample 73 = .ok (.getfield 17, 3) := by decide +kernel
theorem dX3_sample_76 : decode cX3_sample 76 = .ok (.iload 4, 2) := by decide +kernel
theorem dX3_sample_78 : decode cX3_sample 78 = .ok (.aload_n 0, 1) := by decide +kernel
theorem dX3_sample_79 : decode cX3_sample 79 = .ok (.iload_n 1, 1) := by decide +kernel
theorem dX3_sample_80 : decode cX3_sample 80 = .ok (.aload_n 0, 1) := by decide +kernel
theorem dX3_sample_81 : decode cX3_sample 81 = .ok (.iload_n 2, 1) := by decide +kernel
theorem dX3_sample_82 : decode cX3_sample 82 = .ok (.iload 4, 2) := by decide +kernel
theorem dX3_sample_84 : decode cX3_sample 84 = .ok (.invokevirtual 146, 3) := by decide +kernel
theorem dX3_sample_87 : decode cX3_sample 87 = .ok (.invokevirtual 95, 3) := by decide +kernel
theorem dX3_sample_90 : decode cX3_sample 90 = .ok (.l2i, 1) := by decide +kernel
theorem dX3_sample_91 : decode cX3_sample 91 = .ok (.iastore, 1) := by decide +kernel
theorem dX3_sample_92 : decode cX3_sample 92 = .ok (.iinc 4 1, 3) := by decide +kernel
theorem dX3_sample_95 : decode cX3_sample 95 = .ok (.goto (-29), 3) := by decide +kernel
theorem dX3_sample_98 : decode cX3_sample 98 = .ok (.iload_n 3, 1) := by decide +kernel
theorem dX3_sample_99 : decode cX3_sample 99 = .ok (.iconst 1, 1) := by decide +kernel
theorem dX3_sample_100 : decode cX3_sample 100 = .ok (.iadd, 1) := by decide +kernel
theorem dX3_sample_101 : decode cX3_sample 101 = .ok (.i2l, 1) := by decide +kernel
theorem dX3_sample_102 : decode cX3_sample 102 = .ok (.lreturn, 1) := by decide +kernel
set_option maxRecDepth 20000 in
theorem ggX3_misfit_X3_isSeries : GoodIn wsX3_misfit wsX3_isSeries := goodIn_r _ [6, 7, 8, 9, 5, 10] (by decide +kernel) (by decide +kernel)
set_option maxRecDepth 20000 in
theorem gX3_misfit_X3_isSeries : GoodIn wsX3_misfit (va_wsS RX3 75 yX3_isSeries wsX3_isSeries) := goodIn_app (goodIn_of _ (by decide +kernel)) ggX3_misfit_X3_isSeries
set_option maxRecDepth 20000 in
theorem ggX3_misfit_X3_isPower : GoodIn wsX3_misfit wsX3_isPower := goodIn_r _ [13, 14, 8, 9, 5, 10] (by decide +kernel) (by decide +kernel)
set_option maxRecDepth 20000 in
theorem gX3_misfit_X3_isPower : GoodIn wsX3_misfit (va_wsS RX3 140 yX3_isPower wsX3_isPower) := goodIn_app (goodIn_of _ (by decide +kernel)) ggX3_misfit_X3_isPower
set_option maxRecDepth 20000 in
theorem ggX3_misfit_X3_pointAt : GoodIn wsX3_misfit wsX3_pointAt := goodIn_r _ [18, 19, 20, 21, 5, 22, 23, 42, 43, 44, 45, 46, 47, 48, 49] (by decide +kernel) (by decide +kernel)
set_option maxRecDepth 20000 in
theorem gX3_misfit_X3_pointAt : GoodIn wsX3_misfit (wsV RX3 146 RX3 yX3_pointAt wsX3_pointAt) := goodIn_app (goodIn_of _ (by decide +kernel)) ggX3_misfit_X3_pointAt
set_option maxRecDepth 20000 in
theorem ggX3_misfit_X3_valueAt : GoodIn wsX3_misfit wsX3_valueAt := goodIn_r _ [27, 28, 29, 30, 31, 32, 33, 5, 34, 35, 36, 37, 38, 42, 43, 44, 45, 46, 47, 48, 49] (by decide +kernel) (by decide +kernel)
set_option maxRecDepth 20000 in
theorem gX3_misfit_X3_valueAt : GoodIn wsX3_misfit (wsV RX3 95 RX3 yX3_valueAt wsX3_valueAt) := goodIn_app (goodIn_of _ (by decide +kernel)) ggX3_misfit_X3_valueAt
set_option maxRecDepth 20000 in
theorem ggX3_misfit_X3_size : GoodIn wsX3_misfit wsX3_size := goodIn_r _ [41] (by decide +kernel) (by decide +kernel)
set_option maxRecDepth 20000 in
theorem gX3_misfit_X3_size : GoodIn wsX3_misfit (va_wsS RX3 59 yX3_size wsX3_size) := goodIn_app (goodIn_of _ (by decide +kernel)) ggX3_misfit_X3_size
theorem dX3_misfit_0 : decode cX3_misfit 0 = .ok (.iload_n 1, 1) := by decide +kernel
theorem dX3_misfit_1 : decode cX3_misfit 1 = .ok (.invokestatic 75, 3) := by decide +kernel
theorem dX3_misfit_4 : decode cX3_misfit 4 = .ok (.ifCond .eq 10, 3) := by decide +kernel
theorem dX3_misfit_7 : decode cX3_misfit 7 = .ok (.iload_n 2, 1) := by decide +kernel
theorem dX3_misfit_8 : decode cX3_misfit 8 = .ok (.invokestatic 140, 3) := by decide +kernel
theorem dX3_misfit_11 : decode cX3_misfit 11 = .ok (.ifCond .ne 7, 3) := by decide +kernel
theorem dX3_misfit_14 : decode cX3_misfit 14 = .ok (.ldc2_w 83, 3) := by decide +kernel
theorem dX3_misfit_17 : decode cX3_misfit 17 = .ok (.lreturn, 1) := by decide +kernel
theorem dX3_misfit_18 : decode cX3_misfit 18 = .ok (.lconst 0, 1) := by decide +kernel
theorem dX3_misfit_19 : decode cX3_misfit 19 = .ok (.lstore_n 3, 1) := by decide +kernel
theorem dX3_misfit_20 : decode cX3_misfit 20 = .ok (.iconst 0, 1) := by decide +kernel
theorem dX3_misfit_21 : decode cX3_misfit 21 = .ok (.istore 5, 2) := by decide +kernel
theorem dX3_misfit_23 : decode cX3_misfit 23 = .ok (.iload 5, 2) := by decide +kernel
theorem dX3_misfit_25 : decode cX3_misfit 25 = .ok (.iconst 1, 1) := by decide +kernel
theorem dX3_misfit_26 : decode cX3_misfit 26 = .ok (.iload_n 2, 1) := by decide +kernel
theorem dX3_misfit_27 : decode cX3_misfit 27 = .ok (.ishl, 1) := by decide +kernel
theorem dX3_misfit_28 : decode cX3_misfit 28 = .ok (.if_icmp .gt 49, 3) := by decide +kernel
theorem dX3_misfit_31 : decode cX3_misfit 31 = .ok (.aload_n 0, 1) := by decide +kernel
theorem dX3_misfit_32 : decode cX3_misfit 32 = .ok (.iload_n 1, 1) := by decide +kernel
theorem dX3_misfit_33 : decode cX3_misfit 33 = .ok (.aload_n 0, 1) := by decide +kernel
theorem dX3_misfit_34 : decode cX3_misfit 34 = .ok (.iload_n 2, 1) := by decide +kernel
theorem dX3_misfit_35 : decode cX3_misfit 35 = .ok (.iload 5, 2) := by decide +kernel
theorem dX3_misfit_37 : decode cX3_misfit 37 = .ok (.invokevirtual 146, 3) := by decide +kernel
theorem dX3_misfit_40 : decode cX3_misfit 40 = .ok (.invokevirtual 95, 3) := by decide +kernel
theorem dX3_misfit_43 : decode cX3_misfit 43 = .ok (.aload_n 0, 1) := by decide +kernel
theorem dX3_misfit_44 : decode cX3_misfit 44 = .ok (.getfield 17, 3) := by decide +kernel
theorem dX3_misfit_47 : decode cX3_misfit 47 = .ok (.iload 5, 2) := by decide +kernel
theorem dX3_misfit_49 : decode cX3_misfit 49 = .ok (.iaload, 1) := by decide +kernel
theorem dX3_misfit_50 : decode cX3_misfit 50 = .ok (.i2l, 1) := by decide +kernel
theorem dX3_misfit_51 : decode cX3_misfit 51 = .ok (.lsub, 1) := by decide +kernel
theorem dX3_misfit_52 : decode cX3_misfit 52 = .ok (.invokestatic 59, 3) := by decide +kernel
theorem dX3_misfit_55 : decode cX3_misfit 55 = .ok (.lstore 6, 2) := by decide +kernel
theorem dX3_misfit_57 : decode cX3_misfit 57 = .ok (.lload 6, 2) := by decide +kernel
theorem dX3_misfit_59 : decode cX3_misfit 59 = .ok (.lload_n 3, 1) := by decide +kernel
theorem dX3_misfit_60 : decode cX3_misfit 60 = .ok (.lcmp, 1) := by decide +kernel
theorem dX3_misfit_61 : decode cX3_misfit 61 = .ok (.ifCond .le 8, 3) := by decide +kernel
theorem dX3_misfit_64 : decode cX3_misfit 64 = .ok (.lload 6, 2) := by decide +kernel
theorem dX3_misfit_66 : decode cX3_misfit 66 = .ok (.goto 4, 3) := by decide +kernel
theorem dX3_misfit_69 : decode cX3_misfit 69 = .ok (.lload_n 3, 1) := by decide +kernel
theorem dX3_misfit_70 : decode cX3_misfit 70 = .ok (.lstore_n 3, 1) := by decide +kernel
theorem dX3_misfit_71 : decode cX3_misfit 71 = .ok (.iinc 5 1, 3) := by decide +kernel
theorem dX3_misfit_74 : decode cX3_misfit 74 = .ok (.goto (-51), 3) := by decide +kernel
theorem dX3_misfit_77 : decode cX3_misfit 77 = .ok (.lload_n 3, 1) := by decide +kernel
theorem dX3_misfit_78 : decode cX3_misfit 78 = .ok (.lreturn, 1) := by decide +kernel
set_option maxRecDepth 20000 in
theorem ggX3_extremePoint_X3_isPower : GoodIn wsX3_extremePoint wsX3_isPower := goodIn_r _ [5, 6, 7, 8, 4, 9] (by decide +kernel) (by decide +kernel)
set_option maxRecDepth 20000 in
theorem gX3_extremePoint_X3_isPower : GoodIn wsX3_extremePoint (va_wsS RX3 140 yX3_isPower wsX3_isPower) := goodIn_app (goodIn_of _ (by decide +kernel)) ggX3_extremePoint_X3_isPower
set_option maxRecDepth 20000 in
theorem ggX3_extremePoint_X3_in : GoodIn wsX3_extremePoint wsX3_in := goodIn_r _ [9] (by decide +kernel) (by decide +kernel)
set_option maxRecDepth 20000 in
theorem gX3_extremePoint_X3_in : GoodIn wsX3_extremePoint (va_wsS RX3 39 yX3_in wsX3_in) := goodIn_app (goodIn_of _ (by decide +kernel)) ggX3_extremePoint_X3_in
set_option maxRecDepth 20000 in
theorem ggX3_extremePoint_X3_pointAt : GoodIn wsX3_extremePoint wsX3_pointAt := goodIn_r _ [13, 14, 15, 16, 4, 17, 18, 19, 20, 21, 22, 23, 24, 25, 26] (by decide +kernel) (by decide +kernel)
set_option maxRecDepth 20000 in
theorem gX3_extremePoint_X3_pointAt : GoodIn wsX3_extremePoint (wsV RX3 146 RX3 yX3_pointAt wsX3_pointAt) := goodIn_app (goodIn_of _ (by decide +kernel)) ggX3_extremePoint_X3_pointAt
theorem dX3_extremePoint_0 : decode cX3_extremePoint 0 = .ok (.iload_n 1, 1) := by decide +kernel
theorem dX3_extremePoint_1 : decode cX3_extremePoint 1 = .ok (.invokestatic 140, 3) := by decide +kernel
theorem dX3_extremePoint_4 : decode cX3_extremePoint 4 = .ok (.ifCond .eq 25, 3) := by decide +kernel
theorem dX3_extremePoint_7 : decode cX3_extremePoint 7 = .ok (.iload_n 2, 1) := by decide +kernel
theorem dX3_extremePoint_8 : decode cX3_extremePoint 8 = .ok (.i2l, 1) := by decide +kernel
theorem dX3_extremePoint_9 : decode cX3_extremePoint 9 = .ok (.lconst 0, 1) := by decide +kernel
theorem dX3_extremePoint_10 : decode cX3_extremePoint 10 = .ok (.iconst 1, 1) := by decide +kernel
theorem dX3_extremePoint_11 : decode cX3_extremePoint 11 = .ok (.iload_n 1, 1) := by decide +kernel
theorem dX3_extremePoint_12 : decode cX3_extremePoint 12 = .ok (.ishl, 1) := by decide +kernel
theorem dX3_extremePoint_13 : decode cX3_extremePoint 13 = .ok (.i2l, 1) := by decide +kernel
theorem dX3_extremePoint_14 : decode cX3_extremePoint 14 = .ok (.invokestatic 39, 3) := by decide +kernel
theorem dX3_extremePoint_17 : decode cX3_extremePoint 17 = .ok (.ifCond .eq 12, 3) := by decide +kernel
theorem dX3_extremePoint_20 : decode cX3_extremePoint 20 = .ok (.aload_n 0, 1) := by decide +kernel
theorem dX3_extremePoint_21 : decode cX3_extremePoint 21 = .ok (.iload_n 1, 1) := by decide +kernel
theorem dX3_extremePoint_22 : decode cX3_extremePoint 22 = .ok (.iload_n 2, 1) := by decide +kernel
theorem dX3_extremePoint_23 : decode cX3_extremePoint 23 = .ok (.invokevirtual 146, 3) := by decide +kernel
theorem dX3_extremePoint_26 : decode cX3_extremePoint 26 = .ok (.goto 6, 3) := by decide +kernel
theorem dX3_extremePoint_29 : decode cX3_extremePoint 29 = .ok (.ldc2_w 83, 3) := by decide +kernel
theorem dX3_extremePoint_32 : decode cX3_extremePoint 32 = .ok (.lreturn, 1) := by decide +kernel
theorem dX3_middle_0 : decode cX3_middle 0 = .ok (.iload_n 0, 1) := by decide +kernel
theorem dX3_middle_1 : decode cX3_middle 1 = .ok (.iload_n 1, 1) := by decide +kernel
theorem dX3_middle_2 : decode cX3_middle 2 = .ok (.iadd, 1) := by decide +kernel
theorem dX3_middle_3 : decode cX3_middle 3 = .ok (.iconst 1, 1) := by decide +kernel
theorem dX3_middle_4 : decode cX3_middle 4 = .ok (.ishr, 1) := by decide +kernel
theorem dX3_middle_5 : decode cX3_middle 5 = .ok (.ireturn, 1) := by decide +kernel
set_option maxRecDepth 20000 in
theorem ggX3_isFree_X3_middle : GoodIn wsX3_isFree wsX3_middle := goodIn_r _ [7] (by decide +kernel) (by decide +kernel)
set_option maxRecDepth 20000 in
theorem gX3_isFree_X3_middle : GoodIn wsX3_isFree (va_wsS RX3 149 yX3_middle wsX3_middle) := goodIn_app (goodIn_of _ (by decide +kernel)) ggX3_isFree_X3_middle
set_option maxRecDepth 20000 in
theorem ggX3_isFree_X3_of : GoodIn wsX3_isFree wsX3_of := goodIn_r _ [11, 12, 24, 25, 26, 27, 28, 29, 30, 31] (by decide +kernel) (by decide +kernel)
set_option maxRecDepth 20000 in
theorem gX3_isFree_X3_of : GoodIn wsX3_isFree (wsV RX3 53 RX3 yX3_of wsX3_of) := goodIn_app (goodIn_of _ (by decide +kernel)) ggX3_isFree_X3_of
set_option maxRecDepth 20000 in
theorem ggX3_isFree_X3_size : GoodIn wsX3_isFree wsX3_size := goodIn_r _ [15] (by decide +kernel) (by decide +kernel)
set_option maxRecDepth 20000 in
theorem gX3_isFree_X3_size : GoodIn wsX3_isFree (va_wsS RX3 59 yX3_size wsX3_size) := goodIn_app (goodIn_of _ (by decide +kernel)) ggX3_isFree_X3_size
set_option maxRecDepth 20000 in
theorem ggX3_isFree_X3_valueAt : GoodIn wsX3_isFree wsX3_valueAt := goodIn_r _ [19, 1, 20, 2, 8, 9, 10, 6, 11, 12, 21, 22, 23, 24, 25, 26, 27, 28, 29, 30, 31] (by decide +kernel) (by decide +kernel)
set_option maxRecDepth 20000 in
theorem gX3_isFree_X3_valueAt : GoodIn wsX3_isFree (wsV RX3 95 RX3 yX3_valueAt wsX3_valueAt) := goodIn_app (goodIn_of _ (by decide +kernel)) ggX3_isFree_X3_valueAt
set_option maxRecDepth 20000 in
theorem ggX3_isFree_X3_rounded : GoodIn wsX3_isFree wsX3_rounded := goodIn_r _ [23, 20] (by decide +kernel) (by decide +kernel)
end
section
set_option maxRecDepth 20000 in
theorem gX3_isFree_X3_rounded : GoodIn wsX3_isFree (va_wsS RX3 88 yX3_rounded wsX3_rounded) := goodIn_app (goodIn_of _ (by decide +kernel)) ggX3_isFree_X3_rounded
theorem dX3_isFree_0 : decode cX3_isFree 0 = .ok (.iload_n 2, 1) := by decide +kernel
theorem dX3_isFree_1 : decode cX3_isFree 1 = .ok (.iload_n 3, 1) := by decide +kernel
theorem dX3_isFree_2 : decode cX3_isFree 2 = .ok (.invokestatic 149, 3) := by decide +kernel
theorem dX3_isFree_5 : decode cX3_isFree 5 = .ok (.istore 4, 2) := by decide +kernel
theorem dX3_isFree_7 : decode cX3_isFree 7 = .ok (.iload_n 3, 1) := by decide +kernel
theorem dX3_isFree_8 : decode cX3_isFree 8 = .ok (.iload 4, 2) := by decide +kernel
theorem dX3_isFree_10 : decode cX3_isFree 10 = .ok (.isub, 1) := by decide +kernel
theorem dX3_isFree_11 : decode cX3_isFree 11 = .ok (.iload 4, 2) := by decide +kernel
theorem dX3_isFree_13 : decode cX3_isFree 13 = .ok (.iload_n 2, 1) := by decide +kernel
theorem dX3_isFree_14 : decode cX3_isFree 14 = .ok (.isub, 1) := by decide +kernel
theorem dX3_isFree_15 : decode cX3_isFree 15 = .ok (.if_icmp .le 11, 3) := by decide +kernel
theorem dX3_isFree_18 : decode cX3_isFree 18 = .ok (.iload_n 3, 1) := by decide +kernel
theorem dX3_isFree_19 : decode cX3_isFree 19 = .ok (.iload 4, 2) := by decide +kernel
theorem dX3_isFree_21 : decode cX3_isFree 21 = .ok (.isub, 1) := by decide +kernel
theorem dX3_isFree_22 : decode cX3_isFree 22 = .ok (.i2l, 1) := by decide +kernel
theorem dX3_isFree_23 : decode cX3_isFree 23 = .ok (.goto 8, 3) := by decide +kernel
theorem dX3_isFree_26 : decode cX3_isFree 26 = .ok (.iload 4, 2) := by decide +kernel
theorem dX3_isFree_28 : decode cX3_isFree 28 = .ok (.iload_n 2, 1) := by decide +kernel
theorem dX3_isFree_29 : decode cX3_isFree 29 = .ok (.isub, 1) := by decide +kernel
theorem dX3_isFree_30 : decode cX3_isFree 30 = .ok (.i2l, 1) := by decide +kernel
theorem dX3_isFree_31 : decode cX3_isFree 31 = .ok (.lstore 5, 2) := by decide +kernel
theorem dX3_isFree_33 : decode cX3_isFree 33 = .ok (.lconst 0, 1) := by decide +kernel
theorem dX3_isFree_34 : decode cX3_isFree 34 = .ok (.lstore 7, 2) := by decide +kernel
theorem dX3_isFree_36 : decode cX3_isFree 36 = .ok (.iconst 1, 1) := by decide +kernel
theorem dX3_isFree_37 : decode cX3_isFree 37 = .ok (.istore 9, 2) := by decide +kernel
theorem dX3_isFree_39 : decode cX3_isFree 39 = .ok (.iload 9, 2) := by decide +kernel
theorem dX3_isFree_41 : decode cX3_isFree 41 = .ok (.aload_n 0, 1) := by decide +kernel
theorem dX3_isFree_42 : decode cX3_isFree 42 = .ok (.getfield 13, 3) := by decide +kernel
theorem dX3_isFree_45 : decode cX3_isFree 45 = .ok (.iload_n 1, 1) := by decide +kernel
theorem dX3_isFree_46 : decode cX3_isFree 46 = .ok (.iaload, 1) := by decide +kernel
theorem dX3_isFree_47 : decode cX3_isFree 47 = .ok (.if_icmp .gt 32, 3) := by decide +kernel
theorem dX3_isFree_50 : decode cX3_isFree 50 = .ok (.lload 7, 2) := by decide +kernel
theorem dX3_isFree_52 : decode cX3_isFree 52 = .ok (.iload 9, 2) := by decide +kernel
theorem dX3_isFree_54 : decode cX3_isFree 54 = .ok (.i2l, 1) := by decide +kernel
theorem dX3_isFree_55 : decode cX3_isFree 55 = .ok (.iload 9, 2) := by decide +kernel
theorem dX3_isFree_57 : decode cX3_isFree 57 = .ok (.i2l, 1) := by decide +kernel
theorem dX3_isFree_58 : decode cX3_isFree 58 = .ok (.lmul, 1) := by decide +kernel
theorem dX3_isFree_59 : decode cX3_isFree 59 = .ok (.aload_n 0, 1) := by decide +kernel
theorem dX3_isFree_60 : decode cX3_isFree 60 = .ok (.iload_n 1, 1) := by decide +kernel
theorem dX3_isFree_61 : decode cX3_isFree 61 = .ok (.iload 9, 2) := by decide +kernel
theorem dX3_isFree_63 : decode cX3_isFree 63 = .ok (.invokevirtual 53, 3) := by decide +kernel
theorem dX3_isFree_66 : decode cX3_isFree 66 = .ok (.invokestatic 59, 3) := by decide +kernel
theorem dX3_isFree_69 : decode cX3_isFree 69 = .ok (.lmul, 1) := by decide +kernel
theorem dX3_isFree_70 : decode cX3_isFree 70 = .ok (.ladd, 1) := by decide +kernel
theorem dX3_isFree_71 : decode cX3_isFree 71 = .ok (.lstore 7, 2) := by decide +kernel
theorem dX3_isFree_73 : decode cX3_isFree 73 = .ok (.iinc 9 1, 3) := by decide +kernel
theorem dX3_isFree_76 : decode cX3_isFree 76 = .ok (.goto (-37), 3) := by decide +kernel
theorem dX3_isFree_79 : decode cX3_isFree 79 = .ok (.aload_n 0, 1) := by decide +kernel
theorem dX3_isFree_80 : decode cX3_isFree 80 = .ok (.iload_n 1, 1) := by decide +kernel
theorem dX3_isFree_81 : decode cX3_isFree 81 = .ok (.iload 4, 2) := by decide +kernel
theorem dX3_isFree_83 : decode cX3_isFree 83 = .ok (.i2l, 1) := by decide +kernel
theorem dX3_isFree_84 : decode cX3_isFree 84 = .ok (.invokevirtual 95, 3) := by decide +kernel
theorem dX3_isFree_87 : decode cX3_isFree 87 = .ok (.invokestatic 59, 3) := by decide +kernel
theorem dX3_isFree_90 : decode cX3_isFree 90 = .ok (.lload 7, 2) := by decide +kernel
theorem dX3_isFree_92 : decode cX3_isFree 92 = .ok (.lload 5, 2) := by decide +kernel
theorem dX3_isFree_94 : decode cX3_isFree 94 = .ok (.lmul, 1) := by decide +kernel
theorem dX3_isFree_95 : decode cX3_isFree 95 = .ok (.ldc2_w 45, 3) := by decide +kernel
theorem dX3_isFree_98 : decode cX3_isFree 98 = .ok (.invokestatic 88, 3) := by decide +kernel
theorem dX3_isFree_101 : decode cX3_isFree 101 = .ok (.ldc2_w 153, 3) := by decide +kernel
theorem dX3_isFree_104 : decode cX3_isFree 104 = .ok (.aload_n 0, 1) := by decide +kernel
theorem dX3_isFree_105 : decode cX3_isFree 105 = .ok (.getfield 13, 3) := by decide +kernel
theorem dX3_isFree_108 : decode cX3_isFree 108 = .ok (.iload_n 1, 1) := by decide +kernel
theorem dX3_isFree_109 : decode cX3_isFree 109 = .ok (.iaload, 1) := by decide +kernel
theorem dX3_isFree_110 : decode cX3_isFree 110 = .ok (.iconst 1, 1) := by decide +kernel
theorem dX3_isFree_111 : decode cX3_isFree 111 = .ok (.iadd, 1) := by decide +kernel
theorem dX3_isFree_112 : decode cX3_isFree 112 = .ok (.i2l, 1) := by decide +kernel
theorem dX3_isFree_113 : decode cX3_isFree 113 = .ok (.lmul, 1) := by decide +kernel
theorem dX3_isFree_114 : decode cX3_isFree 114 = .ok (.ladd, 1) := by decide +kernel
theorem dX3_isFree_115 : decode cX3_isFree 115 = .ok (.lcmp, 1) := by decide +kernel
theorem dX3_isFree_116 : decode cX3_isFree 116 = .ok (.ifCond .le 7, 3) := by decide +kernel
theorem dX3_isFree_119 : decode cX3_isFree 119 = .ok (.iconst 1, 1) := by decide +kernel
theorem dX3_isFree_120 : decode cX3_isFree 120 = .ok (.goto 4, 3) := by decide +kernel
theorem dX3_isFree_123 : decode cX3_isFree 123 = .ok (.iconst 0, 1) := by decide +kernel
theorem dX3_isFree_124 : decode cX3_isFree 124 = .ok (.ireturn, 1) := by decide +kernel
set_option maxRecDepth 20000 in
theorem ggX3_searches_X3_isFree : GoodIn wsX3_searches wsX3_isFree := goodIn_r _ [11, 12, 13, 14, 15, 16, 10, 17, 18, 19, 20, 21, 22, 23, 24, 25, 26, 27, 28, 29, 30, 31, 32, 33, 34, 35, 36, 37, 38, 39, 40, 41] (by decide +kernel) (by decide +kernel)
set_option maxRecDepth 20000 in
theorem gX3_searches_X3_isFree : GoodIn wsX3_searches (wsV RX3 163 RX3 yX3_isFree wsX3_isFree) := goodIn_app (goodIn_of _ (by decide +kernel)) ggX3_searches_X3_isFree
set_option maxRecDepth 20000 in
theorem ggX3_searches_X3_middle : GoodIn wsX3_searches wsX3_middle := goodIn_r _ [17] (by decide +kernel) (by decide +kernel)
set_option maxRecDepth 20000 in
theorem gX3_searches_X3_middle : GoodIn wsX3_searches (va_wsS RX3 149 yX3_middle wsX3_middle) := goodIn_app (goodIn_of _ (by decide +kernel)) ggX3_searches_X3_middle
theorem dX3_searches_0 : decode cX3_searches 0 = .ok (.aload_n 0, 1) := by decide +kernel
theorem dX3_searches_1 : decode cX3_searches 1 = .ok (.iconst 0, 1) := by decide +kernel
theorem dX3_searches_2 : decode cX3_searches 2 = .ok (.putfield 155, 3) := by decide +kernel
theorem dX3_searches_5 : decode cX3_searches 5 = .ok (.aload_n 0, 1) := by decide +kernel
theorem dX3_searches_6 : decode cX3_searches 6 = .ok (.iconst 0, 1) := by decide +kernel
theorem dX3_searches_7 : decode cX3_searches 7 = .ok (.putfield 159, 3) := by decide +kernel
theorem dX3_searches_10 : decode cX3_searches 10 = .ok (.iconst 1, 1) := by decide +kernel
theorem dX3_searches_11 : decode cX3_searches 11 = .ok (.istore_n 2, 1) := by decide +kernel
theorem dX3_searches_12 : decode cX3_searches 12 = .ok (.aload_n 0, 1) := by decide +kernel
theorem dX3_searches_13 : decode cX3_searches 13 = .ok (.getfield 34, 3) := by decide +kernel
theorem dX3_searches_16 : decode cX3_searches 16 = .ok (.iconst 0, 1) := by decide +kernel
theorem dX3_searches_17 : decode cX3_searches 17 = .ok (.ldc 162, 2) := by decide +kernel
theorem dX3_searches_19 : decode cX3_searches 19 = .ok (.iastore, 1) := by decide +kernel
theorem dX3_searches_20 : decode cX3_searches 20 = .ok (.aload_n 0, 1) := by decide +kernel
theorem dX3_searches_21 : decode cX3_searches 21 = .ok (.getfield 34, 3) := by decide +kernel
theorem dX3_searches_24 : decode cX3_searches 24 = .ok (.iconst 1, 1) := by decide +kernel
theorem dX3_searches_25 : decode cX3_searches 25 = .ok (.ldc 20, 2) := by decide +kernel
theorem dX3_searches_27 : decode cX3_searches 27 = .ok (.iastore, 1) := by decide +kernel
theorem dX3_searches_28 : decode cX3_searches 28 = .ok (.iload_n 2, 1) := by decide +kernel
theorem dX3_searches_29 : decode cX3_searches 29 = .ok (.ifCond .le 187, 3) := by decide +kernel
theorem dX3_searches_32 : decode cX3_searches 32 = .ok (.aload_n 0, 1) := by decide +kernel
theorem dX3_searches_33 : decode cX3_searches 33 = .ok (.getfield 155, 3) := by decide +kernel
theorem dX3_searches_36 : decode cX3_searches 36 = .ok (.bipush 24, 2) := by decide +kernel
theorem dX3_searches_38 : decode cX3_searches 38 = .ok (.if_icmp .ge 178, 3) := by decide +kernel
theorem dX3_searches_41 : decode cX3_searches 41 = .ok (.aload_n 0, 1) := by decide +kernel
theorem dX3_searches_42 : decode cX3_searches 42 = .ok (.getfield 159, 3) := by decide +kernel
theorem dX3_searches_45 : decode cX3_searches 45 = .ok (.sipush 2000, 3) := by decide +kernel
theorem dX3_searches_48 : decode cX3_searches 48 = .ok (.if_icmp .ge 168, 3) := by decide +kernel
theorem dX3_searches_51 : decode cX3_searches 51 = .ok (.iinc 2 (-1), 3) := by decide +kernel
theorem dX3_searches_54 : decode cX3_searches 54 = .ok (.aload_n 0, 1) := by decide +kernel
theorem dX3_searches_55 : decode cX3_searches 55 = .ok (.getfield 34, 3) := by decide +kernel
theorem dX3_searches_58 : decode cX3_searches 58 = .ok (.iconst 2, 1) := by decide +kernel
theorem dX3_searches_59 : decode cX3_searches 59 = .ok (.iload_n 2, 1) := by decide +kernel
theorem dX3_searches_60 : decode cX3_searches 60 = .ok (.imul, 1) := by decide +kernel
theorem dX3_searches_61 : decode cX3_searches 61 = .ok (.iaload, 1) := by decide +kernel
theorem dX3_searches_62 : decode cX3_searches 62 = .ok (.istore_n 3, 1) := by decide +kernel
theorem dX3_searches_63 : decode cX3_searches 63 = .ok (.aload_n 0, 1) := by decide +kernel
theorem dX3_searches_64 : decode cX3_searches 64 = .ok (.getfield 34, 3) := by decide +kernel
theorem dX3_searches_67 : decode cX3_searches 67 = .ok (.iconst 2, 1) := by decide +kernel
theorem dX3_searches_68 : decode cX3_searches 68 = .ok (.iload_n 2, 1) := by decide +kernel
theorem dX3_searches_69 : decode cX3_searches 69 = .ok (.imul, 1) := by decide +kernel
theorem dX3_searches_70 : decode cX3_searches 70 = .ok (.iconst 1, 1) := by decide +kernel
theorem dX3_searches_71 : decode cX3_searches 71 = .ok (.iadd, 1) := by decide +kernel
theorem dX3_searches_72 : decode cX3_searches 72 = .ok (.iaload, 1) := by decide +kernel
theorem dX3_searches_73 : decode cX3_searches 73 = .ok (.istore 4, 2) := by decide +kernel
theorem dX3_searches_75 : decode cX3_searches 75 = .ok (.aload_n 0, 1) := by decide +kernel
theorem dX3_searches_76 : decode cX3_searches 76 = .ok (.dup, 1) := by decide +kernel
theorem dX3_searches_77 : decode cX3_searches 77 = .ok (.getfield 159, 3) := by decide +kernel
theorem dX3_searches_80 : decode cX3_searches 80 = .ok (.iconst 1, 1) := by decide +kernel
theorem dX3_searches_81 : decode cX3_searches 81 = .ok (.iadd, 1) := by decide +kernel
theorem dX3_searches_82 : decode cX3_searches 82 = .ok (.putfield 159, 3) := by decide +kernel
theorem dX3_searches_85 : decode cX3_searches 85 = .ok (.aload_n 0, 1) := by decide +kernel
theorem dX3_searches_86 : decode cX3_searches 86 = .ok (.iload_n 1, 1) := by decide +kernel
theorem dX3_searches_87 : decode cX3_searches 87 = .ok (.iload_n 3, 1) := by decide +kernel
theorem dX3_searches_88 : decode cX3_searches 88 = .ok (.iload 4, 2) := by decide +kernel
theorem dX3_searches_90 : decode cX3_searches 90 = .ok (.invokevirtual 163, 3) := by decide +kernel
theorem dX3_searches_93 : decode cX3_searches 93 = .ok (.ifCond .eq 6, 3) := by decide +kernel
theorem dX3_searches_96 : decode cX3_searches 96 = .ok (.goto (-68), 3) := by decide +kernel
theorem dX3_searches_99 : decode cX3_searches 99 = .ok (.iload_n 3, 1) := by decide +kernel
theorem dX3_searches_100 : decode cX3_searches 100 = .ok (.iload 4, 2) := by decide +kernel
theorem dX3_searches_102 : decode cX3_searches 102 = .ok (.invokestatic 149, 3) := by decide +kernel
theorem dX3_searches_105 : decode cX3_searches 105 = .ok (.istore 5, 2) := by decide +kernel
theorem dX3_searches_107 : decode cX3_searches 107 = .ok (.iload 4, 2) := by decide +kernel
theorem dX3_searches_109 : decode cX3_searches 109 = .ok (.iload_n 3, 1) := by decide +kernel
theorem dX3_searches_110 : decode cX3_searches 110 = .ok (.isub, 1) := by decide +kernel
theorem dX3_searches_111 : decode cX3_searches 111 = .ok (.bipush 16, 2) := by decide +kernel
theorem dX3_searches_113 : decode cX3_searches 113 = .ok (.if_icmp .le 54, 3) := by decide +kernel
theorem dX3_searches_116 : decode cX3_searches 116 = .ok (.aload_n 0, 1) := by decide +kernel
theorem dX3_searches_117 : decode cX3_searches 117 = .ok (.getfield 34, 3) := by decide +kernel
theorem dX3_searches_120 : decode cX3_searches 120 = .ok (.iconst 2, 1) := by decide +kernel
theorem dX3_searches_121 : decode cX3_searches 121 = .ok (.iload_n 2, 1) := by decide +kernel
theorem dX3_searches_122 : decode cX3_searches 122 = .ok (.imul, 1) := by decide +kernel
theorem dX3_searches_123 : decode cX3_searches 123 = .ok (.iload 5, 2) := by decide +kernel
theorem dX3_searches_125 : decode cX3_searches 125 = .ok (.iastore, 1) := by decide +kernel
theorem dX3_searches_126 : decode cX3_searches 126 = .ok (.aload_n 0, 1) := by decide +kernel
theorem dX3_searches_127 : decode cX3_searches 127 = .ok (.getfield 34, 3) := by decide +kernel
theorem dX3_searches_130 : decode cX3_searches 130 = .ok (.iconst 2, 1) := by decide +kernel
theorem dX3_searches_131 : decode cX3_searches 131 = .ok (.iload_n 2, 1) := by decide +kernel
theorem dX3_searches_132 : decode cX3_searches 132 = .ok (.imul, 1) := by decide +kernel
theorem dX3_searches_133 : decode cX3_searches 133 = .ok (.iconst 1, 1) := by decide +kernel
theorem dX3_searches_134 : decode cX3_searches 134 = .ok (.iadd, 1) := by decide +kernel
theorem dX3_searches_135 : decode cX3_searches 135 = .ok (.iload 4, 2) := by decide +kernel
theorem dX3_searches_137 : decode cX3_searches 137 = .ok (.iastore, 1) := by decide +kernel
theorem dX3_searches_138 : decode cX3_searches 138 = .ok (.aload_n 0, 1) := by decide +kernel
theorem dX3_searches_139 : decode cX3_searches 139 = .ok (.getfield 34, 3) := by decide +kernel
theorem dX3_searches_142 : decode cX3_searches 142 = .ok (.iconst 2, 1) := by decide +kernel
theorem dX3_searches_143 : decode cX3_searches 143 = .ok (.iload_n 2, 1) := by decide +kernel
theorem dX3_searches_144 : decode cX3_searches 144 = .ok (.imul, 1) := by decide +kernel
theorem dX3_searches_145 : decode cX3_searches 145 = .ok (.iconst 2, 1) := by decide +kernel
theorem dX3_searches_146 : decode cX3_searches 146 = .ok (.iadd, 1) := by decide +kernel
theorem dX3_searches_147 : decode cX3_searches 147 = .ok (.iload_n 3, 1) := by decide +kernel
theorem dX3_searches_148 : decode cX3_searches 148 = .ok (.iastore, 1) := by decide +kernel
theorem dX3_searches_149 : decode cX3_searches 149 = .ok (.aload_n 0, 1) := by decide +kernel
theorem dX3_searches_150 : decode cX3_searches 150 = .ok (.getfield 34, 3) := by decide +kernel
theorem dX3_searches_153 : decode cX3_searches 153 = .ok (.iconst 2, 1) := by decide +kernel
theorem dX3_searches_154 : decode cX3_searches 154 = .ok (.iload_n 2, 1) := by decide +kernel
theorem dX3_searches_155 : decode cX3_searches 155 = .ok (.imul, 1) := by decide +kernel
theorem dX3_searches_156 : decode cX3_searches 156 = .ok (.iconst 3, 1) := by decide +kernel
theorem dX3_searches_157 : decode cX3_searches 157 = .ok (.iadd, 1) := by decide +kernel
theorem dX3_searches_158 : decode cX3_searches 158 = .ok (.iload 5, 2) := by decide +kernel
theorem dX3_searches_160 : decode cX3_searches 160 = .ok (.iastore, 1) := by decide +kernel
theorem dX3_searches_161 : decode cX3_searches 161 = .ok (.iinc 2 2, 3) := by decide +kernel
theorem dX3_searches_164 : decode cX3_searches 164 = .ok (.goto 49, 3) := by decide +kernel
theorem dX3_searches_167 : decode cX3_searches 167 = .ok (.aload_n 0, 1) := by decide +kernel
theorem dX3_searches_168 : decode cX3_searches 168 = .ok (.getfield 155, 3) := by decide +kernel
theorem dX3_searches_171 : decode cX3_searches 171 = .ok (.ifCond .eq 21, 3) := by decide +kernel
theorem dX3_searches_174 : decode cX3_searches 174 = .ok (.aload_n 0, 1) := by decide +kernel
theorem dX3_searches_175 : decode cX3_searches 175 = .ok (.getfield 31, 3) := by decide +kernel
theorem dX3_searches_178 : decode cX3_searches 178 = .ok (.aload_n 0, 1) := by decide +kernel
theorem dX3_searches_179 : decode cX3_searches 179 = .ok (.getfield 155, 3) := by decide +kernel
theorem dX3_searches_182 : decode cX3_searches 182 = .ok (.iconst 1, 1) := by decide +kernel
theorem dX3_searches_183 : decode cX3_searches 183 = .ok (.isub, 1) := by decide +kernel
theorem dX3_searches_184 : decode cX3_searches 184 = .ok (.iaload, 1) := by decide +kernel
theorem dX3_searches_185 : decode cX3_searches 185 = .ok (.iload_n 3, 1) := by decide +kernel
theorem dX3_searches_186 : decode cX3_searches 186 = .ok (.bipush 16, 2) := by decide +kernel
theorem dX3_searches_188 : decode cX3_searches 188 = .ok (.isub, 1) := by decide +kernel
theorem dX3_searches_189 : decode cX3_searches 189 = .ok (.if_icmp .ge 24, 3) := by decide +kernel
theorem dX3_searches_192 : decode cX3_searches 192 = .ok (.aload_n 0, 1) := by decide +kernel
theorem dX3_searches_193 : decode cX3_searches 193 = .ok (.getfield 31, 3) := by decide +kernel
theorem dX3_searches_196 : decode cX3_searches 196 = .ok (.aload_n 0, 1) := by decide +kernel
theorem dX3_searches_197 : decode cX3_searches 197 = .ok (.getfield 155, 3) := by decide +kernel
theorem dX3_searches_200 : decode cX3_searches 200 = .ok (.iload 5, 2) := by decide +kernel
theorem dX3_searches_202 : decode cX3_searches 202 = .ok (.iastore, 1) := by decide +kernel
theorem dX3_searches_203 : decode cX3_searches 203 = .ok (.aload_n 0, 1) := by decide +kernel
theorem dX3_searches_204 : decode cX3_searches 204 = .ok (.dup, 1) := by decide +kernel
theorem dX3_searches_205 : decode cX3_searches 205 = .ok (.getfield 155, 3) := by decide +kernel
theorem dX3_searches_208 : decode cX3_searches 208 = .ok (.iconst 1, 1) := by decide +kernel
theorem dX3_searches_209 : decode cX3_searches 209 = .ok (.iadd, 1) := by decide +kernel
theorem dX3_searches_210 : decode cX3_searches 210 = .ok (.putfield 155, 3) := by decide +kernel
theorem dX3_searches_213 : decode cX3_searches 213 = .ok (.goto (-185), 3) := by decide +kernel
theorem dX3_searches_216 : decode cX3_searches 216 = .ok (.return_, 1) := by decide +kernel
set_option maxRecDepth 20000 in
theorem ggX3_root_X3_isSeries : GoodIn wsX3_root wsX3_isSeries := goodIn_r _ [8, 9, 10, 11, 7, 12] (by decide +kernel) (by decide +kernel)
set_option maxRecDepth 20000 in
theorem gX3_root_X3_isSeries : GoodIn wsX3_root (va_wsS RX3 75 yX3_isSeries wsX3_isSeries) := goodIn_app (goodIn_of _ (by decide +kernel)) ggX3_root_X3_isSeries
set_option maxRecDepth 20000 in
theorem ggX3_root_X3_searches : GoodIn wsX3_root wsX3_searches := goodIn_r _ [16, 2, 17, 18, 19, 20, 3, 21, 22, 23, 7, 24, 25, 26, 27, 28, 29, 30, 31, 32, 33, 34, 35, 36, 37, 38, 39, 40, 41, 42, 43, 44, 45, 46, 47, 48, 49, 50, 51, 52, 53, 54] (by decide +kernel) (by decide +kernel)
set_option maxRecDepth 20000 in
theorem gX3_root_X3_searches : GoodIn wsX3_root (wsV RX3 167 RX3 yX3_searches wsX3_searches) := goodIn_app (goodIn_of _ (by decide +kernel)) ggX3_root_X3_searches
theorem dX3_root_0 : decode cX3_root 0 = .ok (.iload_n 1, 1) := by decide +kernel
theorem dX3_root_1 : decode cX3_root 1 = .ok (.invokestatic 75, 3) := by decide +kernel
theorem dX3_root_4 : decode cX3_root 4 = .ok (.ifCond .eq 8, 3) := by decide +kernel
theorem dX3_root_7 : decode cX3_root 7 = .ok (.iload_n 2, 1) := by decide +kernel
theorem dX3_root_8 : decode cX3_root 8 = .ok (.iconst (-1), 1) := by decide +kernel
theorem dX3_root_9 : decode cX3_root 9 = .ok (.if_icmp .ge 7, 3) := by decide +kernel
theorem dX3_root_12 : decode cX3_root 12 = .ok (.ldc2_w 83, 3) := by decide +kernel
theorem dX3_root_15 : decode cX3_root 15 = .ok (.lreturn, 1) := by decide +kernel
theorem dX3_root_16 : decode cX3_root 16 = .ok (.aload_n 0, 1) := by decide +kernel
theorem dX3_root_17 : decode cX3_root 17 = .ok (.iload_n 1, 1) := by decide +kernel
theorem dX3_root_18 : decode cX3_root 18 = .ok (.invokevirtual 167, 3) := by decide +kernel
theorem dX3_root_21 : decode cX3_root 21 = .ok (.iload_n 2, 1) := by decide +kernel
theorem dX3_root_22 : decode cX3_root 22 = .ok (.ifCond .ge 11, 3) := by decide +kernel
theorem dX3_root_25 : decode cX3_root 25 = .ok (.aload_n 0, 1) := by decide +kernel
theorem dX3_root_26 : decode cX3_root 26 = .ok (.getfield 155, 3) := by decide +kernel
theorem dX3_root_29 : decode cX3_root 29 = .ok (.i2l, 1) := by decide +kernel
theorem dX3_root_30 : decode cX3_root 30 = .ok (.goto 24, 3) := by decide +kernel
theorem dX3_root_33 : decode cX3_root 33 = .ok (.iload_n 2, 1) := by decide +kernel
theorem dX3_root_34 : decode cX3_root 34 = .ok (.aload_n 0, 1) := by decide +kernel
theorem dX3_root_35 : decode cX3_root 35 = .ok (.getfield 155, 3) := by decide +kernel
theorem dX3_root_38 : decode cX3_root 38 = .ok (.if_icmp .ge 13, 3) := by decide +kernel
theorem dX3_root_41 : decode cX3_root 41 = .ok (.aload_n 0, 1) := by decide +kernel
theorem dX3_root_42 : decode cX3_root 42 = .ok (.getfield 31, 3) := by decide +kernel
theorem dX3_root_45 : decode cX3_root 45 = .ok (.iload_n 2, 1) := by decide +kernel
theorem dX3_root_46 : decode cX3_root 46 = .ok (.iaload, 1) := by decide +kernel
theorem dX3_root_47 : decode cX3_root 47 = .ok (.i2l, 1) := by decide +kernel
theorem dX3_root_48 : decode cX3_root 48 = .ok (.goto 6, 3) := by decide +kernel
theorem dX3_root_51 : decode cX3_root 51 = .ok (.ldc2_w 130, 3) := by decide +kernel
theorem dX3_root_54 : decode cX3_root 54 = .ok (.lreturn, 1) := by decide +kernel
set_option maxRecDepth 20000 in
theorem ggX3_intervals_X3_isSeries : GoodIn wsX3_intervals wsX3_isSeries := goodIn_r _ [6, 7, 8, 9, 5, 10] (by decide +kernel) (by decide +kernel)
set_option maxRecDepth 20000 in
theorem gX3_intervals_X3_isSeries : GoodIn wsX3_intervals (va_wsS RX3 75 yX3_isSeries wsX3_isSeries) := goodIn_app (goodIn_of _ (by decide +kernel)) ggX3_intervals_X3_isSeries
set_option maxRecDepth 20000 in
theorem ggX3_intervals_X3_searches : GoodIn wsX3_intervals wsX3_searches := goodIn_r _ [14, 15, 2, 16, 17, 18, 19, 20, 21, 22, 5, 23, 24, 25, 26, 27, 28, 29, 30, 31, 32, 33, 34, 35, 36, 37, 38, 39, 40, 41, 42, 43, 44, 45, 46, 47, 48, 49, 50, 51, 52, 53] (by decide +kernel) (by decide +kernel)
set_option maxRecDepth 20000 in
theorem gX3_intervals_X3_searches : GoodIn wsX3_intervals (wsV RX3 167 RX3 yX3_searches wsX3_searches) := goodIn_app (goodIn_of _ (by decide +kernel)) ggX3_intervals_X3_searches
theorem dX3_intervals_0 : decode cX3_intervals 0 = .ok (.iload_n 1, 1) := by decide +kernel
theorem dX3_intervals_1 : decode cX3_intervals 1 = .ok (.invokestatic 75, 3) := by decide +kernel
theorem dX3_intervals_4 : decode cX3_intervals 4 = .ok (.ifCond .ne 7, 3) := by decide +kernel
theorem dX3_intervals_7 : decode cX3_intervals 7 = .ok (.ldc2_w 83, 3) := by decide +kernel
theorem dX3_intervals_10 : decode cX3_intervals 10 = .ok (.lreturn, 1) := by decide +kernel
theorem dX3_intervals_11 : decode cX3_intervals 11 = .ok (.aload_n 0, 1) := by decide +kernel
theorem dX3_intervals_12 : decode cX3_intervals 12 = .ok (.iload_n 1, 1) := by decide +kernel
theorem dX3_intervals_13 : decode cX3_intervals 13 = .ok (.invokevirtual 167, 3) := by decide +kernel
theorem dX3_intervals_16 : decode cX3_intervals 16 = .ok (.aload_n 0, 1) := by decide +kernel
theorem dX3_intervals_17 : decode cX3_intervals 17 = .ok (.getfield 159, 3) := by decide +kernel
theorem dX3_intervals_20 : decode cX3_intervals 20 = .ok (.i2l, 1) := by decide +kernel
theorem dX3_intervals_21 : decode cX3_intervals 21 = .ok (.lreturn, 1) := by decide +kernel
set_option maxRecDepth 20000 in
theorem ggX3_greatest_X3_isSeries : GoodIn wsX3_greatest wsX3_isSeries := goodIn_r _ [10, 11, 12, 13, 9, 14] (by decide +kernel) (by decide +kernel)
set_option maxRecDepth 20000 in
theorem gX3_greatest_X3_isSeries : GoodIn wsX3_greatest (va_wsS RX3 75 yX3_isSeries wsX3_isSeries) := goodIn_app (goodIn_of _ (by decide +kernel)) ggX3_greatest_X3_isSeries
set_option maxRecDepth 20000 in
theorem ggX3_greatest_X3_derives : GoodIn wsX3_greatest wsX3_derives := goodIn_r _ [18, 19, 20, 21, 22, 23, 9, 24, 25, 26, 27, 28, 29, 30, 31, 32, 33, 34, 35, 36, 66, 67, 68, 69, 70, 71, 72, 73] (by decide +kernel) (by decide +kernel)
set_option maxRecDepth 20000 in
theorem gX3_greatest_X3_derives : GoodIn wsX3_greatest (wsV RX3 111 RX3 yX3_derives wsX3_derives) := goodIn_app (goodIn_of _ (by decide +kernel)) ggX3_greatest_X3_derives
set_option maxRecDepth 20000 in
theorem ggX3_greatest_X3_trims : GoodIn wsX3_greatest wsX3_trims := goodIn_r _ [40, 19, 41, 42, 2, 30, 31, 32, 9, 33, 29, 43, 44, 45, 66, 67, 68, 69, 70, 71, 72, 73] (by decide +kernel) (by decide +kernel)
set_option maxRecDepth 20000 in
theorem gX3_greatest_X3_trims : GoodIn wsX3_greatest (wsV RX3 67 RX3 yX3_trims wsX3_trims) := goodIn_app (goodIn_of _ (by decide +kernel)) ggX3_greatest_X3_trims
set_option maxRecDepth 20000 in
theorem ggX3_greatest_X3_searches : GoodIn wsX3_greatest wsX3_searches := goodIn_r _ [49, 5, 50, 51, 52, 53, 6, 54, 55, 56, 9, 57, 19, 4, 58, 59, 60, 61, 30, 31, 32, 33, 29, 43, 44, 45, 62, 63, 64, 65, 20, 34, 35, 36, 66, 67, 68, 69, 70, 71, 72, 73] (by decide +kernel) (by decide +kernel)
set_option maxRecDepth 20000 in
theorem gX3_greatest_X3_searches : GoodIn wsX3_greatest (wsV RX3 167 RX3 yX3_searches wsX3_searches) := goodIn_app (goodIn_of _ (by decide +kernel)) ggX3_greatest_X3_searches
set_option maxRecDepth 20000 in
theorem ggX3_greatest_X3_valueAt : GoodIn wsX3_greatest wsX3_valueAt := goodIn_r _ [65, 19, 20, 4, 30, 31, 32, 9, 33, 29, 34, 35, 36, 66, 67, 68, 69, 70, 71, 72, 73] (by decide +kernel) (by decide +kernel)
set_option maxRecDepth 20000 in
theorem gX3_greatest_X3_valueAt : GoodIn wsX3_greatest (wsV RX3 95 RX3 yX3_valueAt wsX3_valueAt) := goodIn_app (goodIn_of _ (by decide +kernel)) ggX3_greatest_X3_valueAt
theorem dX3_greatest_0 : decode cX3_greatest 0 = .ok (.iload_n 1, 1) := by decide +kernel
theorem dX3_greatest_1 : decode cX3_greatest 1 = .ok (.invokestatic 75, 3) := by decide +kernel
theorem dX3_greatest_4 : decode cX3_greatest 4 = .ok (.ifCond .ne 7, 3) := by decide +kernel
theorem dX3_greatest_7 : decode cX3_greatest 7 = .ok (.ldc2_w 83, 3) := by decide +kernel
theorem dX3_greatest_10 : decode cX3_greatest 10 = .ok (.lreturn, 1) := by decide +kernel
theorem dX3_greatest_11 : decode cX3_greatest 11 = .ok (.aload_n 0, 1) := by decide +kernel
theorem dX3_greatest_12 : decode cX3_greatest 12 = .ok (.iload_n 1, 1) := by decide +kernel
theorem dX3_greatest_13 : decode cX3_greatest 13 = .ok (.invokevirtual 111, 3) := by decide +kernel
theorem dX3_greatest_16 : decode cX3_greatest 16 = .ok (.aload_n 0, 1) := by decide +kernel
theorem dX3_greatest_17 : decode cX3_greatest 17 = .ok (.bipush 8, 2) := by decide +kernel
theorem dX3_greatest_19 : decode cX3_greatest 19 = .ok (.invokevirtual 67, 3) := by decide +kernel
theorem dX3_greatest_22 : decode cX3_greatest 22 = .ok (.lconst 0, 1) := by decide +kernel
theorem dX3_greatest_23 : decode cX3_greatest 23 = .ok (.lcmp, 1) := by decide +kernel
theorem dX3_greatest_24 : decode cX3_greatest 24 = .ok (.ifCond .eq 7, 3) := by decide +kernel
theorem dX3_greatest_27 : decode cX3_greatest 27 = .ok (.ldc2_w 65, 3) := by decide +kernel
theorem dX3_greatest_30 : decode cX3_greatest 30 = .ok (.lreturn, 1) := by decide +kernel
theorem dX3_greatest_31 : decode cX3_greatest 31 = .ok (.aload_n 0, 1) := by decide +kernel
theorem dX3_greatest_32 : decode cX3_greatest 32 = .ok (.bipush 8, 2) := by decide +kernel
theorem dX3_greatest_34 : decode cX3_greatest 34 = .ok (.invokevirtual 167, 3) := by decide +kernel
theorem dX3_greatest_37 : decode cX3_greatest 37 = .ok (.aload_n 0, 1) := by decide +kernel
theorem dX3_greatest_38 : decode cX3_greatest 38 = .ok (.iload_n 1, 1) := by decide +kernel
theorem dX3_greatest_39 : decode cX3_greatest 39 = .ok (.ldc2_w 43, 3) := by decide +kernel
theorem dX3_greatest_42 : decode cX3_greatest 42 = .ok (.invokevirtual 95, 3) := by decide +kernel
theorem dX3_greatest_45 : decode cX3_greatest 45 = .ok (.lstore_n 2, 1) := by decide +kernel
theorem dX3_greatest_46 : decode cX3_greatest 46 = .ok (.aload_n 0, 1) := by decide +kernel
theorem dX3_greatest_47 : decode cX3_greatest 47 = .ok (.iload_n 1, 1) := by decide +kernel
theorem dX3_greatest_48 : decode cX3_greatest 48 = .ok (.ldc2_w 45, 3) := by decide +kernel
theorem dX3_greatest_51 : decode cX3_greatest 51 = .ok (.invokevirtual 95, 3) := by decide +kernel
theorem dX3_greatest_54 : decode cX3_greatest 54 = .ok (.lstore 4, 2) := by decide +kernel
theorem dX3_greatest_56 : decode cX3_greatest 56 = .ok (.lload 4, 2) := by decide +kernel
theorem dX3_greatest_58 : decode cX3_greatest 58 = .ok (.lload_n 2, 1) := by decide +kernel
theorem dX3_greatest_59 : decode cX3_greatest 59 = .ok (.lcmp, 1) := by decide +kernel
theorem dX3_greatest_60 : decode cX3_greatest 60 = .ok (.ifCond .le 8, 3) := by decide +kernel
theorem dX3_greatest_63 : decode cX3_greatest 63 = .ok (.lload 4, 2) := by decide +kernel
theorem dX3_greatest_65 : decode cX3_greatest 65 = .ok (.goto 4, 3) := by decide +kernel
theorem dX3_greatest_68 : decode cX3_greatest 68 = .ok (.lload_n 2, 1) := by decide +kernel
theorem dX3_greatest_69 : decode cX3_greatest 69 = .ok (.lstore_n 2, 1) := by decide +kernel
theorem dX3_greatest_70 : decode cX3_greatest 70 = .ok (.iconst 0, 1) := by decide +kernel
theorem dX3_greatest_71 : decode cX3_greatest 71 = .ok (.istore 6, 2) := by decide +kernel
theorem dX3_greatest_73 : decode cX3_greatest 73 = .ok (.iload 6, 2) := by decide +kernel
theorem dX3_greatest_75 : decode cX3_greatest 75 = .ok (.aload_n 0, 1) := by decide +kernel
theorem dX3_greatest_76 : decode cX3_greatest 76 = .ok (.getfield 155, 3) := by decide +kernel
theorem dX3_greatest_79 : decode cX3_greatest 79 = .ok (.if_icmp .ge 38, 3) := by decide +kernel
theorem dX3_greatest_82 : decode cX3_greatest 82 = .ok (.aload_n 0, 1) := by decide +kernel
theorem dX3_greatest_83 : decode cX3_greatest 83 = .ok (.iload_n 1, 1) := by decide +kernel
theorem dX3_greatest_84 : decode cX3_greatest 84 = .ok (.aload_n 0, 1) := by decide +kernel
theorem dX3_greatest_85 : decode cX3_greatest 85 = .ok (.getfield 31, 3) := by decide +kernel
theorem dX3_greatest_88 : decode cX3_greatest 88 = .ok (.iload 6, 2) := by decide +kernel
theorem dX3_greatest_90 : decode cX3_greatest 90 = .ok (.iaload, 1) := by decide +kernel
theorem dX3_greatest_91 : decode cX3_greatest 91 = .ok (.i2l, 1) := by decide +kernel
theorem dX3_greatest_92 : decode cX3_greatest 92 = .ok (.invokevirtual 95, 3) := by decide +kernel
theorem dX3_greatest_95 : decode cX3_greatest 95 = .ok (.lstore 7, 2) := by decide +kernel
theorem dX3_greatest_97 : decode cX3_greatest 97 = .ok (.lload 7, 2) := by decide +kernel
theorem dX3_greatest_99 : decode cX3_greatest 99 = .ok (.lload_n 2, 1) := by decide +kernel
theorem dX3_greatest_100 : decode cX3_greatest 100 = .ok (.lcmp, 1) := by decide +kernel
theorem dX3_greatest_101 : decode cX3_greatest 101 = .ok (.ifCond .le 8, 3) := by decide +kernel
theorem dX3_greatest_104 : decode cX3_greatest 104 = .ok (.lload 7, 2) := by decide +kernel
theorem dX3_greatest_106 : decode cX3_greatest 106 = .ok (.goto 4, 3) := by decide +kernel
theorem dX3_greatest_109 : decode cX3_greatest 109 = .ok (.lload_n 2, 1) := by decide +kernel
theorem dX3_greatest_110 : decode cX3_greatest 110 = .ok (.lstore_n 2, 1) := by decide +kernel
theorem dX3_greatest_111 : decode cX3_greatest 111 = .ok (.iinc 6 1, 3) := by decide +kernel
theorem dX3_greatest_114 : decode cX3_greatest 114 = .ok (.goto (-41), 3) := by decide +kernel
theorem dX3_greatest_117 : decode cX3_greatest 117 = .ok (.lload_n 2, 1) := by decide +kernel
theorem dX3_greatest_118 : decode cX3_greatest 118 = .ok (.lreturn, 1) := by decide +kernel
set_option maxRecDepth 20000 in
theorem ggJ9_floorDiv_b2ac5_J9_floorDiv_f86c9 : GoodIn wsJ9_floorDiv_b2ac5 wsJ9_floorDiv_f86c9 := goodIn_r _ [4] (by decide +kernel) (by decide +kernel)
set_option maxRecDepth 20000 in
theorem gJ9_floorDiv_b2ac5_J9_floorDiv_f86c9 : GoodIn wsJ9_floorDiv_b2ac5 (va_wsS RJ9 143 yJ9_floorDiv_f86c9 wsJ9_floorDiv_f86c9) := goodIn_app (goodIn_of _ (by decide +kernel)) ggJ9_floorDiv_b2ac5_J9_floorDiv_f86c9
theorem dJ9_floorDiv_b2ac5_0 : decode cJ9_floorDiv_b2ac5 0 = .ok (.lload_n 0, 1) := by decide +kernel
theorem dJ9_floorDiv_b2ac5_1 : decode cJ9_floorDiv_b2ac5 1 = .ok (.iload_n 2, 1) := by decide +kernel
theorem dJ9_floorDiv_b2ac5_2 : decode cJ9_floorDiv_b2ac5 2 = .ok (.i2l, 1) := by decide +kernel
theorem dJ9_floorDiv_b2ac5_3 : decode cJ9_floorDiv_b2ac5 3 = .ok (.invokestatic 143, 3) := by decide +kernel
theorem dJ9_floorDiv_b2ac5_6 : decode cJ9_floorDiv_b2ac5 6 = .ok (.lreturn, 1) := by decide +kernel
theorem dJ9_floorDiv_f86c9_0 : decode cJ9_floorDiv_f86c9 0 = .ok (.lload_n 0, 1) := by decide +kernel
theorem dJ9_floorDiv_f86c9_1 : decode cJ9_floorDiv_f86c9 1 = .ok (.lload_n 2, 1) := by decide +kernel
theorem dJ9_floorDiv_f86c9_2 : decode cJ9_floorDiv_f86c9 2 = .ok (.ldiv, 1) := by decide +kernel
theorem dJ9_floorDiv_f86c9_3 : decode cJ9_floorDiv_f86c9 3 = .ok (.lstore 4, 2) := by decide +kernel
theorem dJ9_floorDiv_f86c9_5 : decode cJ9_floorDiv_f86c9 5 = .ok (.lload_n 0, 1) := by decide +kernel
theorem dJ9_floorDiv_f86c9_6 : decode cJ9_floorDiv_f86c9 6 = .ok (.lload_n 2, 1) := by decide +kernel
theorem dJ9_floorDiv_f86c9_7 : decode cJ9_floorDiv_f86c9 7 = .ok (.lxor, 1) := by decide +kernel
theorem dJ9_floorDiv_f86c9_8 : decode cJ9_floorDiv_f86c9 8 = .ok (.lconst 0, 1) := by decide +kernel
theorem dJ9_floorDiv_f86c9_9 : decode cJ9_floorDiv_f86c9 9 = .ok (.lcmp, 1) := by decide +kernel
theorem dJ9_floorDiv_f86c9_10 : decode cJ9_floorDiv_f86c9 10 = .ok (.ifCond .ge 17, 3) := by decide +kernel
theorem dJ9_floorDiv_f86c9_13 : decode cJ9_floorDiv_f86c9 13 = .ok (.lload 4, 2) := by decide +kernel
theorem dJ9_floorDiv_f86c9_15 : decode cJ9_floorDiv_f86c9 15 = .ok (.lload_n 2, 1) := by decide +kernel
theorem dJ9_floorDiv_f86c9_16 : decode cJ9_floorDiv_f86c9 16 = .ok (.lmul, 1) := by decide +kernel
theorem dJ9_floorDiv_f86c9_17 : decode cJ9_floorDiv_f86c9 17 = .ok (.lload_n 0, 1) := by decide +kernel
theorem dJ9_floorDiv_f86c9_18 : decode cJ9_floorDiv_f86c9 18 = .ok (.lcmp, 1) := by decide +kernel
theorem dJ9_floorDiv_f86c9_19 : decode cJ9_floorDiv_f86c9 19 = .ok (.ifCond .eq 8, 3) := by decide +kernel
theorem dJ9_floorDiv_f86c9_22 : decode cJ9_floorDiv_f86c9 22 = .ok (.lload 4, 2) := by decide +kernel
theorem dJ9_floorDiv_f86c9_24 : decode cJ9_floorDiv_f86c9 24 = .ok (.lconst 1, 1) := by decide +kernel
theorem dJ9_floorDiv_f86c9_25 : decode cJ9_floorDiv_f86c9 25 = .ok (.lsub, 1) := by decide +kernel
theorem dJ9_floorDiv_f86c9_26 : decode cJ9_floorDiv_f86c9 26 = .ok (.lreturn, 1) := by decide +kernel
theorem dJ9_floorDiv_f86c9_27 : decode cJ9_floorDiv_f86c9 27 = .ok (.lload 4, 2) := by decide +kernel
theorem dJ9_floorDiv_f86c9_29 : decode cJ9_floorDiv_f86c9 29 = .ok (.lreturn, 1) := by decide +kernel
theorem dJ9_abs_0f7a4_0 : decode cJ9_abs_0f7a4 0 = .ok (.iload_n 0, 1) := by decide +kernel
theorem dJ9_abs_0f7a4_1 : decode cJ9_abs_0f7a4 1 = .ok (.ifCond .ge 8, 3) := by decide +kernel
theorem dJ9_abs_0f7a4_4 : decode cJ9_abs_0f7a4 4 = .ok (.iload_n 0, 1) := by decide +kernel
theorem dJ9_abs_0f7a4_5 : decode cJ9_abs_0f7a4 5 = .ok (.ineg, 1) := by decide +kernel
theorem dJ9_abs_0f7a4_6 : decode cJ9_abs_0f7a4 6 = .ok (.goto 4, 3) := by decide +kernel
theorem dJ9_abs_0f7a4_9 : decode cJ9_abs_0f7a4 9 = .ok (.iload_n 0, 1) := by decide +kernel
theorem dJ9_abs_0f7a4_10 : decode cJ9_abs_0f7a4 10 = .ok (.ireturn, 1) := by decide +kernel
theorem dJ9_abs_067f4_0 : decode cJ9_abs_067f4 0 = .ok (.lload_n 0, 1) := by decide +kernel
theorem dJ9_abs_067f4_1 : decode cJ9_abs_067f4 1 = .ok (.lconst 0, 1) := by decide +kernel
theorem dJ9_abs_067f4_2 : decode cJ9_abs_067f4 2 = .ok (.lcmp, 1) := by decide +kernel
theorem dJ9_abs_067f4_3 : decode cJ9_abs_067f4 3 = .ok (.ifCond .ge 8, 3) := by decide +kernel
theorem dJ9_abs_067f4_6 : decode cJ9_abs_067f4 6 = .ok (.lload_n 0, 1) := by decide +kernel
theorem dJ9_abs_067f4_7 : decode cJ9_abs_067f4 7 = .ok (.lneg, 1) := by decide +kernel
theorem dJ9_abs_067f4_8 : decode cJ9_abs_067f4 8 = .ok (.goto 4, 3) := by decide +kernel
theorem dJ9_abs_067f4_11 : decode cJ9_abs_067f4 11 = .ok (.lload_n 0, 1) := by decide +kernel
theorem dJ9_abs_067f4_12 : decode cJ9_abs_067f4 12 = .ok (.lreturn, 1) := by decide +kernel
theorem dJ9_max_7cf53_0 : decode cJ9_max_7cf53 0 = .ok (.iload_n 0, 1) := by decide +kernel
theorem dJ9_max_7cf53_1 : decode cJ9_max_7cf53 1 = .ok (.iload_n 1, 1) := by decide +kernel
theorem dJ9_max_7cf53_2 : decode cJ9_max_7cf53 2 = .ok (.if_icmp .lt 7, 3) := by decide +kernel
theorem dJ9_max_7cf53_5 : decode cJ9_max_7cf53 5 = .ok (.iload_n 0, 1) := by decide +kernel
theorem dJ9_max_7cf53_6 : decode cJ9_max_7cf53 6 = .ok (.goto 4, 3) := by decide +kernel
theorem dJ9_max_7cf53_9 : decode cJ9_max_7cf53 9 = .ok (.iload_n 1, 1) := by decide +kernel
theorem dJ9_max_7cf53_10 : decode cJ9_max_7cf53 10 = .ok (.ireturn, 1) := by decide +kernel
theorem dJ9_max_f86c9_0 : decode cJ9_max_f86c9 0 = .ok (.lload_n 0, 1) := by decide +kernel
theorem dJ9_max_f86c9_1 : decode cJ9_max_f86c9 1 = .ok (.lload_n 2, 1) := by decide +kernel
theorem dJ9_max_f86c9_2 : decode cJ9_max_f86c9 2 = .ok (.lcmp, 1) := by decide +kernel
theorem dJ9_max_f86c9_3 : decode cJ9_max_f86c9 3 = .ok (.ifCond .lt 7, 3) := by decide +kernel
theorem dJ9_max_f86c9_6 : decode cJ9_max_f86c9 6 = .ok (.lload_n 0, 1) := by decide +kernel
theorem dJ9_max_f86c9_7 : decode cJ9_max_f86c9 7 = .ok (.goto 4, 3) := by decide +kernel
theorem dJ9_max_f86c9_10 : decode cJ9_max_f86c9 10 = .ok (.lload_n 2, 1) := by decide +kernel
theorem dJ9_max_f86c9_11 : decode cJ9_max_f86c9 11 = .ok (.lreturn, 1) := by decide +kernel
theorem dJ7_fill_d0a16_0 : decode cJ7_fill_d0a16 0 = .ok (.iconst 0, 1) := by decide +kernel
theorem dJ7_fill_d0a16_1 : decode cJ7_fill_d0a16 1 = .ok (.istore_n 3, 1) := by decide +kernel
theorem dJ7_fill_d0a16_2 : decode cJ7_fill_d0a16 2 = .ok (.aload_n 0, 1) := by decide +kernel
theorem dJ7_fill_d0a16_3 : decode cJ7_fill_d0a16 3 = .ok (.arraylength, 1) := by decide +kernel
theorem dJ7_fill_d0a16_4 : decode cJ7_fill_d0a16 4 = .ok (.istore 4, 2) := by decide +kernel
theorem dJ7_fill_d0a16_6 : decode cJ7_fill_d0a16 6 = .ok (.iload_n 3, 1) := by decide +kernel
theorem dJ7_fill_d0a16_7 : decode cJ7_fill_d0a16 7 = .ok (.iload 4, 2) := by decide +kernel
theorem dJ7_fill_d0a16_9 : decode cJ7_fill_d0a16 9 = .ok (.if_icmp .ge 13, 3) := by decide +kernel
theorem dJ7_fill_d0a16_12 : decode cJ7_fill_d0a16 12 = .ok (.aload_n 0, 1) := by decide +kernel
theorem dJ7_fill_d0a16_13 : decode cJ7_fill_d0a16 13 = .ok (.iload_n 3, 1) := by decide +kernel
theorem dJ7_fill_d0a16_14 : decode cJ7_fill_d0a16 14 = .ok (.lload_n 1, 1) := by decide +kernel
theorem dJ7_fill_d0a16_15 : decode cJ7_fill_d0a16 15 = .ok (.lastore, 1) := by decide +kernel
theorem dJ7_fill_d0a16_16 : decode cJ7_fill_d0a16 16 = .ok (.iinc 3 1, 3) := by decide +kernel
theorem dJ7_fill_d0a16_19 : decode cJ7_fill_d0a16 19 = .ok (.goto (-13), 3) := by decide +kernel
theorem dJ7_fill_d0a16_22 : decode cJ7_fill_d0a16 22 = .ok (.return_, 1) := by decide +kernel
end
section
/-! worlds as functions of the place -/
def zq_wd (F : Nat → Nat) (n : Nat) (E : Nat → va_E) : va_W := (List.range n).map (fun k => (F k, E k))
theorem zq_get {F : Nat → Nat} {n : Nat} {E : Nat → va_E} {k : Nat} (h : k < n) : (zq_wd F n E)[k]? = some (F k, E k) := by
  unfold zq_wd
  rw [List.getElem?_map, List.getElem?_range h]
  rfl
theorem zq_len {F : Nat → Nat} {n : Nat} {E : Nat → va_E} : (zq_wd F n E).length = n := by simp [zq_wd]
theorem zq_inv {F : Nat → Nat} {n : Nat} {E : Nat → va_E} {k : Nat} {q : Nat × va_E} (h : (zq_wd F n E)[k]? = some q) : k < n ∧ q = (F k, E k) := by
  have hk : k < n := by
    have := (List.getElem?_eq_some_iff.mp h).1
    rwa [zq_len] at this
  rw [zq_get hk] at h
  exact ⟨hk, (Option.some.inj h).symm⟩
theorem zq_set {F : Nat → Nat} {n : Nat} {E : Nat → va_E} {k : Nat} {e : va_E} : (zq_wd F n E).set k (F k, e) = zq_wd F n (va_up E k e) := by
  apply List.ext_getElem?
  intro i
  by_cases hi : i < n
  · by_cases hk : k = i
    · subst hk
      rw [List.getElem?_set_self (by rw [zq_len]; exact hi), zq_get hi]
      simp [va_up]
    · rw [List.getElem?_set_ne hk, zq_get hi, zq_get hi]
      simp [va_up, Ne.symm hk]
  · rw [List.getElem?_eq_none (by rw [List.length_set, zq_len]; omega), List.getElem?_eq_none (by rw [zq_len]; omega)]
/-- the addresses are apart, and of a kind -/
def zq_F (A : Nat → Prop) (F : Nat → Nat) (n : Nat) : Prop := (∀ i j, i < n → j < n → F i = F j → i = j) ∧ ∀ i, i < n → A (F i)
theorem zq_D {A : Nat → Prop} {F : Nat → Nat} {n : Nat} (h : zq_F A F n) (E : Nat → va_E) : va_D A (zq_wd F n E) := by
  refine ⟨fun i j p q hi hj hpq => ?_, fun k q hk => ?_⟩
  · obtain ⟨h1, rfl⟩ := zq_inv hi
    obtain ⟨h2, rfl⟩ := zq_inv hj
    exact h.1 i j h1 h2 hpq
  · obtain ⟨h1, rfl⟩ := zq_inv hk
    exact h.2 k h1
/-- a world's cells may be told otherwise where they are the same cells -/
theorem zq_ext {D : va_G} {cl : List vw_C} {F : Nat → Nat} {n : Nat} {E E' : Nat → va_E} {H : Heap} (h : va_P D cl (zq_wd F n E) H) (he : ∀ k, k < n → va_at D cl (F k, E k) H → va_at D cl (F k, E' k) H) : va_P D cl (zq_wd F n E') H := by
  intro k q hk
  obtain ⟨h1, rfl⟩ := zq_inv hk
  exact he k h1 (h k _ (zq_get h1))
theorem zq_arrL {D : va_G} {cl : List vw_C} {a : Nat} {c : ClassId} {N : Nat} {f g : Nat → Int64} {H : Heap} (hfg : ∀ j, j < N → f j = g j) (h : va_at D cl (a, .inl (c, N, .inr (.inl f))) H) : va_at D cl (a, .inl (c, N, .inr (.inl g))) H := by
  have e : vp_cell c (N, .inr (.inl f)) = vp_cell c (N, .inr (.inl g)) := by
    rw [vp_cell_l, vp_cell_l]
    unfold arrV
    congr 2
    funext j
    show _ = _
    exact congrArg _ (hfg j.1 j.2)
  show H[a]? = some (vp_cell c (N, .inr (.inl g)))
  rw [← e]
  exact h
theorem zq_arrI {D : va_G} {cl : List vw_C} {a : Nat} {c : ClassId} {N : Nat} {f g : Nat → Int32} {H : Heap} (hfg : ∀ j, j < N → f j = g j) (h : va_at D cl (a, .inl (c, N, .inl f)) H) : va_at D cl (a, .inl (c, N, .inl g)) H := by
  have e : vp_cell c (N, .inl f) = vp_cell c (N, .inl g) := by
    rw [vp_cell_i, vp_cell_i]
    unfold arrV
    congr 2
    funext j
    show _ = _
    exact congrArg _ (hfg j.1 j.2)
  show H[a]? = some (vp_cell c (N, .inl g))
  rw [← e]
  exact h
/-- a world that nobody touched -/
theorem zq_kept {D : va_G} {cl : List vw_C} {F : Nat → Nat} {n : Nat} {E : Nat → va_E} {H H1 : Heap} (h : va_P D cl (zq_wd F n E) H) (hq : ∀ k, k < n → H1[F k]? = H[F k]?) : va_P D cl (zq_wd F n E) H1 := by
  intro k q hk
  obtain ⟨h1, rfl⟩ := zq_inv hk
  exact (h k _ (zq_get h1)).kept (hq k h1)
theorem zq_lt {D : va_G} {cl : List vw_C} {F : Nat → Nat} {n : Nat} {E : Nat → va_E} {H : Heap} (h : va_P D cl (zq_wd F n E) H) {k : Nat} (hk : k < n) : F k < H.size := (h k _ (zq_get hk)).lt
/-! the class' world: series i at the place i, its row at i + 12, then the object and its own rows -/
abbrev zZC : Type := (Nat → Int64) × (Nat → Int64) × (Nat → Int64) × Nat × Nat × Nat
def zCE (cL cR : ClassId) (F : Nat → Nat) (T : Nat → Nat → Int64) (top : Nat → Nat) (Z : zZC) : Nat → va_E := fun k =>
  if k < 12 then .inr (1, [.ref (F (k + 12)), .int (nI (top k))])
  else if k < 24 then .inl (cL, 49, .inr (.inl (T (k - 12))))
  else if k = 24 then .inr (2, [.ref (F 25), .ref (F 26), .ref (F 27), .ref (F 8), .ref (F 9), .ref (F 10), .ref (F 11)])
  else if k = 25 then .inl (cR, 8, .inr (.inr (.inr (.inr (fun j => some (F j))))))
  else if k = 26 then .inl (cL, 17, .inr (.inl Z.1))
  else if k = 27 then .inr (0, [.ref (F 28), .ref (F 29), .int (nI Z.2.2.2.1), .int (nI Z.2.2.2.2.1), .int (nI Z.2.2.2.2.2)])
  else if k = 28 then .inl (cL, 24, .inr (.inl Z.2.1))
  else if k = 29 then .inl (cL, 32, .inr (.inl Z.2.2.1))
  else .inr (0, [])
section ZC
variable {cL cR : ClassId} {F : Nat → Nat} {T : Nat → Nat → Int64} {top : Nat → Nat} {Z : zZC}
theorem zC_s {i : Nat} (h : i < 12) : zCE cL cR F T top Z i = .inr (1, [.ref (F (i + 12)), .int (nI (top i))]) := by simp [zCE, h]
theorem zC_t {i : Nat} (h : i < 12) : zCE cL cR F T top Z (i + 12) = .inl (cL, 49, .inr (.inl (T i))) := by
  have h1 : ¬ i + 12 < 12 := by omega
  have h2 : i + 12 < 24 := by omega
  simp [zCE, h1, h2]
theorem zC_o : zCE cL cR F T top Z 24 = .inr (2, [.ref (F 25), .ref (F 26), .ref (F 27), .ref (F 8), .ref (F 9), .ref (F 10), .ref (F 11)]) := by simp [zCE]
theorem zC_st : zCE cL cR F T top Z 25 = .inl (cR, 8, .inr (.inr (.inr (.inr (fun j => some (F j)))))) := by simp [zCE]
theorem zC_pv : zCE cL cR F T top Z 26 = .inl (cL, 17, .inr (.inl Z.1)) := by simp [zCE]
theorem zC_se : zCE cL cR F T top Z 27 = .inr (0, [.ref (F 28), .ref (F 29), .int (nI Z.2.2.2.1), .int (nI Z.2.2.2.2.1), .int (nI Z.2.2.2.2.2)]) := by simp [zCE]
theorem zC_rt : zCE cL cR F T top Z 28 = .inl (cL, 24, .inr (.inl Z.2.1)) := by simp [zCE]
theorem zC_en : zCE cL cR F T top Z 29 = .inl (cL, 32, .inr (.inl Z.2.2.1)) := by simp [zCE]
theorem zC_us {i v : Nat} (h : i < 12) : va_up (zCE cL cR F T top Z) i (.inr (1, [.ref (F (i + 12)), .int (nI v)])) = zCE cL cR F T (va_up top i v) Z := by
  funext k
  by_cases hk : k = i
  · subst hk
    simp [va_up, zCE, h]
  · simp [va_up, zCE, hk]
theorem zC_ut {i : Nat} {f : Nat → Int64} (h : i < 12) : va_up (zCE cL cR F T top Z) (i + 12) (.inl (cL, 49, .inr (.inl f))) = zCE cL cR F (va_up T i f) top Z := by
  funext k
  by_cases hk : k = i + 12
  · subst hk
    have h1 : ¬ i + 12 < 12 := by omega
    have h2 : i + 12 < 24 := by omega
    simp [va_up, zCE, h1, h2]
  · by_cases h2 : k - 12 = i
    · have h3 : k < 12 ∨ ¬ k < 24 := by omega
      rcases h3 with h3 | h3
      · simp [va_up, zCE, hk, h3]
      · have h4 : ¬ k < 12 := by omega
        simp [va_up, zCE, hk, h3, h4]
    · simp [va_up, zCE, hk, h2]
theorem zC_upv {f : Nat → Int64} : va_up (zCE cL cR F T top Z) 26 (.inl (cL, 17, .inr (.inl f))) = zCE cL cR F T top (f, Z.2) := by
  funext k
  by_cases hk : k = 26
  · subst hk; simp [va_up, zCE]
  · simp [va_up, zCE, hk]
theorem zC_use {w co lo : Nat} : va_up (zCE cL cR F T top Z) 27 (.inr (0, [.ref (F 28), .ref (F 29), .int (nI w), .int (nI co), .int (nI lo)])) = zCE cL cR F T top (Z.1, Z.2.1, Z.2.2.1, w, co, lo) := by
  funext k
  by_cases hk : k = 27
  · subst hk; simp [va_up, zCE]
  · simp [va_up, zCE, hk]
theorem zC_urt {f : Nat → Int64} : va_up (zCE cL cR F T top Z) 28 (.inl (cL, 24, .inr (.inl f))) = zCE cL cR F T top (Z.1, f, Z.2.2) := by
  funext k
  by_cases hk : k = 28
  · subst hk; simp [va_up, zCE]
  · simp [va_up, zCE, hk]
theorem zC_uen {f : Nat → Int64} : va_up (zCE cL cR F T top Z) 29 (.inl (cL, 32, .inr (.inl f))) = zCE cL cR F T top (Z.1, Z.2.1, f, Z.2.2.2) := by
  funext k
  by_cases hk : k = 29
  · subst hk; simp [va_up, zCE]
  · simp [va_up, zCE, hk]
end ZC
theorem zq_cong {F : Nat → Nat} {n : Nat} {E E' : Nat → va_E} (h : ∀ k, k < n → E k = E' k) : zq_wd F n E = zq_wd F n E' := by
  apply List.ext_getElem?
  intro i
  by_cases hi : i < n
  · rw [zq_get hi, zq_get hi, h i hi]
  · rw [List.getElem?_eq_none (by rw [zq_len]; omega), List.getElem?_eq_none (by rw [zq_len]; omega)]
theorem zC_extT {D : va_G} {cl : List vw_C} {cL cR : ClassId} {F : Nat → Nat} {T T' : Nat → Nat → Int64} {top : Nat → Nat} {Z : zZC} {H : Heap} (h : va_P D cl (zq_wd F 30 (zCE cL cR F T top Z)) H) (hT : ∀ i, i < 12 → ∀ j, j < 49 → T i j = T' i j) : va_P D cl (zq_wd F 30 (zCE cL cR F T' top Z)) H := by
  refine zq_ext h (fun k hk ha => ?_)
  by_cases h1 : k < 12
  · rw [zC_s h1] at ha ⊢
    exact ha
  · by_cases h2 : k < 24
    · obtain ⟨i, rfl⟩ : ∃ i, k = i + 12 := ⟨k - 12, by omega⟩
      rw [zC_t (by omega)] at ha ⊢
      exact zq_arrL (hT i (by omega)) ha
    · have e : zCE cL cR F T top Z k = zCE cL cR F T' top Z k := by simp [zCE, h1, h2]
      rw [e] at ha
      exact ha
theorem va_up_eq {α : Type} (f : Nat → α) (k : Nat) (v : α) : va_up f k v k = v := by simp [va_up]
theorem zup_self {α : Type} (f : Nat → α) (k : Nat) : va_up f k (f k) = f := by
  funext j
  by_cases h : j = k
  · subst h; simp [va_up]
  · simp [va_up, h]
/-! the reference's world -/
abbrev zZM : Type := (Nat → Int32) × (Nat → Int32) × (Nat → Int32) × Nat × Nat
def zcos : Nat → Int32 := fun j => if j = 0 then 1048576 else if j = 1 then 1028428 else if j = 2 then 968758 else if j = 3 then 871859 else if j = 4 then 741455 else if j = 5 then 582558 else if j = 6 then 401273 else if j = 7 then 204567 else 0
def zME (cL cI : ClassId) (F : Nat → Nat) (C : Nat → Nat → Int64) (dg : Nat → Nat) (Y : zZM) : Nat → va_E := fun k =>
  if k = 0 then .inr (3, [.ref (F 1), .ref (F 2), .ref (F 3), .ref (F 4), .int (nI Y.2.2.2.1), .ref (F 5), .int (nI Y.2.2.2.2), .ref (F 6)])
  else if k = 1 then .inl (cL, 768, .inr (.inl (fun j => C (j / 64) (j % 64))))
  else if k = 2 then .inl (cI, 12, .inl (fun j => nI (dg j)))
  else if k = 3 then .inl (cI, 17, .inl Y.1)
  else if k = 4 then .inl (cI, 9, .inl zcos)
  else if k = 5 then .inl (cI, 24, .inl Y.2.1)
  else if k = 6 then .inl (cI, 200, .inl Y.2.2.1)
  else .inr (0, [])
section ZM
variable {cL cI : ClassId} {F : Nat → Nat} {C : Nat → Nat → Int64} {dg : Nat → Nat} {Y : zZM}
theorem zM_o : zME cL cI F C dg Y 0 = .inr (3, [.ref (F 1), .ref (F 2), .ref (F 3), .ref (F 4), .int (nI Y.2.2.2.1), .ref (F 5), .int (nI Y.2.2.2.2), .ref (F 6)]) := by simp [zME]
theorem zM_c : zME cL cI F C dg Y 1 = .inl (cL, 768, .inr (.inl (fun j => C (j / 64) (j % 64)))) := by simp [zME]
theorem zM_d : zME cL cI F C dg Y 2 = .inl (cI, 12, .inl (fun j => nI (dg j))) := by simp [zME]
theorem zM_v : zME cL cI F C dg Y 3 = .inl (cI, 17, .inl Y.1) := by simp [zME]
theorem zM_k : zME cL cI F C dg Y 4 = .inl (cI, 9, .inl zcos) := by simp [zME]
theorem zM_f : zME cL cI F C dg Y 5 = .inl (cI, 24, .inl Y.2.1) := by simp [zME]
theorem zM_w : zME cL cI F C dg Y 6 = .inl (cI, 200, .inl Y.2.2.1) := by simp [zME]
theorem zM_uo {r k : Nat} : va_up (zME cL cI F C dg Y) 0 (.inr (3, [.ref (F 1), .ref (F 2), .ref (F 3), .ref (F 4), .int (nI r), .ref (F 5), .int (nI k), .ref (F 6)])) = zME cL cI F C dg (Y.1, Y.2.1, Y.2.2.1, r, k) := by
  funext i
  by_cases hi : i = 0
  · subst hi; simp [va_up, zME]
  · simp [va_up, zME, hi]
theorem zM_uc {s k : Nat} {x : Int64} (hk : k < 64) : va_up (zME cL cI F C dg Y) 1 (.inl (cL, 768, .inr (.inl (vp_updL (fun j => C (j / 64) (j % 64)) (64 * s + k) x)))) = zME cL cI F (va_up C s (vp_updL (C s) k x)) dg Y := by
  have e : vp_updL (fun j => C (j / 64) (j % 64)) (64 * s + k) x = fun j => va_up C s (vp_updL (C s) k x) (j / 64) (j % 64) := by
    funext j
    by_cases h1 : j / 64 = s
    · by_cases h2 : j % 64 = k
      · have h3 : j = 64 * s + k := by omega
        rw [h1, h2, va_up_eq]
        simp [vp_updL, h3]
      · have h3 : ¬ j = 64 * s + k := by omega
        rw [h1, va_up_eq]
        simp [vp_updL, h2, h3, h1]
    · have h3 : ¬ j = 64 * s + k := by omega
      simp [vp_updL, va_up, h3, h1]
  rw [e]
  funext i
  by_cases hi : i = 1
  · subst hi; simp [va_up, zME]
  · simp [va_up, zME, hi]
theorem zM_ud {s v : Nat} : va_up (zME cL cI F C dg Y) 2 (.inl (cI, 12, .inl (upd (fun j => nI (dg j)) s (nI v)))) = zME cL cI F C (va_up dg s v) Y := by
  have e : upd (fun j => nI (dg j)) s (nI v) = fun j => nI (va_up dg s v j) := by
    funext j
    by_cases h : j = s
    · subst h; simp [upd, va_up]
    · simp [upd, va_up, h]
  rw [e]
  funext i
  by_cases hi : i = 2
  · subst hi; simp [va_up, zME]
  · simp [va_up, zME, hi]
theorem zM_uv {f : Nat → Int32} : va_up (zME cL cI F C dg Y) 3 (.inl (cI, 17, .inl f)) = zME cL cI F C dg (f, Y.2) := by
  funext i
  by_cases hi : i = 3
  · subst hi; simp [va_up, zME]
  · simp [va_up, zME, hi]
theorem zM_uf {f : Nat → Int32} : va_up (zME cL cI F C dg Y) 5 (.inl (cI, 24, .inl f)) = zME cL cI F C dg (Y.1, f, Y.2.2) := by
  funext i
  by_cases hi : i = 5
  · subst hi; simp [va_up, zME]
  · simp [va_up, zME, hi]
theorem zM_uw {f : Nat → Int32} : va_up (zME cL cI F C dg Y) 6 (.inl (cI, 200, .inl f)) = zME cL cI F C dg (Y.1, Y.2.1, f, Y.2.2.2) := by
  funext i
  by_cases hi : i = 6
  · subst hi; simp [va_up, zME]
  · simp [va_up, zME, hi]
end ZM
theorem zM_extC {D : va_G} {cl : List vw_C} {cL cI : ClassId} {F : Nat → Nat} {C C' : Nat → Nat → Int64} {dg : Nat → Nat} {Y : zZM} {H : Heap} (h : va_P D cl (zq_wd F 7 (zME cL cI F C dg Y)) H) (hC : ∀ i, i < 12 → ∀ j, j < 64 → C i j = C' i j) : va_P D cl (zq_wd F 7 (zME cL cI F C' dg Y)) H := by
  refine zq_ext h (fun k hk ha => ?_)
  by_cases h1 : k = 1
  · subst h1
    rw [zM_c] at ha ⊢
    exact zq_arrL (fun j hj => hC _ (by omega) _ (by omega)) ha
  · have e : zME cL cI F C dg Y k = zME cL cI F C' dg Y k := by simp [zME, h1]
    rw [e] at ha
    exact ha
end
section
/-! what a launch gives to every method: classes, nest mates, the table of cosines -/
def zAm (D : va_G) (cL cI cR : ClassId) (A : Nat → Prop) (U : State) : Prop :=
  va_K D vwCl [(cL, .long), (cI, .int), (cR, .object RX1)] U ∧ va_Nw (.methodLinkNest RX1 45 yX2_rounded RX2) U ∧ va_Nw (.methodLinkNest RX0 83 yX2_rounded RX2) U ∧
  ∃ t : Nat, va_Z RX2 "COSINES" "[I" (.ref t) A U U.heap ∧ va_T .int t 9 (fun j => .int (zcos j)) A U U.heap
theorem zAm_call {D : va_G} {cL cI cR : ClassId} {A : Nat → Prop} {s U : State} {H : Heap} {locs : List Loc} (h : zAm D cL cI cR A s) (hS : va_S A s.heap H locs) (hU : U.heap = H) (hW : s.WarmedH U.vm) : zAm D cL cI cR A U := by
  obtain ⟨hK, h1, h2, t, hZ, hT⟩ := h
  refine ⟨va_K.moved hW.alike hK, va_Nw.warmM hW h1, va_Nw.warmM hW h2, t, ?_, ?_⟩
  · rw [hU]; exact (hZ.kept hS.2.1).moved hW.alike
  · rw [hU]; exact (hT.kept hS.2.1).moved hW.alike
theorem zAm_blind {D : va_G} {cL cI cR : ClassId} {A : Nat → Prop} {U : State} {g : JFrame} {mk : MethodId} {a : Array Value} (h : zAm D cL cI cR A U) : zAm D cL cI cR A (U.calling g mk a) := by
  obtain ⟨hK, h1, h2, t, hZ, hT⟩ := h
  exact ⟨va_K.moved (u := U) (U := U.calling g mk a) (Vm.Alike.refl U.vm) hK, va_Nw.same (u := U) (U := U.calling g mk a) rfl rfl h1, va_Nw.same (u := U) (U := U.calling g mk a) rfl rfl h2, t, va_Z.moved (u := U) (U := U.calling g mk a) (Vm.Alike.refl U.vm) hZ, va_T.moved (u := U) (U := U.calling g mk a) (Vm.Alike.refl U.vm) hT⟩
/-- a contract: from the world E, with the values av, to an answer and a world of which PQ speaks; no cell is made -/
def zCt (l : Launch) (y : MethodName) (ws : List Cond) (fr lo : Nat) (D : va_G) (cL cI cR : ClassId) (A : Nat → Prop) (F : Nat → Nat) (n : Nat) (E : Nat → va_E) (av : List Value) (PQ : Option Value → (Nat → va_E) → Prop) : Prop :=
  Met l y ws ({ frames := fr, cells := 0, slots := 0, locals := lo }) (va_Pc av (fun U => zAm D cL cI cR A U ∧ va_P D vwCl (zq_wd F n E) U.heap)) (fun _ st oc t => (∃ (v : Option Value) (E' : Nat → va_E), oc = .returned v ∧ PQ v E' ∧ va_P D vwCl (zq_wd F n E') t.heap) ∧ va_F A st t) 0 0 A
/-- the same where answer and world are known -/
abbrev zCf (l : Launch) (y : MethodName) (ws : List Cond) (fr lo : Nat) (D : va_G) (cL cI cR : ClassId) (A : Nat → Prop) (F : Nat → Nat) (n : Nat) (E : Nat → va_E) (av : List Value) (v : Option Value) (E' : Nat → va_E) : Prop :=
  zCt l y ws fr lo D cL cI cR A F n E av (fun v2 E2 => v2 = v ∧ E2 = E')
abbrev zQ (below : List Frame) (D : va_G) (A : Nat → Prop) (F : Nat → Nat) (n : Nat) (av : List Value) (s : State) (PQ : Option Value → (Nat → va_E) → Prop) : State → Prop :=
  MQ below (fun _ st oc t => (∃ (v : Option Value) (E' : Nat → va_E), oc = .returned v ∧ PQ v E' ∧ va_P D vwCl (zq_wd F n E') t.heap) ∧ va_F A st t) av.toArray s 0 0 A
theorem zStart {l : Launch} {y : MethodName} {ws ws' : List Cond} {fr lo : Nat} {D : va_G} {cL cI cR : ClassId} {A : Nat → Prop} {F : Nat → Nat} {n : Nat} {E : Nat → va_E} {av : List Value} {PQ : Option Value → (Nat → va_E) → Prop} {cc : ByteArray} {maxL : Nat} {ret : Option FieldType}
    (hy : plainName y.cls = true) (hw : ws = Cond.code y cc maxL ret :: ws') (hlen : (lg_sl av).length ≤ maxL)
    (body : ∀ (p : Program) (e : Env) (s : State) (m : MethodId) (below : List Frame) (meth : Method) (c : Code), p.tables.exec = Jvm.exec → c.code = cc → meth.sig.returnType = ret → c.maxLocals = maxL → meth.locks = false → s.vm.findClass y.cls = some m.cls →
      (∀ w ∈ ws, w.before av.toArray s = true) → zAm D cL cI cR A s → ∀ (H : Heap), va_P D vwCl (zq_wd F n E) H → va_S A s.heap H [] → ∀ (ls : Array Slot), lv_has ls maxL (lv_args 0 av) →
      W p l e ({ frames := fr, cells := 0, slots := 0, locals := lo }) s m av.toArray below meth c H [] 0 0 (zQ below D A F n av s PQ) (F0 m 0 ls [])) : zCt l y ws fr lo D cL cI cR A F n E av PQ := by
  refine Met.ofW (cc := cc) (maxL := maxL) (ret := ret) hy hw ?_
  intro p e s m args below meth c s₁ B hml hv
  obtain ⟨rfl, hAm, hP⟩ := hv
  have hts := atoms_spec (ws := ws) B.pre
  have hown : s.vm.findClass y.cls = some m.cls := findClass_of_methodNamed B.named
  have hl := lv_entry av (n := maxL) hlen
  rw [lg_entry_eq]
  exact body p e s m below meth c B.exec B.bytes B.returns hml B.notSynchronized hown hts hAm s.heap hP va_S.rf _ hl
theorem zStartF {l : Launch} {y : MethodName} {ws ws' : List Cond} {fr lo : Nat} {D : va_G} {cL cI cR : ClassId} {A : Nat → Prop} {F : Nat → Nat} {n : Nat} {E : Nat → va_E} {av : List Value} {PQ : Option Value → (Nat → va_E) → Prop} {cc : ByteArray} {maxL : Nat} {ret : Option FieldType}
    (hy : plainFor y = true) (hw : ws = Cond.code y cc maxL ret :: ws') (hlen : (lg_sl av).length ≤ maxL)
    (body : ∀ (p : Program) (e : Env) (s : State) (m : MethodId) (below : List Frame) (meth : Method) (c : Code), p.tables.exec = Jvm.exec → c.code = cc → meth.sig.returnType = ret → c.maxLocals = maxL → meth.locks = false → s.vm.findClass y.cls = some m.cls →
      (∀ w ∈ ws, w.before av.toArray s = true) → zAm D cL cI cR A s → ∀ (H : Heap), va_P D vwCl (zq_wd F n E) H → va_S A s.heap H [] → ∀ (ls : Array Slot), lv_has ls maxL (lv_args 0 av) →
      W p l e ({ frames := fr, cells := 0, slots := 0, locals := lo }) s m av.toArray below meth c H [] 0 0 (zQ below D A F n av s PQ) (F0 m 0 ls [])) : zCt l y ws fr lo D cL cI cR A F n E av PQ := by
  refine va_MetF (cc := cc) (maxL := maxL) (ret := ret) hy hw ?_
  intro p e s m args below meth c s₁ B hml hv
  obtain ⟨rfl, hAm, hP⟩ := hv
  have hts := atoms_spec (ws := ws) B.pre
  have hown : s.vm.findClass y.cls = some m.cls := findClass_of_methodNamed B.named
  have hl := lv_entry av (n := maxL) hlen
  rw [lg_entry_eq]
  exact body p e s m below meth c B.exec B.bytes B.returns hml B.notSynchronized hown hts hAm s.heap hP va_S.rf _ hl
section ZW
variable {p : Program} {l : Launch} {e : Env} {R : Room} {s : State} {m : MethodId} {args : Array Value} {below : List Frame} {meth : Method} {c : Code} {H : Heap} {locs : List Loc} {cells slots : Nat} {Q : State → Prop}
variable {cc : ByteArray} {pc : Nat} {ls : Array Slot} {rest : List Value} {D : va_G} {cL cI cR : ClassId} {A : Nat → Prop} {F : Nat → Nat} {n : Nat} {E : Nat → va_E} {H0 : Heap}
/-! ends -/
theorem zretL {av : List Value} {PQ : Option Value → (Nat → va_E) → Prop} {r : Int64} (hx : p.tables.exec = Jvm.exec) (hb : c.code = cc) (hr : meth.sig.returnType = some .long) (hlk : meth.locks = false) (hS : va_S A s.heap H locs) (hP : va_P D vwCl (zq_wd F n E) H) (hdg : decode cc pc = .ok (.lreturn, 1)) (hq : PQ (some (.long r)) E) :
    W p l e R s m av.toArray below meth c H locs 0 0 (zQ below D A F n av s PQ) (F0 m pc ls [.long r]) :=
  W.lret hx hb hr (fun t ht _ => ⟨⟨_, E, rfl, hq, by rw [ht]; exact hP⟩, hS.F ht⟩) hS.2.2 hdg (hlocks := hlk)
theorem zretI {av : List Value} {PQ : Option Value → (Nat → va_E) → Prop} {r : Int32} (hx : p.tables.exec = Jvm.exec) (hb : c.code = cc) (hr : meth.sig.returnType = some .int) (hlk : meth.locks = false) (hS : va_S A s.heap H locs) (hP : va_P D vwCl (zq_wd F n E) H) (hdg : decode cc pc = .ok (.ireturn, 1)) (hq : PQ (some (.int r)) E) :
    W p l e R s m av.toArray below meth c H locs 0 0 (zQ below D A F n av s PQ) (F0 m pc ls [.int r]) :=
  W.iret hx hb hr (fun t ht _ => ⟨⟨_, E, rfl, hq, by rw [ht]; exact hP⟩, hS.F ht⟩) hS.2.2 hdg (hlocks := hlk)
theorem zretZ {av : List Value} {PQ : Option Value → (Nat → va_E) → Prop} {r : Int32} (hx : p.tables.exec = Jvm.exec) (hb : c.code = cc) (hr : meth.sig.returnType = some .boolean) (hlk : meth.locks = false) (hS : va_S A s.heap H locs) (hP : va_P D vwCl (zq_wd F n E) H) (hn : narrow .boolean (.int r) = .int r) (hdg : decode cc pc = .ok (.ireturn, 1)) (hq : PQ (some (.int r)) E) :
    W p l e R s m av.toArray below meth c H locs 0 0 (zQ below D A F n av s PQ) (F0 m pc ls [.int r]) :=
  W.zret hx hb hr hn (fun t ht _ => ⟨⟨_, E, rfl, hq, by rw [ht]; exact hP⟩, hS.F ht⟩) hS.2.2 hdg (hlocks := hlk)
theorem zretV {av : List Value} {PQ : Option Value → (Nat → va_E) → Prop} (hx : p.tables.exec = Jvm.exec) (hb : c.code = cc) (hr : meth.sig.returnType = none) (hlk : meth.locks = false) (hS : va_S A s.heap H locs) (hP : va_P D vwCl (zq_wd F n E) H) (hdg : decode cc pc = .ok (.return_, 1)) (hq : PQ none E) :
    W p l e R s m av.toArray below meth c H locs 0 0 (zQ below D A F n av s PQ) (F0 m pc ls []) :=
  W.vret hx hb hr (fun t ht _ => ⟨⟨_, E, rfl, hq, by rw [ht]; exact hP⟩, hS.F ht⟩) hS.2.2 hdg (hlocks := hlk)
theorem zretA {av : List Value} {PQ : Option Value → (Nat → va_E) → Prop} {v : Value} {C : String} (hx : p.tables.exec = Jvm.exec) (hb : c.code = cc) (hr : meth.sig.returnType = some (.object C)) (hv : v = .null ∨ ∃ a, v = .ref a) (hlk : meth.locks = false) (hS : va_S A s.heap H locs) (hP : va_P D vwCl (zq_wd F n E) H) (hdg : decode cc pc = .ok (.areturn, 1)) (hq : PQ (some v) E) :
    W p l e R s m av.toArray below meth c H locs 0 0 (zQ below D A F n av s PQ) (F0 m pc ls [v]) :=
  W.aret hx hb hr (Or.inl ⟨C, rfl⟩) hv (fun t ht _ => ⟨⟨_, E, rfl, hq, by rw [ht]; exact hP⟩, hS.F ht⟩) hS.2.2 hdg (hlocks := hlk)
/-! calls -/
theorem zrun {PQ : Option Value → (Nat → va_E) → Prop} {st0 : List Value} {a : Array Value}
    (hr : va_Run p l e R s m args below meth c H locs cells slots 0 0 (F0 m pc ls st0) rest ((fun (_ : Array Value) (st : State) (oc : Outcome) (t : State) => (∃ (v : Option Value) (E' : Nat → va_E), oc = .returned v ∧ PQ v E' ∧ va_P D vwCl (zq_wd F n E') t.heap) ∧ va_F A st t) a) A) (hS : va_S A H0 H locs)
    (kk : ∀ (v : Option Value) (E' : Nat → va_E) (H1 : Heap) (locs1 : List Loc), PQ v E' → va_P D vwCl (zq_wd F n E') H1 → (∀ q : Nat, q < H.size → ¬ A q → H1[q]? = H[q]?) → va_S A H0 H1 locs1 → W p l e R s m args below meth c H1 locs1 cells slots Q (F0 m (pc + 3) ls (v.toList ++ rest))) : W p l e R s m args below meth c H locs cells slots Q (F0 m pc ls st0) := by
  intro T hT X
  obtain ⟨v, st₀, t, T', L, h0, X', hL, e1, e2, ⟨⟨v', E', hv, hp, hb⟩, hz, hk⟩, st⟩ := hr T hT X
  cases hv
  rw [h0] at hz hk
  obtain ⟨t2, a1, b1⟩ := kk v E' T'.heap (locs ++ L) hp (by rw [e1]; exact hb) (fun q h1 h2 => by rw [e1]; exact hk q h1 h2)
    ⟨Nat.le_trans hS.1 (by rw [e1]; exact hz), fun q h1 h2 => by rw [e1, hk q (Nat.lt_of_lt_of_le h1 hS.1) h2]; exact hS.2.1 q h1 h2, fun q hq => by
      rcases List.mem_append.mp hq with h | h
      · exact hS.2.2 q h
      · exact hL q h⟩ T' rfl X'
  exact ⟨t2, st t2 a1, b1⟩
theorem zblind {av : List Value} : FrameBlind (va_Pc av (fun U => zAm D cL cI cR A U ∧ va_P D vwCl (zq_wd F n E) U.heap)) :=
  fun _ _ _ _ q => ⟨q.1, zAm_blind q.2.1, q.2.2⟩
theorem zrecv {q ci : Nat} {fs : List Value} {r : vw_C} (hAm : zAm D cL cI cR A s) (hP : va_P D vwCl (zq_wd F n E) H) (hq : q < n) (hE : E q = .inr (ci, fs)) (hc : vwCl[ci]? = some r) : ∃ cell : Cell, H[F q]? = some cell ∧ cell.vm.isStatics = false ∧ s.vm.findClass r.1 = some cell.cls :=
  va_recv hAm.1 hP hc (by rw [zq_get hq, hE])
/-- a virtual call of a method whose answer and world are known -/
theorem zcallV {Ts ws ws' : List Cond} {own : String} {index fr lo k : Nat} {y : MethodName} {bytes : ByteArray} {maxL nL : Nat} {ret : Option FieldType} {q ci : Nat} {fs : List Value} {r : vw_C} {b : Nat} {As st0 : List Value} {PQ : Option Value → (Nat → va_E) → Prop}
    (hx : p.tables.exec = Jvm.exec) (hb : c.code = cc) (hml : c.maxLocals = nL) (hown : s.vm.findClass own = some m.cls) (hts : ∀ w ∈ Ts, w.before args s = true)
    (hM : zCt l y ws fr lo D cL cI cR A F n E (.ref b :: As) PQ) (hT : GoodIn Ts (wsV own index y.cls y ws)) (hw : ws = Cond.code y bytes maxL ret :: ws')
    (hd : y.cls = y.cls ∧ y.cls ≠ "java/lang/invoke/MethodHandle" ∧ y.cls ≠ "java/lang/invoke/VarHandle" ∧ (parseMethodDescriptor y.desc).map (fun d => d.parameters.length) = some k)
    (hR : fr + 1 ≤ R.frames ∧ 8 + (maxL + 11) + lo ≤ R.locals) (hbq : b = F q) (hq : q < n) (hE : E q = .inr (ci, fs)) (hc : vwCl[ci]? = some r) (hrc : r.1 = y.cls)
    (hAm : zAm D cL cI cR A s) (hP : va_P D vwCl (zq_wd F n E) H) (hS : va_S A s.heap H locs) (hn : As.length = k) (hls : ls.size = nL) (hst : st0 = As.reverse ++ .ref b :: rest) (hrest : (rest.map fun v => v.category).sum ≤ 8) (hdg : decode cc pc = .ok (.invokevirtual index, 3)) (hcs : cells ≤ R.cells ∧ slots ≤ R.slots)
    (kk : ∀ (v : Option Value) (E' : Nat → va_E) (H1 : Heap) (locs1 : List Loc), PQ v E' → va_P D vwCl (zq_wd F n E') H1 → (∀ q : Nat, q < H.size → ¬ A q → H1[q]? = H[q]?) → va_S A s.heap H1 locs1 → W p l e R s m args below meth c H1 locs1 cells slots Q (F0 m (pc + 3) ls (v.toList ++ rest))) : W p l e R s m args below meth c H locs cells slots Q (F0 m pc ls st0) := by
  subst hbq
  refine zrun (a := (Value.ref (F q) :: As).toArray) (va_runV (As := As) (rest := rest) ⟨hx, hb, hml, hown, hts⟩ hM (cwV k hts hT hw rfl rfl hd hR) ⟨zblind, by rw [← hrc]; exact zrecv hAm hP hq hE hc, fun U hU hW => ⟨rfl, zAm_call hAm hS hU hW, by rw [hU]; exact hP⟩⟩ rfl hn hls hst (lv_room hrest) hdg ⟨hcs.1, hcs.2⟩) hS kk
theorem zcallS {Ts ws ws' : List Cond} {own : String} {index fr lo k : Nat} {y : MethodName} {bytes : ByteArray} {maxL nL : Nat} {ret : Option FieldType} {As st0 : List Value} {PQ : Option Value → (Nat → va_E) → Prop}
    (hx : p.tables.exec = Jvm.exec) (hb : c.code = cc) (hml : c.maxLocals = nL) (hown : s.vm.findClass own = some m.cls) (hts : ∀ w ∈ Ts, w.before args s = true)
    (hM : zCt l y ws fr lo D cL cI cR A F n E As PQ) (hT : GoodIn Ts (va_wsS own index y ws)) (hw : ws = Cond.code y bytes maxL ret :: ws')
    (hd : y.cls ≠ "java/lang/invoke/MethodHandle" ∧ y.cls ≠ "java/lang/invoke/VarHandle" ∧ (parseMethodDescriptor y.desc).map (fun d => d.parameters.length) = some k)
    (hR : fr + 1 ≤ R.frames ∧ 8 + (maxL + 11) + lo ≤ R.locals)
    (hAm : zAm D cL cI cR A s) (hP : va_P D vwCl (zq_wd F n E) H) (hS : va_S A s.heap H locs) (hn : As.length = k) (hls : ls.size = nL) (hst : st0 = As.reverse ++ rest) (hrest : (rest.map fun v => v.category).sum ≤ 8) (hdg : decode cc pc = .ok (.invokestatic index, 3)) (hcs : cells ≤ R.cells ∧ slots ≤ R.slots)
    (kk : ∀ (v : Option Value) (E' : Nat → va_E) (H1 : Heap) (locs1 : List Loc), PQ v E' → va_P D vwCl (zq_wd F n E') H1 → (∀ q : Nat, q < H.size → ¬ A q → H1[q]? = H[q]?) → va_S A s.heap H1 locs1 → W p l e R s m args below meth c H1 locs1 cells slots Q (F0 m (pc + 3) ls (v.toList ++ rest))) : W p l e R s m args below meth c H locs cells slots Q (F0 m pc ls st0) := by
  refine zrun (a := As.toArray) (va_runS (As := As) (rest := rest) ⟨hx, hb, hml, hown, hts⟩ hM (va_cwS k hts hT hw rfl rfl hd hR) ⟨zblind, fun U hU hW => ⟨rfl, zAm_call hAm hS hU hW, by rw [hU]; exact hP⟩⟩ rfl hn hls hst (lv_room hrest) hdg ⟨hcs.1, hcs.2⟩) hS kk
theorem zcallN {Ts ws ws' : List Cond} {own host : String} {index fr lo k : Nat} {y : MethodName} {bytes : ByteArray} {maxL nL : Nat} {ret : Option FieldType} {As st0 : List Value} {PQ : Option Value → (Nat → va_E) → Prop}
    (hx : p.tables.exec = Jvm.exec) (hb : c.code = cc) (hml : c.maxLocals = nL) (hown : s.vm.findClass own = some m.cls) (hts : ∀ w ∈ Ts, w.before args s = true)
    (hM : zCt l y ws fr lo D cL cI cR A F n E As PQ) (hT : GoodIn Ts ws) (hw : ws = Cond.code y bytes maxL ret :: ws') (hnest : va_Nw (.methodLinkNest own index y host) s) (hini : (Cond.initialized y.cls).before args s = true) (hsta : (Cond.static y).before args s = true)
    (hd : y.cls ≠ "java/lang/invoke/MethodHandle" ∧ y.cls ≠ "java/lang/invoke/VarHandle" ∧ (parseMethodDescriptor y.desc).map (fun d => d.parameters.length) = some k)
    (hR : fr + 1 ≤ R.frames ∧ 8 + (maxL + 11) + lo ≤ R.locals)
    (hAm : zAm D cL cI cR A s) (hP : va_P D vwCl (zq_wd F n E) H) (hS : va_S A s.heap H locs) (hn : As.length = k) (hls : ls.size = nL) (hst : st0 = As.reverse ++ rest) (hrest : (rest.map fun v => v.category).sum ≤ 8) (hdg : decode cc pc = .ok (.invokestatic index, 3)) (hcs : cells ≤ R.cells ∧ slots ≤ R.slots)
    (kk : ∀ (v : Option Value) (E' : Nat → va_E) (H1 : Heap) (locs1 : List Loc), PQ v E' → va_P D vwCl (zq_wd F n E') H1 → (∀ q : Nat, q < H.size → ¬ A q → H1[q]? = H[q]?) → va_S A s.heap H1 locs1 → W p l e R s m args below meth c H1 locs1 cells slots Q (F0 m (pc + 3) ls (v.toList ++ rest))) : W p l e R s m args below meth c H locs cells slots Q (F0 m pc ls st0) := by
  refine zrun (a := As.toArray) (va_runSN (As := As) (rest := rest) (host := host) ⟨hx, hb, hml, hown, hts⟩ hM ⟨va_cnB k hts hT hw rfl rfl hnest hini hd hR, hsta, trivial⟩ ⟨zblind, fun U hU hW => ⟨rfl, zAm_call hAm hS hU hW, by rw [hU]; exact hP⟩⟩ rfl hn hls hst (lv_room hrest) hdg ⟨hcs.1, hcs.2⟩) hS kk
/-- the known answer and world put in -/
theorem zkn {P : Option Value → (Nat → va_E) → Heap → List Loc → Prop} {v0 : Option Value} {E0 : Nat → va_E} {H9 H8 : Heap} {B : Nat → Prop} (k : ∀ (H1 : Heap) (locs1 : List Loc), va_P D vwCl (zq_wd F n E0) H1 → va_S A H0 H1 locs1 → P v0 E0 H1 locs1) :
    ∀ (v : Option Value) (E' : Nat → va_E) (H1 : Heap) (locs1 : List Loc), (v = v0 ∧ E' = E0) → va_P D vwCl (zq_wd F n E') H1 → (∀ q : Nat, q < H9.size → ¬ B q → H1[q]? = H8[q]?) → va_S A H0 H1 locs1 → P v E' H1 locs1 := by
  intro v E' H1 locs1 hq hP _ hS
  obtain ⟨rfl, rfl⟩ := hq
  exact k H1 locs1 hP hS
/-! fields and rows -/
theorem zget {Ts : List Cond} {own C : String} {T : u_T} {N ci index q k : Nat} {fs : List Value} {v : Value} (hx : p.tables.exec = Jvm.exec) (hb : c.code = cc) (hts : ∀ w ∈ Ts, w.before args s = true) (hin : ∀ w ∈ u_ws C T N, w ∈ Ts) (hown : s.vm.findClass own = some m.cls) (hAm : zAm D cL cI cR A s) (hP : va_P D vwCl (zq_wd F n E) H)
    (hq : q < n) (hE : E q = .inr (ci, fs)) (hc : vwCl[ci]? = some (C, T, N)) (hk : k < N) (hlink : (Cond.fieldLink own index (T k).1 (T k).2.1 (T k).2.2.1).before args s = true) (hv : fs[k]? = some v) (hdg : decode cc pc = .ok (.getfield index, 3))
    (kk : W p l e R s m args below meth c H locs cells slots Q (F0 m (pc + 3) ls (v :: rest))) : W p l e R s m args below meth c H locs cells slots Q (F0 m pc ls (.ref (F q) :: rest)) :=
  va_get hx hb hts hin hown hAm.1 hP q (by rw [zq_get hq, hE]) hc k hk hlink (fun _ h => h) hv hdg kk
theorem zput {Ts : List Cond} {own C : String} {T : u_T} {N ci index q k : Nat} {fs : List Value} {v : Value} {ty : FieldType} {E' : Nat → va_E} (hx : p.tables.exec = Jvm.exec) (hb : c.code = cc) (hts : ∀ w ∈ Ts, w.before args s = true) (hin : ∀ w ∈ u_ws C T N, w ∈ Ts) (ty0 : Nat → FieldType) (hty : ∀ k, k < N → parseFieldDescriptor (T k).2.2.1 = some (ty0 k)) (hnm : ∀ a, a < N → ∀ b, b < N → a ≠ b → (T a).2.1 ≠ (T b).2.1) (hown : s.vm.findClass own = some m.cls) (hAm : zAm D cL cI cR A s) (hP : va_P D vwCl (zq_wd F n E) H) (hF : zq_F A F n) (hS : va_S A H0 H locs)
    (hq : q < n) (hE : E q = .inr (ci, fs)) (hc : vwCl[ci]? = some (C, T, N)) (hk : k < N) (hlink : (Cond.fieldLink own index (T k).1 (T k).2.1 (T k).2.2.1).before args s = true) (hfin : (T k).2.2.2 = false) (hd : parseFieldDescriptor (T k).2.2.1 = some ty) (hn : narrow ty v = v) (hfit : fits ty v = true) (hl : k < fs.length) (hdg : decode cc pc = .ok (.putfield index, 3))
    (hE' : va_up E q (.inr (ci, fs.set k v)) = E')
    (kk : ∀ (H1 : Heap) (locs1 : List Loc), va_P D vwCl (zq_wd F n E') H1 → va_S A H0 H1 locs1 → W p l e R s m args below meth c H1 locs1 cells slots Q (F0 m (pc + 3) ls rest)) : W p l e R s m args below meth c H locs cells slots Q (F0 m pc ls (v :: .ref (F q) :: rest)) := by
  refine va_put hx hb hts hin ty0 hty hnm hown hAm.1 hP (zq_D hF E) hS q (by rw [zq_get hq, hE]) hc k hk hlink (fun _ h => h) hfin hd hn hfit hl hdg (fun H1 locs1 hP1 _ hS1 => ?_)
  rw [zq_set, hE'] at hP1
  exact kk H1 locs1 hP1 hS1
theorem zlald {N q k : Nat} {f : Nat → Int64} {v : Int64} (hx : p.tables.exec = Jvm.exec) (hb : c.code = cc) (hAm : zAm D cL cI cR A s) (hP : va_P D vwCl (zq_wd F n E) H) (hq : q < n) (hE : E q = .inl (cL, N, .inr (.inl f))) (hk : k < N) (hN : N < 2 ^ 31) (hv : f k = v) (hdg : decode cc pc = .ok (.laload, 1))
    (kk : W p l e R s m args below meth c H locs cells slots Q (F0 m (pc + 1) ls (.long v :: rest))) : W p l e R s m args below meth c H locs cells slots Q (F0 m pc ls (.int (nI k) :: .ref (F q) :: rest)) := by
  refine va_lald hx hb hAm.1 hP q 0 (by rw [zq_get hq, hE]) rfl (vp_in_nI hk hN) hdg ?_
  rw [nI_clamp (by omega), hv]
  exact kk
theorem ziald {N q k : Nat} {f : Nat → Int32} {v : Int32} (hx : p.tables.exec = Jvm.exec) (hb : c.code = cc) (hAm : zAm D cL cI cR A s) (hP : va_P D vwCl (zq_wd F n E) H) (hq : q < n) (hE : E q = .inl (cI, N, .inl f)) (hk : k < N) (hN : N < 2 ^ 31) (hv : f k = v) (hdg : decode cc pc = .ok (.iaload, 1))
    (kk : W p l e R s m args below meth c H locs cells slots Q (F0 m (pc + 1) ls (.int v :: rest))) : W p l e R s m args below meth c H locs cells slots Q (F0 m pc ls (.int (nI k) :: .ref (F q) :: rest)) := by
  refine va_iald hx hb hAm.1 hP q 1 (by rw [zq_get hq, hE]) rfl (vp_in_nI hk hN) hdg ?_
  rw [nI_clamp (by omega), hv]
  exact kk
theorem zaald {N q k : Nat} {f : Nat → Option Nat} {v : Nat} (hx : p.tables.exec = Jvm.exec) (hb : c.code = cc) (hAm : zAm D cL cI cR A s) (hP : va_P D vwCl (zq_wd F n E) H) (hq : q < n) (hE : E q = .inl (cR, N, .inr (.inr (.inr (.inr f))))) (hk : k < N) (hN : N < 2 ^ 31) (hv : f k = some v) (hdg : decode cc pc = .ok (.aaload, 1))
    (kk : W p l e R s m args below meth c H locs cells slots Q (F0 m (pc + 1) ls (.ref v :: rest))) : W p l e R s m args below meth c H locs cells slots Q (F0 m pc ls (.int (nI k) :: .ref (F q) :: rest)) := by
  refine va_aldq hx hb hAm.1 hP q 2 (by rw [zq_get hq, hE]) rfl (vp_in_nI hk hN) hdg ?_
  rw [nI_clamp (by omega), hv]
  exact kk
theorem zlast {N q k : Nat} {f : Nat → Int64} {x : Int64} {E' : Nat → va_E} (hx : p.tables.exec = Jvm.exec) (hb : c.code = cc) (hAm : zAm D cL cI cR A s) (hP : va_P D vwCl (zq_wd F n E) H) (hF : zq_F A F n) (hS : va_S A H0 H locs) (hq : q < n) (hE : E q = .inl (cL, N, .inr (.inl f))) (hk : k < N) (hN : N < 2 ^ 31) (hdg : decode cc pc = .ok (.lastore, 1)) (hE' : va_up E q (.inl (cL, N, .inr (.inl (vp_updL f k x)))) = E')
    (kk : ∀ (H1 : Heap) (locs1 : List Loc), va_P D vwCl (zq_wd F n E') H1 → va_S A H0 H1 locs1 → W p l e R s m args below meth c H1 locs1 cells slots Q (F0 m (pc + 1) ls rest)) : W p l e R s m args below meth c H locs cells slots Q (F0 m pc ls (.long x :: .int (nI k) :: .ref (F q) :: rest)) := by
  refine va_last hx hb hAm.1 hP (zq_D hF E) hS q 0 (by rw [zq_get hq, hE]) rfl (vp_in_nI hk hN) hdg (fun H1 locs1 hP1 _ hS1 => ?_)
  rw [nI_clamp (by omega), zq_set, hE'] at hP1
  exact kk H1 locs1 hP1 hS1
theorem ziast {N q k : Nat} {f : Nat → Int32} {x : Int32} {E' : Nat → va_E} (hx : p.tables.exec = Jvm.exec) (hb : c.code = cc) (hAm : zAm D cL cI cR A s) (hP : va_P D vwCl (zq_wd F n E) H) (hF : zq_F A F n) (hS : va_S A H0 H locs) (hq : q < n) (hE : E q = .inl (cI, N, .inl f)) (hk : k < N) (hN : N < 2 ^ 31) (hdg : decode cc pc = .ok (.iastore, 1)) (hE' : va_up E q (.inl (cI, N, .inl (upd f k x))) = E')
    (kk : ∀ (H1 : Heap) (locs1 : List Loc), va_P D vwCl (zq_wd F n E') H1 → va_S A H0 H1 locs1 → W p l e R s m args below meth c H1 locs1 cells slots Q (F0 m (pc + 1) ls rest)) : W p l e R s m args below meth c H locs cells slots Q (F0 m pc ls (.int x :: .int (nI k) :: .ref (F q) :: rest)) := by
  refine va_iast hx hb hAm.1 hP (zq_D hF E) hS q 1 (by rw [zq_get hq, hE]) rfl (vp_in_nI hk hN) hdg (fun H1 locs1 hP1 _ hS1 => ?_)
  rw [nI_clamp (by omega), zq_set, hE'] at hP1
  exact kk H1 locs1 hP1 hS1
theorem zalen {N q t0 : Nat} {cA : ClassId} {x : vp_A} {ty : FieldType} (hx : p.tables.exec = Jvm.exec) (hb : c.code = cc) (hAm : zAm D cL cI cR A s) (hP : va_P D vwCl (zq_wd F n E) H) (hq : q < n) (hE : E q = .inl (cA, x)) (ht : [(cL, FieldType.long), (cI, .int), (cR, .object RX1)][t0]? = some (cA, ty)) (hv : x.1 = N) (hdg : decode cc pc = .ok (.arraylength, 1))
    (kk : W p l e R s m args below meth c H locs cells slots Q (F0 m (pc + 1) ls (.int (nI N) :: rest))) : W p l e R s m args below meth c H locs cells slots Q (F0 m pc ls (.ref (F q) :: rest)) :=
  va_alen hx hb hAm.1 hP q t0 (by rw [zq_get hq, hE]) ht (by rw [hv]; rfl) hdg kk
/-! numbers -/
theorem ziadd {a b d : Nat} (hx : p.tables.exec = Jvm.exec) (hb : c.code = cc) (h : a + b = d) (hdg : decode cc pc = .ok (.iadd, 1)) (k : W p l e R s m args below meth c H locs cells slots Q (F0 m (pc + 1) ls (.int (nI d) :: rest))) : W p l e R s m args below meth c H locs cells slots Q (F0 m pc ls (.int (nI b) :: .int (nI a) :: rest)) := by
  refine lv_iadd hx hb hdg ?_
  rw [nI_add, h]; exact k
theorem zisub {a b d : Nat} (hx : p.tables.exec = Jvm.exec) (hb : c.code = cc) (h : a = b + d) (hdg : decode cc pc = .ok (.isub, 1)) (k : W p l e R s m args below meth c H locs cells slots Q (F0 m (pc + 1) ls (.int (nI d) :: rest))) : W p l e R s m args below meth c H locs cells slots Q (F0 m pc ls (.int (nI b) :: .int (nI a) :: rest)) := by
  refine lv_isub hx hb hdg ?_
  rw [pk_sub (by omega), show a - b = d by omega]; exact k
theorem zimul {a b d : Nat} (hx : p.tables.exec = Jvm.exec) (hb : c.code = cc) (h : a * b = d) (hdg : decode cc pc = .ok (.imul, 1)) (k : W p l e R s m args below meth c H locs cells slots Q (F0 m (pc + 1) ls (.int (nI d) :: rest))) : W p l e R s m args below meth c H locs cells slots Q (F0 m pc ls (.int (nI b) :: .int (nI a) :: rest)) := by
  refine lv_imul hx hb hdg ?_
  rw [pk_mul, h]; exact k
theorem zi2l {a : Nat} (hx : p.tables.exec = Jvm.exec) (hb : c.code = cc) (ha : a < 2147483648) (hdg : decode cc pc = .ok (.i2l, 1)) (k : W p l e R s m args below meth c H locs cells slots Q (F0 m (pc + 1) ls (.long (lN a) :: rest))) : W p l e R s m args below meth c H locs cells slots Q (F0 m pc ls (.int (nI a) :: rest)) :=
  lv_i2l hx hb hdg (nI_l ha) k
/-! branches on counted numbers -/
variable {a b tgt : Nat} {off : Int}
theorem zi_lt (hx : p.tables.exec = Jvm.exec) (hb : c.code = cc) (hdg : decode cc pc = .ok (.if_icmp .lt off, 3)) (ht : (pc : Int) + off = (tgt : Int)) (ha : a < 2147483648) (hb2 : b < 2147483648) (kt : a < b → W p l e R s m args below meth c H locs cells slots Q (F0 m tgt ls rest)) (kf : b ≤ a → W p l e R s m args below meth c H locs cells slots Q (F0 m (pc + 3) ls rest)) : W p l e R s m args below meth c H locs cells slots Q (F0 m pc ls (.int (nI b) :: .int (nI a) :: rest)) :=
  lv_icmp_lt hx hb hdg ht (fun h => kt ((nI_ltI ha hb2).mp h)) (fun h => kf (Nat.le_of_not_lt fun g => h ((nI_ltI ha hb2).mpr g)))
theorem zi_ge (hx : p.tables.exec = Jvm.exec) (hb : c.code = cc) (hdg : decode cc pc = .ok (.if_icmp .ge off, 3)) (ht : (pc : Int) + off = (tgt : Int)) (ha : a < 2147483648) (hb2 : b < 2147483648) (kt : b ≤ a → W p l e R s m args below meth c H locs cells slots Q (F0 m tgt ls rest)) (kf : a < b → W p l e R s m args below meth c H locs cells slots Q (F0 m (pc + 3) ls rest)) : W p l e R s m args below meth c H locs cells slots Q (F0 m pc ls (.int (nI b) :: .int (nI a) :: rest)) :=
  lv_icmp_ge hx hb hdg ht (fun h => kt ((nI_leI hb2 ha).mp h)) (fun h => kf (Nat.lt_of_not_le fun g => h ((nI_leI hb2 ha).mpr g)))
theorem zi_gt (hx : p.tables.exec = Jvm.exec) (hb : c.code = cc) (hdg : decode cc pc = .ok (.if_icmp .gt off, 3)) (ht : (pc : Int) + off = (tgt : Int)) (ha : a < 2147483648) (hb2 : b < 2147483648) (kt : b < a → W p l e R s m args below meth c H locs cells slots Q (F0 m tgt ls rest)) (kf : a ≤ b → W p l e R s m args below meth c H locs cells slots Q (F0 m (pc + 3) ls rest)) : W p l e R s m args below meth c H locs cells slots Q (F0 m pc ls (.int (nI b) :: .int (nI a) :: rest)) :=
  lv_icmp_gt hx hb hdg ht (fun h => kt ((nI_ltI hb2 ha).mp h)) (fun h => kf (Nat.le_of_not_lt fun g => h ((nI_ltI hb2 ha).mpr g)))
theorem zi_le (hx : p.tables.exec = Jvm.exec) (hb : c.code = cc) (hdg : decode cc pc = .ok (.if_icmp .le off, 3)) (ht : (pc : Int) + off = (tgt : Int)) (ha : a < 2147483648) (hb2 : b < 2147483648) (kt : a ≤ b → W p l e R s m args below meth c H locs cells slots Q (F0 m tgt ls rest)) (kf : b < a → W p l e R s m args below meth c H locs cells slots Q (F0 m (pc + 3) ls rest)) : W p l e R s m args below meth c H locs cells slots Q (F0 m pc ls (.int (nI b) :: .int (nI a) :: rest)) :=
  lv_icmp_le hx hb hdg ht (fun h => kt ((nI_leI ha hb2).mp h)) (fun h => kf (Nat.lt_of_not_le fun g => h ((nI_leI ha hb2).mpr g)))
theorem zi_eq (hx : p.tables.exec = Jvm.exec) (hb : c.code = cc) (hdg : decode cc pc = .ok (.if_icmp .eq off, 3)) (ht : (pc : Int) + off = (tgt : Int)) (ha : a < 2147483648) (hb2 : b < 2147483648) (kt : a = b → W p l e R s m args below meth c H locs cells slots Q (F0 m tgt ls rest)) (kf : ¬ a = b → W p l e R s m args below meth c H locs cells slots Q (F0 m (pc + 3) ls rest)) : W p l e R s m args below meth c H locs cells slots Q (F0 m pc ls (.int (nI b) :: .int (nI a) :: rest)) :=
  lv_icmp_eq hx hb hdg ht (fun h => kt ((nI_eq ha hb2).mp h)) (fun h => kf (fun g => h ((nI_eq ha hb2).mpr g)))
theorem zi_ne (hx : p.tables.exec = Jvm.exec) (hb : c.code = cc) (hdg : decode cc pc = .ok (.if_icmp .ne off, 3)) (ht : (pc : Int) + off = (tgt : Int)) (ha : a < 2147483648) (hb2 : b < 2147483648) (kt : ¬ a = b → W p l e R s m args below meth c H locs cells slots Q (F0 m tgt ls rest)) (kf : a = b → W p l e R s m args below meth c H locs cells slots Q (F0 m (pc + 3) ls rest)) : W p l e R s m args below meth c H locs cells slots Q (F0 m pc ls (.int (nI b) :: .int (nI a) :: rest)) :=
  lv_icmp_ne hx hb hdg ht (fun h => kt (fun g => h ((nI_eq ha hb2).mpr g))) (fun h => kf ((nI_eq ha hb2).mp h))
theorem zf_lt (hx : p.tables.exec = Jvm.exec) (hb : c.code = cc) (hdg : decode cc pc = .ok (.ifCond .lt off, 3)) (ht : (pc : Int) + off = (tgt : Int)) (ha : a < 2147483648) (kf : W p l e R s m args below meth c H locs cells slots Q (F0 m (pc + 3) ls rest)) : W p l e R s m args below meth c H locs cells slots Q (F0 m pc ls (.int (nI a) :: rest)) :=
  lv_if_lt hx hb hdg ht (fun h => absurd h (nI_pos ha)) (fun _ => kf)
theorem zf_ge (hx : p.tables.exec = Jvm.exec) (hb : c.code = cc) (hdg : decode cc pc = .ok (.ifCond .ge off, 3)) (ht : (pc : Int) + off = (tgt : Int)) (ha : a < 2147483648) (kt : W p l e R s m args below meth c H locs cells slots Q (F0 m tgt ls rest)) : W p l e R s m args below meth c H locs cells slots Q (F0 m pc ls (.int (nI a) :: rest)) :=
  lv_if_ge hx hb hdg ht (fun _ => kt) (fun h => absurd (nI_pos' ha) h)
theorem zf_eq (hx : p.tables.exec = Jvm.exec) (hb : c.code = cc) (hdg : decode cc pc = .ok (.ifCond .eq off, 3)) (ht : (pc : Int) + off = (tgt : Int)) (ha : a < 2147483648) (kt : a = 0 → W p l e R s m args below meth c H locs cells slots Q (F0 m tgt ls rest)) (kf : 0 < a → W p l e R s m args below meth c H locs cells slots Q (F0 m (pc + 3) ls rest)) : W p l e R s m args below meth c H locs cells slots Q (F0 m pc ls (.int (nI a) :: rest)) :=
  lv_if_eq hx hb hdg ht (fun h => kt (Classical.byContradiction fun g => nI_ne0 (Nat.pos_of_ne_zero g) ha h)) (fun h => kf (Nat.pos_of_ne_zero fun g => h (by rw [g]; exact nI_0)))
theorem zf_ne (hx : p.tables.exec = Jvm.exec) (hb : c.code = cc) (hdg : decode cc pc = .ok (.ifCond .ne off, 3)) (ht : (pc : Int) + off = (tgt : Int)) (ha : a < 2147483648) (kt : 0 < a → W p l e R s m args below meth c H locs cells slots Q (F0 m tgt ls rest)) (kf : a = 0 → W p l e R s m args below meth c H locs cells slots Q (F0 m (pc + 3) ls rest)) : W p l e R s m args below meth c H locs cells slots Q (F0 m pc ls (.int (nI a) :: rest)) :=
  lv_if_ne hx hb hdg ht (fun h => kt (Nat.pos_of_ne_zero fun g => h (by rw [g]; exact nI_0))) (fun h => kf (Classical.byContradiction fun g => nI_ne0 (Nat.pos_of_ne_zero g) ha h))
theorem zf_le (hx : p.tables.exec = Jvm.exec) (hb : c.code = cc) (hdg : decode cc pc = .ok (.ifCond .le off, 3)) (ht : (pc : Int) + off = (tgt : Int)) (ha : a < 2147483648) (kt : a = 0 → W p l e R s m args below meth c H locs cells slots Q (F0 m tgt ls rest)) (kf : 0 < a → W p l e R s m args below meth c H locs cells slots Q (F0 m (pc + 3) ls rest)) : W p l e R s m args below meth c H locs cells slots Q (F0 m pc ls (.int (nI a) :: rest)) :=
  lv_if_le hx hb hdg ht (fun h => kt (Classical.byContradiction fun g => nI_nle (Nat.pos_of_ne_zero g) ha h)) (fun h => kf (Nat.pos_of_ne_zero fun g => h (by rw [g, nI_0]; decide)))
theorem zf_gt (hx : p.tables.exec = Jvm.exec) (hb : c.code = cc) (hdg : decode cc pc = .ok (.ifCond .gt off, 3)) (ht : (pc : Int) + off = (tgt : Int)) (ha : a < 2147483648) (kt : 0 < a → W p l e R s m args below meth c H locs cells slots Q (F0 m tgt ls rest)) (kf : a = 0 → W p l e R s m args below meth c H locs cells slots Q (F0 m (pc + 3) ls rest)) : W p l e R s m args below meth c H locs cells slots Q (F0 m pc ls (.int (nI a) :: rest)) :=
  lv_if_gt hx hb hdg ht (fun h => kt (Nat.pos_of_ne_zero fun g => by rw [g, nI_0] at h; exact absurd h (by decide))) (fun h => kf (Classical.byContradiction fun g => h (by
    have h1 := nI_nle (Nat.pos_of_ne_zero g) ha
    rw [Int32.le_iff_toInt_le] at h1
    rw [Int32.lt_iff_toInt_lt]
    omega)))
/-! a compare of longs and the branch behind it -/
variable {x y : Int64}
theorem zl_eq (hx : p.tables.exec = Jvm.exec) (hb : c.code = cc) (hdc : decode cc pc = .ok (.lcmp, 1)) (hdg : decode cc (pc + 1) = .ok (.ifCond .eq off, 3)) (ht : ((pc + 1 : Nat) : Int) + off = (tgt : Int)) (kt : x = y → W p l e R s m args below meth c H locs cells slots Q (F0 m tgt ls rest)) (kf : ¬ x = y → W p l e R s m args below meth c H locs cells slots Q (F0 m (pc + 1 + 3) ls rest)) : W p l e R s m args below meth c H locs cells slots Q (F0 m pc ls (.long y :: .long x :: rest)) :=
  W.lcmp hx hb hdc (lv_if_eq hx hb hdg ht (fun h => kt ((lg_cmp_eq x y).mp h)) (fun h => kf (fun g => h ((lg_cmp_eq x y).mpr g))))
theorem zl_ne (hx : p.tables.exec = Jvm.exec) (hb : c.code = cc) (hdc : decode cc pc = .ok (.lcmp, 1)) (hdg : decode cc (pc + 1) = .ok (.ifCond .ne off, 3)) (ht : ((pc + 1 : Nat) : Int) + off = (tgt : Int)) (kt : ¬ x = y → W p l e R s m args below meth c H locs cells slots Q (F0 m tgt ls rest)) (kf : x = y → W p l e R s m args below meth c H locs cells slots Q (F0 m (pc + 1 + 3) ls rest)) : W p l e R s m args below meth c H locs cells slots Q (F0 m pc ls (.long y :: .long x :: rest)) :=
  W.lcmp hx hb hdc (lv_if_ne hx hb hdg ht (fun h => kt (fun g => h ((lg_cmp_eq x y).mpr g))) (fun h => kf ((lg_cmp_eq x y).mp h)))
theorem zl_lt (hx : p.tables.exec = Jvm.exec) (hb : c.code = cc) (hdc : decode cc pc = .ok (.lcmp, 1)) (hdg : decode cc (pc + 1) = .ok (.ifCond .lt off, 3)) (ht : ((pc + 1 : Nat) : Int) + off = (tgt : Int)) (kt : x < y → W p l e R s m args below meth c H locs cells slots Q (F0 m tgt ls rest)) (kf : ¬ x < y → W p l e R s m args below meth c H locs cells slots Q (F0 m (pc + 1 + 3) ls rest)) : W p l e R s m args below meth c H locs cells slots Q (F0 m pc ls (.long y :: .long x :: rest)) :=
  W.lcmp hx hb hdc (lv_if_lt hx hb hdg ht (fun h => kt ((lg_cmp_lt x y).mp h)) (fun h => kf (fun g => h ((lg_cmp_lt x y).mpr g))))
theorem zl_ge (hx : p.tables.exec = Jvm.exec) (hb : c.code = cc) (hdc : decode cc pc = .ok (.lcmp, 1)) (hdg : decode cc (pc + 1) = .ok (.ifCond .ge off, 3)) (ht : ((pc + 1 : Nat) : Int) + off = (tgt : Int)) (kt : y ≤ x → W p l e R s m args below meth c H locs cells slots Q (F0 m tgt ls rest)) (kf : ¬ y ≤ x → W p l e R s m args below meth c H locs cells slots Q (F0 m (pc + 1 + 3) ls rest)) : W p l e R s m args below meth c H locs cells slots Q (F0 m pc ls (.long y :: .long x :: rest)) :=
  W.lcmp hx hb hdc (lv_if_ge hx hb hdg ht (fun h => kt ((lg_cmp_ge x y).mp h)) (fun h => kf (fun g => h ((lg_cmp_ge x y).mpr g))))
theorem zl_gt (hx : p.tables.exec = Jvm.exec) (hb : c.code = cc) (hdc : decode cc pc = .ok (.lcmp, 1)) (hdg : decode cc (pc + 1) = .ok (.ifCond .gt off, 3)) (ht : ((pc + 1 : Nat) : Int) + off = (tgt : Int)) (kt : y < x → W p l e R s m args below meth c H locs cells slots Q (F0 m tgt ls rest)) (kf : ¬ y < x → W p l e R s m args below meth c H locs cells slots Q (F0 m (pc + 1 + 3) ls rest)) : W p l e R s m args below meth c H locs cells slots Q (F0 m pc ls (.long y :: .long x :: rest)) :=
  W.lcmp hx hb hdc (lv_if_gt hx hb hdg ht (fun h => kt ((lg_cmp_gt x y).mp h)) (fun h => kf (fun g => h ((lg_cmp_gt x y).mpr g))))
theorem zl_le (hx : p.tables.exec = Jvm.exec) (hb : c.code = cc) (hdc : decode cc pc = .ok (.lcmp, 1)) (hdg : decode cc (pc + 1) = .ok (.ifCond .le off, 3)) (ht : ((pc + 1 : Nat) : Int) + off = (tgt : Int)) (kt : x ≤ y → W p l e R s m args below meth c H locs cells slots Q (F0 m tgt ls rest)) (kf : ¬ x ≤ y → W p l e R s m args below meth c H locs cells slots Q (F0 m (pc + 1 + 3) ls rest)) : W p l e R s m args below meth c H locs cells slots Q (F0 m pc ls (.long y :: .long x :: rest)) :=
  W.lcmp hx hb hdc (lv_if_le hx hb hdg ht (fun h => kt ((lg_cmp_le x y).mp h)) (fun h => kf (fun g => h ((lg_cmp_le x y).mpr g))))
end ZW
theorem zinc {a b : Nat} {d : Int} (h : (a : Int) + d = (b : Int)) : nI a + Int32.ofInt d = nI b := by
  have e : ∀ n : Nat, nI n = Int32.ofInt (n : Int) := fun n => (Int32.ofInt_eq_ofNat (n := n)).symm ▸ rfl
  rw [e, e, ← Int32.ofInt_add, h]
end
section
/-! the numbers that both sides compute -/
def zabs (x : Int64) : Int64 := if 0 < x then x else -x
def zmax (x y : Int64) : Int64 := if y < x then x else y
/-- the quotient rounded down, for a divisor above 0 -/
def zfl (v n : Int64) : Int64 := if v < v / n * n then v / n - 1 else v / n
/-- the nearest whole number to a quotient -/
def zR (v n : Int64) : Int64 := if 2 * (v - zfl v n * n) < n then zfl v n else zfl v n + 1
abbrev zin (a b : Int) (s : Int32) : Prop := a ≤ s.toInt ∧ s.toInt ≤ b
abbrev zbN (P : Prop) [Decidable P] : Nat := if P then 1 else 0
theorem zin_nI {a k : Nat} (h : k ≤ a) (ha : a < 2147483648) : zin 0 (a : Int) (nI k) := by
  unfold zin
  rw [nI_toInt (by omega)]
  omega
theorem zin_nat {a : Nat} {s : Int32} (h : zin 0 (a : Int) s) : ∃ k, k ≤ a ∧ s = nI k := by
  obtain ⟨h1, h2⟩ := h
  have h3 : ¬ s < 0 := by
    rw [Int32.lt_iff_toInt_lt]
    show ¬ s.toInt < 0
    omega
  obtain ⟨j, hj, rfl⟩ := nI_of h3
  rw [nI_toInt hj] at h2
  exact ⟨j, by omega, rfl⟩
theorem zo0 {n l m : Int32} {a b : Int} (hl : l.toInt = a) (hm : m.toInt = b) (h : zin a b n) : 0 = zbN (n < l ∨ m < n) := by
  unfold zbN
  rw [if_neg]
  rw [Int32.lt_iff_toInt_lt, Int32.lt_iff_toInt_lt]
  obtain ⟨h1, h2⟩ := h
  omega
theorem zo1 {n l m : Int32} {a b : Int} (hl : l.toInt = a) (hm : m.toInt = b) (h : ¬ zin a b n) : 1 = zbN (n < l ∨ m < n) := by
  unfold zbN
  rw [if_pos]
  rw [Int32.lt_iff_toInt_lt, Int32.lt_iff_toInt_lt]
  unfold zin at h
  omega
theorem zn1 {n : Int32} {l m : Int64} {a b : Int} (hl : l.toInt = a) (hm : m.toInt = b) (h : zin a b n) : 1 = zbN (l ≤ n.toInt64 ∧ n.toInt64 ≤ m) := by
  unfold zbN
  rw [if_pos]
  rw [Int64.le_iff_toInt_le, Int64.le_iff_toInt_le, Int32.toInt_toInt64, hl, hm]
  exact h
theorem zn0 {n : Int32} {l m : Int64} {a b : Int} (hl : l.toInt = a) (hm : m.toInt = b) (h : ¬ zin a b n) : 0 = zbN (l ≤ n.toInt64 ∧ n.toInt64 ≤ m) := by
  unfold zbN
  rw [if_neg]
  rw [Int64.le_iff_toInt_le, Int64.le_iff_toInt_le, Int32.toInt_toInt64, hl, hm]
  exact h
/-- the value of a series: from the coefficient k down -/
def zclen (c : Nat → Int64) (x : Int64) : Nat → Int64 → Int64 → Int64
  | 0, b, d => c 0 + zR (x * b) 1048576 - d
  | k + 1, b, d => zclen c x k (c (k + 1) + zR (2 * x * b) 1048576 - d) b
def zval (c : Nat → Int64) (n : Nat) (x : Int64) : Int64 := zclen c x n 0 0
/-- the degree when the coefficients above n are cut off -/
def ztop (f : Nat → Int64) : Nat → Nat
  | 0 => 0
  | n + 1 => if f (n + 1) = 0 then ztop f n else n + 1
theorem ztop_le (f : Nat → Int64) (n : Nat) : ztop f n ≤ n := by
  induction n with
  | zero => exact Nat.le_refl _
  | succ n ih =>
    unfold ztop
    split
    · omega
    · omega
/-- is a coefficient below n too large -/
def zbig (f : Nat → Int64) : Nat → Bool
  | 0 => false
  | n + 1 => zbig f n || decide (268435456 < zabs (f n))
/-- what is in the way of a series -/
def zerr (f : Nat → Int64) (n m : Nat) : Int64 := if 24 < n then -9000000000000000002 else if zbig f m = true then -9000000000000000003 else 0
end
section
/-! leaves: numbers alone -/
theorem zneg_iff (x : Int64) : x < 0 ↔ x.toInt < 0 := by
  rw [Int64.lt_iff_toInt_lt]
  rfl
theorem zxor_neg {v d : Int64} (hd : 0 < d) : (v ^^^ d) < 0 ↔ v < 0 := by
  have h1 : d.toBitVec.msb = false := by
    rw [Int64.lt_iff_toInt_lt] at hd
    have h2 : (0 : Int64).toInt = 0 := rfl
    rw [h2] at hd
    rw [BitVec.msb_eq_toInt]
    have h3 : d.toBitVec.toInt = d.toInt := rfl
    rw [h3]
    simp
    omega
  have e1 : ∀ x : Int64, x < 0 ↔ x.toBitVec.msb = true := by
    intro x
    rw [zneg_iff, BitVec.msb_eq_toInt]
    have h3 : x.toBitVec.toInt = x.toInt := rfl
    rw [h3]
    simp
  rw [e1, e1, Int64.toBitVec_xor, BitVec.msb_xor, h1]
  simp
theorem zint_tdiv (v d : Int) (hd : 0 < d) : (0 ≤ v → 0 ≤ v.tdiv d ∧ v.tdiv d ≤ v ∧ 0 ≤ v.tdiv d * d ∧ v.tdiv d * d ≤ v) ∧ (v < 0 → v ≤ v.tdiv d ∧ v.tdiv d ≤ 0 ∧ v ≤ v.tdiv d * d ∧ v.tdiv d * d ≤ 0) := by
  have key : ∀ w : Int, 0 ≤ w → 0 ≤ w.tdiv d ∧ w.tdiv d ≤ w ∧ 0 ≤ w.tdiv d * d ∧ w.tdiv d * d ≤ w := by
    intro w hw
    have h1 : 0 ≤ w.tdiv d := Int.tdiv_nonneg hw (Int.le_of_lt hd)
    have h2 : w.tdiv d ≤ w := Int.tdiv_le_self d hw
    have h3 : d * w.tdiv d ≤ w := Int.mul_tdiv_self_le hw
    have h4 : 0 ≤ w.tdiv d * d := Int.mul_nonneg h1 (Int.le_of_lt hd)
    rw [Int.mul_comm] at h3
    exact ⟨h1, h2, h4, h3⟩
  refine ⟨key v, fun hv => ?_⟩
  have h := key (-v) (by omega)
  rw [Int.neg_tdiv] at h
  have e : -(v.tdiv d) * d = -(v.tdiv d * d) := Int.neg_mul _ _
  rw [e] at h
  omega
theorem zdiv_int {v d : Int64} (hd : 0 < d) : (v / d * d).toInt = v.toInt.tdiv d.toInt * d.toInt := by
  have hd' : 0 < d.toInt := by
    rw [Int64.lt_iff_toInt_lt] at hd
    exact hd
  have hv1 := Int64.le_toInt v
  have hv2 := Int64.toInt_lt v
  have h := zint_tdiv v.toInt d.toInt hd'
  have e1 : (v / d).toInt = v.toInt.tdiv d.toInt := by
    rw [Int64.toInt_div]
    apply Int.bmod_eq_of_le <;> omega
  rw [Int64.toInt_mul, e1]
  apply Int.bmod_eq_of_le <;> omega
theorem zfl_pos {v d : Int64} (hd : 0 < d) (hv : ¬ v < 0) : zfl v d = v / d := by
  have hd' : 0 < d.toInt := by
    rw [Int64.lt_iff_toInt_lt] at hd
    exact hd
  rw [zneg_iff] at hv
  have h := zint_tdiv v.toInt d.toInt hd'
  unfold zfl
  rw [if_neg]
  rw [Int64.lt_iff_toInt_lt, zdiv_int hd]
  omega
theorem zfl_neg {v d : Int64} (hd : 0 < d) (hv : v < 0) (h : ¬ v / d * d = v) : zfl v d = v / d - 1 := by
  have hd' : 0 < d.toInt := by
    rw [Int64.lt_iff_toInt_lt] at hd
    exact hd
  rw [zneg_iff] at hv
  have h2 := zint_tdiv v.toInt d.toInt hd'
  have h3 : ¬ (v / d * d).toInt = v.toInt := fun e => h (Int64.toInt_inj.mp e)
  rw [zdiv_int hd] at h3
  unfold zfl
  rw [if_pos]
  rw [Int64.lt_iff_toInt_lt, zdiv_int hd]
  omega
theorem zfl_eq {v d : Int64} (h : v / d * d = v) : zfl v d = v / d := by
  unfold zfl
  rw [if_neg]
  rw [h]
  exact Int64.lt_irrefl
theorem zabs_ge {x : Int64} (h : 0 ≤ x) : zabs x = x := by
  unfold zabs
  split
  · rfl
  · rename_i h1
    have h2 : x = 0 := Int64.le_antisymm (Int64.not_lt.mp h1) h
    rw [h2]; rfl
theorem zabs_lt {x : Int64} (h : x < 0) : zabs x = -x := by
  unfold zabs
  rw [if_neg]
  intro h1
  exact Int64.lt_irrefl (Int64.lt_trans h h1)

set_option maxHeartbeats 4000000 in
set_option maxRecDepth 100000 in
theorem kX2_isOutside (l : Launch) (D : va_G) (cL cI cR : ClassId) (A : Nat → Prop) (F : Nat → Nat) (n : Nat) (E : Nat → va_E) (n1 l1 m1 : Int32) (b : Nat) (hv : b = zbN (n1 < l1 ∨ m1 < n1)) : zCt l yX2_isOutside wsX2_isOutside 0 0 D cL cI cR A F n E [.int n1, .int l1, .int m1] (fun v2 E2 => v2 = (some (.int (nI b))) ∧ E2 = E) := by
  refine zStart (cc := cX2_isOutside) (maxL := 3) (ret := (some .boolean)) (by decide +kernel) rfl (Nat.le_of_ble_eq_true rfl) ?_
  intro p e s m below meth c hx hb hr hml hlk hown hts hAm H hP hS ls hl
  have hown : s.vm.findClass RX2 = some m.cls := hown
  have hl : lv_has ls 3 [(0, .int n1), (1, .int l1), (2, .int m1)] := hl
  refine lv_iload_n hx hb dX2_isOutside_0 rfl (lv_at hl 0 rfl) ?_
  refine lv_iload_n hx hb dX2_isOutside_1 rfl (lv_at hl 1 rfl) ?_
  refine lv_icmp_lt (tgt := 10) hx hb dX2_isOutside_2 (by decide) (fun c1 => ?_) (fun c1 => ?_)
  ·
    refine lv_iconst (v := nI 1) hx hb dX2_isOutside_10 (by decide +kernel) ?_
    refine lv_goto (tgt := 15) hx hb dX2_isOutside_11 (by decide) ?_
    exact zretZ hx hb hr hlk hS hP (by first | rfl | (rw [hv]; unfold zbN; split <;> rfl)) dX2_isOutside_15 ⟨by rw [hv]; unfold zbN; rw [if_pos (Or.inl c1)], rfl⟩
  ·
    refine lv_iload_n hx hb dX2_isOutside_5 rfl (lv_at hl 0 rfl) ?_
    refine lv_iload_n hx hb dX2_isOutside_6 rfl (lv_at hl 2 rfl) ?_
    refine lv_icmp_le (tgt := 14) hx hb dX2_isOutside_7 (by decide) (fun c2 => ?_) (fun c2 => ?_)
    ·
      refine lv_iconst (v := nI 0) hx hb dX2_isOutside_14 (by decide +kernel) ?_
      exact zretZ hx hb hr hlk hS hP (by first | rfl | (rw [hv]; unfold zbN; split <;> rfl)) dX2_isOutside_15 ⟨by rw [hv]; unfold zbN; rw [if_neg (fun h => h.elim c1 (Int32.not_lt.mpr c2))], rfl⟩
    ·
      refine lv_iconst (v := nI 1) hx hb dX2_isOutside_10 (by decide +kernel) ?_
      refine lv_goto (tgt := 15) hx hb dX2_isOutside_11 (by decide) ?_
      exact zretZ hx hb hr hlk hS hP (by first | rfl | (rw [hv]; unfold zbN; split <;> rfl)) dX2_isOutside_15 ⟨by rw [hv]; unfold zbN; rw [if_pos (Or.inr (Int32.not_le.mp c2))], rfl⟩

set_option maxHeartbeats 4000000 in
set_option maxRecDepth 100000 in
theorem kJ9_floorDiv_f86c9 (l : Launch) (D : va_G) (cL cI cR : ClassId) (A : Nat → Prop) (F : Nat → Nat) (n : Nat) (E : Nat → va_E) (v0 d0 : Int64) (hd : 0 < d0) : zCt l yJ9_floorDiv_f86c9 wsJ9_floorDiv_f86c9 0 0 D cL cI cR A F n E [.long v0, .long d0] (fun v2 E2 => v2 = (some (.long (zfl v0 d0))) ∧ E2 = E) := by
  refine zStartF (cc := cJ9_floorDiv_f86c9) (maxL := 6) (ret := (some .long)) (by decide +kernel) rfl (Nat.le_of_ble_eq_true rfl) ?_
  intro p e s m below meth c hx hb hr hml hlk hown hts hAm H hP hS ls hl
  have hown : s.vm.findClass RJ9 = some m.cls := hown
  have hl : lv_has ls 6 [(0, .long v0), (2, .long d0)] := hl
  refine lv_lload_n hx hb dJ9_floorDiv_f86c9_0 rfl (lv_at hl 0 rfl) ?_
  refine lv_lload_n hx hb dJ9_floorDiv_f86c9_1 rfl (lv_at hl 1 rfl) ?_
  refine lv_ldiv hx hb dJ9_floorDiv_f86c9_2 (fun h => absurd hd (by rw [h]; exact Int64.lt_irrefl)) ?_
  refine lv_lstore (lv' := [(4, .long (v0 / d0)), (0, .long v0), (2, .long d0)]) hx hb dJ9_floorDiv_f86c9_3 hl (by decide) rfl (fun ls hl => ?_)
  refine lv_lload_n hx hb dJ9_floorDiv_f86c9_5 rfl (lv_at hl 1 rfl) ?_
  refine lv_lload_n hx hb dJ9_floorDiv_f86c9_6 rfl (lv_at hl 2 rfl) ?_
  refine lv_lxor hx hb dJ9_floorDiv_f86c9_7 ?_
  refine lv_lconst (v := (0 : Int64)) hx hb dJ9_floorDiv_f86c9_8 (by decide +kernel) ?_
  refine zl_ge (tgt := 27) hx hb dJ9_floorDiv_f86c9_9 dJ9_floorDiv_f86c9_10 (by decide) (fun c1 => ?_) (fun c1 => ?_)
  ·
    refine lv_lload hx hb dJ9_floorDiv_f86c9_27 (lv_at hl 0 rfl) ?_
    exact zretL hx hb hr hlk hS hP dJ9_floorDiv_f86c9_29 ⟨by rw [zfl_pos hd (fun h => absurd ((zxor_neg hd).mpr h) (Int64.not_lt.mpr c1))], rfl⟩
  ·
    refine lv_lload hx hb dJ9_floorDiv_f86c9_13 (lv_at hl 0 rfl) ?_
    refine lv_lload_n hx hb dJ9_floorDiv_f86c9_15 rfl (lv_at hl 2 rfl) ?_
    refine lv_lmul hx hb dJ9_floorDiv_f86c9_16 ?_
    refine lv_lload_n hx hb dJ9_floorDiv_f86c9_17 rfl (lv_at hl 1 rfl) ?_
    refine zl_eq (tgt := 27) hx hb dJ9_floorDiv_f86c9_18 dJ9_floorDiv_f86c9_19 (by decide) (fun c2 => ?_) (fun c2 => ?_)
    ·
      refine lv_lload hx hb dJ9_floorDiv_f86c9_27 (lv_at hl 0 rfl) ?_
      exact zretL hx hb hr hlk hS hP dJ9_floorDiv_f86c9_29 ⟨by rw [zfl_eq c2], rfl⟩
    ·
      refine lv_lload hx hb dJ9_floorDiv_f86c9_22 (lv_at hl 0 rfl) ?_
      refine lv_lconst (v := (1 : Int64)) hx hb dJ9_floorDiv_f86c9_24 (by decide +kernel) ?_
      refine lv_lsub hx hb dJ9_floorDiv_f86c9_25 ?_
      exact zretL hx hb hr hlk hS hP dJ9_floorDiv_f86c9_26 ⟨by rw [zfl_neg hd ((zxor_neg hd).mp (Int64.not_le.mp c1)) c2], rfl⟩

set_option maxHeartbeats 4000000 in
set_option maxRecDepth 100000 in
theorem kJ9_floorDiv_b2ac5 (l : Launch) (D : va_G) (cL cI cR : ClassId) (A : Nat → Prop) (F : Nat → Nat) (n : Nat) (E : Nat → va_E) (v0 : Int64) (d0 : Int32) (hd : 0 < d0.toInt64) : zCt l yJ9_floorDiv_b2ac5 wsJ9_floorDiv_b2ac5 1 25 D cL cI cR A F n E [.long v0, .int d0] (fun v2 E2 => v2 = (some (.long (zfl v0 d0.toInt64))) ∧ E2 = E) := by
  refine zStartF (cc := cJ9_floorDiv_b2ac5) (maxL := 3) (ret := (some .long)) (by decide +kernel) rfl (Nat.le_of_ble_eq_true rfl) ?_
  intro p e s m below meth c hx hb hr hml hlk hown hts hAm H hP hS ls hl
  have hown : s.vm.findClass RJ9 = some m.cls := hown
  have hl : lv_has ls 3 [(0, .long v0), (2, .int d0)] := hl
  refine lv_lload_n hx hb dJ9_floorDiv_b2ac5_0 rfl (lv_at hl 0 rfl) ?_
  refine lv_iload_n hx hb dJ9_floorDiv_b2ac5_1 rfl (lv_at hl 1 rfl) ?_
  refine lv_i2l (v := d0.toInt64) hx hb dJ9_floorDiv_b2ac5_2 rfl ?_
  refine zcallS (As := [.long v0, .long d0.toInt64]) (rest := []) (k := 2) hx hb hml hown hts (kJ9_floorDiv_f86c9 l D cL cI cR A F n E v0 d0.toInt64 hd) gJ9_floorDiv_b2ac5_J9_floorDiv_f86c9 rfl (by decide +kernel) ⟨Nat.le_of_ble_eq_true rfl, Nat.le_of_ble_eq_true rfl⟩ hAm hP hS rfl hl.1 rfl (Nat.le_of_ble_eq_true rfl) dJ9_floorDiv_b2ac5_3 ⟨Nat.zero_le _, Nat.zero_le _⟩ (zkn (fun H locs hP hS => ?_))
  refine W.eq (g2 := F0 m 6 ls [.long (zfl v0 d0.toInt64)]) rfl ?_
  exact zretL hx hb hr hlk hS hP dJ9_floorDiv_b2ac5_6 ⟨rfl, rfl⟩

set_option maxHeartbeats 4000000 in
set_option maxRecDepth 100000 in
theorem kX2_rounded (l : Launch) (D : va_G) (cL cI cR : ClassId) (A : Nat → Prop) (F : Nat → Nat) (n : Nat) (E : Nat → va_E) (v0 d0 : Int64) (hd : 0 < d0) : zCt l yX2_rounded wsX2_rounded 1 25 D cL cI cR A F n E [.long v0, .long d0] (fun v2 E2 => v2 = (some (.long (zR v0 d0))) ∧ E2 = E) := by
  refine zStart (cc := cX2_rounded) (maxL := 8) (ret := (some .long)) (by decide +kernel) rfl (Nat.le_of_ble_eq_true rfl) ?_
  intro p e s m below meth c hx hb hr hml hlk hown hts hAm H hP hS ls hl
  have hown : s.vm.findClass RX2 = some m.cls := hown
  have hl : lv_has ls 8 [(0, .long v0), (2, .long d0)] := hl
  refine lv_lload_n hx hb dX2_rounded_0 rfl (lv_at hl 1 rfl) ?_
  refine lv_lconst (v := (0 : Int64)) hx hb dX2_rounded_1 (by decide +kernel) ?_
  refine zl_gt (tgt := 8) hx hb dX2_rounded_2 dX2_rounded_3 (by decide) (fun c1 => ?_) (fun c1 => ?_)
  ·
    refine lv_lload_n hx hb dX2_rounded_8 rfl (lv_at hl 0 rfl) ?_
    refine lv_lload_n hx hb dX2_rounded_9 rfl (lv_at hl 1 rfl) ?_
    refine zcallS (As := [.long v0, .long d0]) (rest := []) (k := 2) hx hb hml hown hts (kJ9_floorDiv_f86c9 l D cL cI cR A F n E v0 d0 hd) gX2_rounded_J9_floorDiv_f86c9 rfl (by decide +kernel) ⟨Nat.le_of_ble_eq_true rfl, Nat.le_of_ble_eq_true rfl⟩ hAm hP hS rfl hl.1 rfl (Nat.le_of_ble_eq_true rfl) dX2_rounded_10 ⟨Nat.zero_le _, Nat.zero_le _⟩ (zkn (fun H locs hP hS => ?_))
    refine W.eq (g2 := F0 m 13 ls [.long (zfl v0 d0)]) rfl ?_
    refine lv_lstore (lv' := [(4, .long (zfl v0 d0)), (0, .long v0), (2, .long d0)]) hx hb dX2_rounded_13 hl (by decide) rfl (fun ls hl => ?_)
    refine lv_lload_n hx hb dX2_rounded_15 rfl (lv_at hl 1 rfl) ?_
    refine lv_lload hx hb dX2_rounded_16 (lv_at hl 0 rfl) ?_
    refine lv_lload_n hx hb dX2_rounded_18 rfl (lv_at hl 2 rfl) ?_
    refine lv_lmul hx hb dX2_rounded_19 ?_
    refine lv_lsub hx hb dX2_rounded_20 ?_
    refine lv_lstore (lv' := [(6, .long (v0 - ((zfl v0 d0) * d0))), (4, .long (zfl v0 d0)), (0, .long v0), (2, .long d0)]) hx hb dX2_rounded_21 hl (by decide) rfl (fun ls hl => ?_)
    refine lv_ldc2 hx hb hown (hts (.constantLong RX2 117 (2)) (by decide +kernel)) dX2_rounded_23 ?_
    refine lv_lload hx hb dX2_rounded_26 (lv_at hl 0 rfl) ?_
    refine lv_lmul hx hb dX2_rounded_28 ?_
    refine lv_lload_n hx hb dX2_rounded_29 rfl (lv_at hl 3 rfl) ?_
    refine zl_lt (tgt := 41) hx hb dX2_rounded_30 dX2_rounded_31 (by decide) (fun c2 => ?_) (fun c2 => ?_)
    ·
      refine lv_lload hx hb dX2_rounded_41 (lv_at hl 1 rfl) ?_
      exact zretL hx hb hr hlk hS hP dX2_rounded_43 ⟨by unfold zR; rw [if_pos c2], rfl⟩
    ·
      refine lv_lload hx hb dX2_rounded_34 (lv_at hl 1 rfl) ?_
      refine lv_lconst (v := (1 : Int64)) hx hb dX2_rounded_36 (by decide +kernel) ?_
      refine lv_ladd hx hb dX2_rounded_37 ?_
      refine lv_goto (tgt := 43) hx hb dX2_rounded_38 (by decide) ?_
      exact zretL hx hb hr hlk hS hP dX2_rounded_43 ⟨by unfold zR; rw [if_neg c2], rfl⟩
  ·
    exact absurd hd c1

set_option maxHeartbeats 4000000 in
set_option maxRecDepth 100000 in
theorem kX3_in (l : Launch) (D : va_G) (cL cI cR : ClassId) (A : Nat → Prop) (F : Nat → Nat) (n : Nat) (E : Nat → va_E) (v0 l0 m0 : Int64) (b : Nat) (hv : b = zbN (l0 ≤ v0 ∧ v0 ≤ m0)) : zCt l yX3_in wsX3_in 0 0 D cL cI cR A F n E [.long v0, .long l0, .long m0] (fun v2 E2 => v2 = (some (.int (nI b))) ∧ E2 = E) := by
  refine zStart (cc := cX3_in) (maxL := 6) (ret := (some .boolean)) (by decide +kernel) rfl (Nat.le_of_ble_eq_true rfl) ?_
  intro p e s m below meth c hx hb hr hml hlk hown hts hAm H hP hS ls hl
  have hown : s.vm.findClass RX3 = some m.cls := hown
  have hl : lv_has ls 6 [(0, .long v0), (2, .long l0), (4, .long m0)] := hl
  refine lv_lload_n hx hb dX3_in_0 rfl (lv_at hl 0 rfl) ?_
  refine lv_lload_n hx hb dX3_in_1 rfl (lv_at hl 1 rfl) ?_
  refine zl_lt (tgt := 17) hx hb dX3_in_2 dX3_in_3 (by decide) (fun c1 => ?_) (fun c1 => ?_)
  ·
    refine lv_iconst (v := nI 0) hx hb dX3_in_17 (by decide +kernel) ?_
    exact zretZ hx hb hr hlk hS hP (by first | rfl | (rw [hv]; unfold zbN; split <;> rfl)) dX3_in_18 ⟨by rw [hv]; unfold zbN; rw [if_neg (fun h => absurd h.1 (Int64.not_le.mpr c1))], rfl⟩
  ·
    refine lv_lload_n hx hb dX3_in_6 rfl (lv_at hl 0 rfl) ?_
    refine lv_lload hx hb dX3_in_7 (lv_at hl 2 rfl) ?_
    refine zl_gt (tgt := 17) hx hb dX3_in_9 dX3_in_10 (by decide) (fun c2 => ?_) (fun c2 => ?_)
    ·
      refine lv_iconst (v := nI 0) hx hb dX3_in_17 (by decide +kernel) ?_
      exact zretZ hx hb hr hlk hS hP (by first | rfl | (rw [hv]; unfold zbN; split <;> rfl)) dX3_in_18 ⟨by rw [hv]; unfold zbN; rw [if_neg (fun h => absurd h.2 (Int64.not_le.mpr c2))], rfl⟩
    ·
      refine lv_iconst (v := nI 1) hx hb dX3_in_13 (by decide +kernel) ?_
      refine lv_goto (tgt := 18) hx hb dX3_in_14 (by decide) ?_
      exact zretZ hx hb hr hlk hS hP (by first | rfl | (rw [hv]; unfold zbN; split <;> rfl)) dX3_in_18 ⟨by rw [hv]; unfold zbN; rw [if_pos ⟨Int64.not_lt.mp c1, Int64.not_lt.mp c2⟩], rfl⟩

set_option maxHeartbeats 4000000 in
set_option maxRecDepth 100000 in
theorem kX3_isSeries (l : Launch) (D : va_G) (cL cI cR : ClassId) (A : Nat → Prop) (F : Nat → Nat) (n : Nat) (E : Nat → va_E) (s0 : Int32) (b : Nat) (hv : b = zbN (zin 0 7 s0)) : zCt l yX3_isSeries wsX3_isSeries 1 25 D cL cI cR A F n E [.int s0] (fun v2 E2 => v2 = (some (.int (nI b))) ∧ E2 = E) := by
  refine zStart (cc := cX3_isSeries) (maxL := 1) (ret := (some .boolean)) (by decide +kernel) rfl (Nat.le_of_ble_eq_true rfl) ?_
  intro p e s m below meth c hx hb hr hml hlk hown hts hAm H hP hS ls hl
  have hown : s.vm.findClass RX3 = some m.cls := hown
  have hl : lv_has ls 1 [(0, .int s0)] := hl
  have hv2 : b = zbN ((0 : Int64) ≤ s0.toInt64 ∧ s0.toInt64 ≤ (7 : Int64)) := by
    rw [hv]
    by_cases h : zin 0 7 s0
    · rw [← zn1 (l := (0 : Int64)) (m := (7 : Int64)) rfl rfl h]; exact if_pos h
    · rw [← zn0 (l := (0 : Int64)) (m := (7 : Int64)) rfl rfl h]; exact if_neg h
  refine lv_iload_n hx hb dX3_isSeries_0 rfl (lv_at hl 0 rfl) ?_
  refine lv_i2l (v := s0.toInt64) hx hb dX3_isSeries_1 rfl ?_
  refine lv_lconst (v := (0 : Int64)) hx hb dX3_isSeries_2 (by decide +kernel) ?_
  refine lv_ldc2 hx hb hown (hts (.constantLong RX3 37 (7)) (by decide +kernel)) dX3_isSeries_3 ?_
  refine zcallS (As := [.long s0.toInt64, .long (0 : Int64), .long (7 : Int64)]) (rest := []) (k := 3) hx hb hml hown hts (kX3_in l D cL cI cR A F n E s0.toInt64 (0 : Int64) (7 : Int64) b hv2) gX3_isSeries_X3_in rfl (by decide +kernel) ⟨Nat.le_of_ble_eq_true rfl, Nat.le_of_ble_eq_true rfl⟩ hAm hP hS rfl hl.1 rfl (Nat.le_of_ble_eq_true rfl) dX3_isSeries_6 ⟨Nat.zero_le _, Nat.zero_le _⟩ (zkn (fun H locs hP hS => ?_))
  refine W.eq (g2 := F0 m 9 ls [.int (nI b)]) rfl ?_
  exact zretZ hx hb hr hlk hS hP (by first | rfl | (rw [hv]; unfold zbN; split <;> rfl)) dX3_isSeries_9 ⟨rfl, rfl⟩

set_option maxHeartbeats 4000000 in
set_option maxRecDepth 100000 in
theorem kX3_isPoint (l : Launch) (D : va_G) (cL cI cR : ClassId) (A : Nat → Prop) (F : Nat → Nat) (n : Nat) (E : Nat → va_E) (s0 : Int32) (b : Nat) (hv : b = zbN (zin (-1048576) 1048576 s0)) : zCt l yX3_isPoint wsX3_isPoint 1 25 D cL cI cR A F n E [.int s0] (fun v2 E2 => v2 = (some (.int (nI b))) ∧ E2 = E) := by
  refine zStart (cc := cX3_isPoint) (maxL := 1) (ret := (some .boolean)) (by decide +kernel) rfl (Nat.le_of_ble_eq_true rfl) ?_
  intro p e s m below meth c hx hb hr hml hlk hown hts hAm H hP hS ls hl
  have hown : s.vm.findClass RX3 = some m.cls := hown
  have hl : lv_has ls 1 [(0, .int s0)] := hl
  have hv2 : b = zbN ((-1048576 : Int64) ≤ s0.toInt64 ∧ s0.toInt64 ≤ (1048576 : Int64)) := by
    rw [hv]
    by_cases h : zin (-1048576) 1048576 s0
    · rw [← zn1 (l := (-1048576 : Int64)) (m := (1048576 : Int64)) rfl rfl h]; exact if_pos h
    · rw [← zn0 (l := (-1048576 : Int64)) (m := (1048576 : Int64)) rfl rfl h]; exact if_neg h
  refine lv_iload_n hx hb dX3_isPoint_0 rfl (lv_at hl 0 rfl) ?_
  refine lv_i2l (v := s0.toInt64) hx hb dX3_isPoint_1 rfl ?_
  refine lv_ldc2 hx hb hown (hts (.constantLong RX3 43 (-1048576)) (by decide +kernel)) dX3_isPoint_2 ?_
  refine lv_ldc2 hx hb hown (hts (.constantLong RX3 45 (1048576)) (by decide +kernel)) dX3_isPoint_5 ?_
  refine zcallS (As := [.long s0.toInt64, .long (-1048576 : Int64), .long (1048576 : Int64)]) (rest := []) (k := 3) hx hb hml hown hts (kX3_in l D cL cI cR A F n E s0.toInt64 (-1048576 : Int64) (1048576 : Int64) b hv2) gX3_isPoint_X3_in rfl (by decide +kernel) ⟨Nat.le_of_ble_eq_true rfl, Nat.le_of_ble_eq_true rfl⟩ hAm hP hS rfl hl.1 rfl (Nat.le_of_ble_eq_true rfl) dX3_isPoint_8 ⟨Nat.zero_le _, Nat.zero_le _⟩ (zkn (fun H locs hP hS => ?_))
  refine W.eq (g2 := F0 m 11 ls [.int (nI b)]) rfl ?_
  exact zretZ hx hb hr hlk hS hP (by first | rfl | (rw [hv]; unfold zbN; split <;> rfl)) dX3_isPoint_11 ⟨rfl, rfl⟩

set_option maxHeartbeats 4000000 in
set_option maxRecDepth 100000 in
theorem kX3_isTolerance (l : Launch) (D : va_G) (cL cI cR : ClassId) (A : Nat → Prop) (F : Nat → Nat) (n : Nat) (E : Nat → va_E) (s0 : Int32) (b : Nat) (hv : b = zbN (zin 0 1000000000 s0)) : zCt l yX3_isTolerance wsX3_isTolerance 1 25 D cL cI cR A F n E [.int s0] (fun v2 E2 => v2 = (some (.int (nI b))) ∧ E2 = E) := by
  refine zStart (cc := cX3_isTolerance) (maxL := 1) (ret := (some .boolean)) (by decide +kernel) rfl (Nat.le_of_ble_eq_true rfl) ?_
  intro p e s m below meth c hx hb hr hml hlk hown hts hAm H hP hS ls hl
  have hown : s.vm.findClass RX3 = some m.cls := hown
  have hl : lv_has ls 1 [(0, .int s0)] := hl
  have hv2 : b = zbN ((0 : Int64) ≤ s0.toInt64 ∧ s0.toInt64 ≤ (1000000000 : Int64)) := by
    rw [hv]
    by_cases h : zin 0 1000000000 s0
    · rw [← zn1 (l := (0 : Int64)) (m := (1000000000 : Int64)) rfl rfl h]; exact if_pos h
    · rw [← zn0 (l := (0 : Int64)) (m := (1000000000 : Int64)) rfl rfl h]; exact if_neg h
  refine lv_iload_n hx hb dX3_isTolerance_0 rfl (lv_at hl 0 rfl) ?_
  refine lv_i2l (v := s0.toInt64) hx hb dX3_isTolerance_1 rfl ?_
  refine lv_lconst (v := (0 : Int64)) hx hb dX3_isTolerance_2 (by decide +kernel) ?_
  refine lv_ldc2 hx hb hown (hts (.constantLong RX3 119 (1000000000)) (by decide +kernel)) dX3_isTolerance_3 ?_
  refine zcallS (As := [.long s0.toInt64, .long (0 : Int64), .long (1000000000 : Int64)]) (rest := []) (k := 3) hx hb hml hown hts (kX3_in l D cL cI cR A F n E s0.toInt64 (0 : Int64) (1000000000 : Int64) b hv2) gX3_isTolerance_X3_in rfl (by decide +kernel) ⟨Nat.le_of_ble_eq_true rfl, Nat.le_of_ble_eq_true rfl⟩ hAm hP hS rfl hl.1 rfl (Nat.le_of_ble_eq_true rfl) dX3_isTolerance_6 ⟨Nat.zero_le _, Nat.zero_le _⟩ (zkn (fun H locs hP hS => ?_))
  refine W.eq (g2 := F0 m 9 ls [.int (nI b)]) rfl ?_
  exact zretZ hx hb hr hlk hS hP (by first | rfl | (rw [hv]; unfold zbN; split <;> rfl)) dX3_isTolerance_9 ⟨rfl, rfl⟩

set_option maxHeartbeats 4000000 in
set_option maxRecDepth 100000 in
theorem kX3_isPower (l : Launch) (D : va_G) (cL cI cR : ClassId) (A : Nat → Prop) (F : Nat → Nat) (n : Nat) (E : Nat → va_E) (s0 : Int32) (b : Nat) (hv : b = zbN (zin 0 4 s0)) : zCt l yX3_isPower wsX3_isPower 1 25 D cL cI cR A F n E [.int s0] (fun v2 E2 => v2 = (some (.int (nI b))) ∧ E2 = E) := by
  refine zStart (cc := cX3_isPower) (maxL := 1) (ret := (some .boolean)) (by decide +kernel) rfl (Nat.le_of_ble_eq_true rfl) ?_
  intro p e s m below meth c hx hb hr hml hlk hown hts hAm H hP hS ls hl
  have hown : s.vm.findClass RX3 = some m.cls := hown
  have hl : lv_has ls 1 [(0, .int s0)] := hl
  have hv2 : b = zbN ((0 : Int64) ≤ s0.toInt64 ∧ s0.toInt64 ≤ (4 : Int64)) := by
    rw [hv]
    by_cases h : zin 0 4 s0
    · rw [← zn1 (l := (0 : Int64)) (m := (4 : Int64)) rfl rfl h]; exact if_pos h
    · rw [← zn0 (l := (0 : Int64)) (m := (4 : Int64)) rfl rfl h]; exact if_neg h
  refine lv_iload_n hx hb dX3_isPower_0 rfl (lv_at hl 0 rfl) ?_
  refine lv_i2l (v := s0.toInt64) hx hb dX3_isPower_1 rfl ?_
  refine lv_lconst (v := (0 : Int64)) hx hb dX3_isPower_2 (by decide +kernel) ?_
  refine lv_ldc2 hx hb hown (hts (.constantLong RX3 132 (4)) (by decide +kernel)) dX3_isPower_3 ?_
  refine zcallS (As := [.long s0.toInt64, .long (0 : Int64), .long (4 : Int64)]) (rest := []) (k := 3) hx hb hml hown hts (kX3_in l D cL cI cR A F n E s0.toInt64 (0 : Int64) (4 : Int64) b hv2) gX3_isPower_X3_in rfl (by decide +kernel) ⟨Nat.le_of_ble_eq_true rfl, Nat.le_of_ble_eq_true rfl⟩ hAm hP hS rfl hl.1 rfl (Nat.le_of_ble_eq_true rfl) dX3_isPower_6 ⟨Nat.zero_le _, Nat.zero_le _⟩ (zkn (fun H locs hP hS => ?_))
  refine W.eq (g2 := F0 m 9 ls [.int (nI b)]) rfl ?_
  exact zretZ hx hb hr hlk hS hP (by first | rfl | (rw [hv]; unfold zbN; split <;> rfl)) dX3_isPower_9 ⟨rfl, rfl⟩

set_option maxHeartbeats 4000000 in
set_option maxRecDepth 100000 in
theorem kX3_size (l : Launch) (D : va_G) (cL cI cR : ClassId) (A : Nat → Prop) (F : Nat → Nat) (n : Nat) (E : Nat → va_E) (v0 : Int64) : zCt l yX3_size wsX3_size 0 0 D cL cI cR A F n E [.long v0] (fun v2 E2 => v2 = (some (.long (zabs v0))) ∧ E2 = E) := by
  refine zStart (cc := cX3_size) (maxL := 2) (ret := (some .long)) (by decide +kernel) rfl (Nat.le_of_ble_eq_true rfl) ?_
  intro p e s m below meth c hx hb hr hml hlk hown hts hAm H hP hS ls hl
  have hown : s.vm.findClass RX3 = some m.cls := hown
  have hl : lv_has ls 2 [(0, .long v0)] := hl
  refine lv_lload_n hx hb dX3_size_0 rfl (lv_at hl 0 rfl) ?_
  refine lv_lconst (v := (0 : Int64)) hx hb dX3_size_1 (by decide +kernel) ?_
  refine zl_ge (tgt := 11) hx hb dX3_size_2 dX3_size_3 (by decide) (fun c1 => ?_) (fun c1 => ?_)
  ·
    refine lv_lload_n hx hb dX3_size_11 rfl (lv_at hl 0 rfl) ?_
    exact zretL hx hb hr hlk hS hP dX3_size_12 ⟨by rw [zabs_ge (by first | exact c1 | exact Int64.not_lt.mp c1)], rfl⟩
  ·
    refine lv_lload_n hx hb dX3_size_6 rfl (lv_at hl 0 rfl) ?_
    refine lv_lneg hx hb dX3_size_7 ?_
    refine lv_goto (tgt := 12) hx hb dX3_size_8 (by decide) ?_
    exact zretL hx hb hr hlk hS hP dX3_size_12 ⟨by rw [zabs_lt (Int64.not_le.mp c1)], rfl⟩

set_option maxHeartbeats 4000000 in
set_option maxRecDepth 100000 in
theorem kX3_rounded (l : Launch) (D : va_G) (cL cI cR : ClassId) (A : Nat → Prop) (F : Nat → Nat) (n : Nat) (E : Nat → va_E) (v0 d0 : Int64) (hd : 0 < d0) : zCt l yX3_rounded wsX3_rounded 0 0 D cL cI cR A F n E [.long v0, .long d0] (fun v2 E2 => v2 = (some (.long (zR v0 d0))) ∧ E2 = E) := by
  refine zStart (cc := cX3_rounded) (maxL := 6) (ret := (some .long)) (by decide +kernel) rfl (Nat.le_of_ble_eq_true rfl) ?_
  intro p e s m below meth c hx hb hr hml hlk hown hts hAm H hP hS ls hl
  have hown : s.vm.findClass RX3 = some m.cls := hown
  have hl : lv_has ls 6 [(0, .long v0), (2, .long d0)] := hl
  refine lv_lload_n hx hb dX3_rounded_0 rfl (lv_at hl 0 rfl) ?_
  refine lv_lload_n hx hb dX3_rounded_1 rfl (lv_at hl 1 rfl) ?_
  refine lv_ldiv hx hb dX3_rounded_2 (fun h => absurd hd (by rw [h]; exact Int64.lt_irrefl)) ?_
  refine lv_lstore (lv' := [(4, .long (v0 / d0)), (0, .long v0), (2, .long d0)]) hx hb dX3_rounded_3 hl (by decide) rfl (fun ls hl => ?_)
  refine lv_lload hx hb dX3_rounded_5 (lv_at hl 0 rfl) ?_
  refine lv_lload_n hx hb dX3_rounded_7 rfl (lv_at hl 2 rfl) ?_
  refine lv_lmul hx hb dX3_rounded_8 ?_
  refine lv_lload_n hx hb dX3_rounded_9 rfl (lv_at hl 1 rfl) ?_
  refine zl_le (tgt := 21) hx hb dX3_rounded_10 dX3_rounded_11 (by decide) (fun c1 => ?_) (fun c1 => ?_)
  ·
    have hq : v0 / d0 = zfl v0 d0 := by unfold zfl; rw [if_neg (Int64.not_lt.mpr c1)]
    refine lv_lload hx hb dX3_rounded_21 (lv_at hl 0 rfl) ?_
    refine W.eq (g2 := F0 m 23 ls [.long (zfl v0 d0)]) (by rw [hq]) ?_
    refine lv_lstore (lv' := [(4, .long (zfl v0 d0)), (0, .long v0), (2, .long d0)]) hx hb dX3_rounded_23 hl (by decide) rfl (fun ls hl => ?_)
    refine lv_ldc2 hx hb hown (hts (.constantLong RX3 47 (2)) (by decide +kernel)) dX3_rounded_25 ?_
    refine lv_lload_n hx hb dX3_rounded_28 rfl (lv_at hl 1 rfl) ?_
    refine lv_lload hx hb dX3_rounded_29 (lv_at hl 0 rfl) ?_
    refine lv_lload_n hx hb dX3_rounded_31 rfl (lv_at hl 2 rfl) ?_
    refine lv_lmul hx hb dX3_rounded_32 ?_
    refine lv_lsub hx hb dX3_rounded_33 ?_
    refine lv_lmul hx hb dX3_rounded_34 ?_
    refine lv_lload_n hx hb dX3_rounded_35 rfl (lv_at hl 2 rfl) ?_
    refine zl_lt (tgt := 47) hx hb dX3_rounded_36 dX3_rounded_37 (by decide) (fun c2 => ?_) (fun c2 => ?_)
    ·
      refine lv_lload hx hb dX3_rounded_47 (lv_at hl 0 rfl) ?_
      exact zretL hx hb hr hlk hS hP dX3_rounded_49 ⟨by unfold zR; rw [if_pos c2], rfl⟩
    ·
      refine lv_lload hx hb dX3_rounded_40 (lv_at hl 0 rfl) ?_
      refine lv_lconst (v := (1 : Int64)) hx hb dX3_rounded_42 (by decide +kernel) ?_
      refine lv_ladd hx hb dX3_rounded_43 ?_
      refine lv_goto (tgt := 49) hx hb dX3_rounded_44 (by decide) ?_
      exact zretL hx hb hr hlk hS hP dX3_rounded_49 ⟨by unfold zR; rw [if_neg c2], rfl⟩
  ·
    have hq : v0 / d0 - 1 = zfl v0 d0 := by unfold zfl; rw [if_pos (Int64.not_le.mp c1)]
    refine lv_lload hx hb dX3_rounded_14 (lv_at hl 0 rfl) ?_
    refine lv_lconst (v := (1 : Int64)) hx hb dX3_rounded_16 (by decide +kernel) ?_
    refine lv_lsub hx hb dX3_rounded_17 ?_
    refine lv_goto (tgt := 23) hx hb dX3_rounded_18 (by decide) ?_
    refine W.eq (g2 := F0 m 23 ls [.long (zfl v0 d0)]) (by rw [hq]) ?_
    refine lv_lstore (lv' := [(4, .long (zfl v0 d0)), (0, .long v0), (2, .long d0)]) hx hb dX3_rounded_23 hl (by decide) rfl (fun ls hl => ?_)
    refine lv_ldc2 hx hb hown (hts (.constantLong RX3 47 (2)) (by decide +kernel)) dX3_rounded_25 ?_
    refine lv_lload_n hx hb dX3_rounded_28 rfl (lv_at hl 1 rfl) ?_
    refine lv_lload hx hb dX3_rounded_29 (lv_at hl 0 rfl) ?_
    refine lv_lload_n hx hb dX3_rounded_31 rfl (lv_at hl 2 rfl) ?_
    refine lv_lmul hx hb dX3_rounded_32 ?_
    refine lv_lsub hx hb dX3_rounded_33 ?_
    refine lv_lmul hx hb dX3_rounded_34 ?_
    refine lv_lload_n hx hb dX3_rounded_35 rfl (lv_at hl 2 rfl) ?_
    refine zl_lt (tgt := 47) hx hb dX3_rounded_36 dX3_rounded_37 (by decide) (fun c3 => ?_) (fun c3 => ?_)
    ·
      refine lv_lload hx hb dX3_rounded_47 (lv_at hl 0 rfl) ?_
      exact zretL hx hb hr hlk hS hP dX3_rounded_49 ⟨by unfold zR; rw [if_pos c3], rfl⟩
    ·
      refine lv_lload hx hb dX3_rounded_40 (lv_at hl 0 rfl) ?_
      refine lv_lconst (v := (1 : Int64)) hx hb dX3_rounded_42 (by decide +kernel) ?_
      refine lv_ladd hx hb dX3_rounded_43 ?_
      refine lv_goto (tgt := 49) hx hb dX3_rounded_44 (by decide) ?_
      exact zretL hx hb hr hlk hS hP dX3_rounded_49 ⟨by unfold zR; rw [if_neg c3], rfl⟩

set_option maxHeartbeats 4000000 in
set_option maxRecDepth 100000 in
theorem kX3_middle (l : Launch) (D : va_G) (cL cI cR : ClassId) (A : Nat → Prop) (F : Nat → Nat) (n : Nat) (E : Nat → va_E) (a0 b0 : Int32) : zCt l yX3_middle wsX3_middle 0 0 D cL cI cR A F n E [.int a0, .int b0] (fun v2 E2 => v2 = (some (.int ((a0 + b0) >>> ((nI 1) &&& 31)))) ∧ E2 = E) := by
  refine zStart (cc := cX3_middle) (maxL := 2) (ret := (some .int)) (by decide +kernel) rfl (Nat.le_of_ble_eq_true rfl) ?_
  intro p e s m below meth c hx hb hr hml hlk hown hts hAm H hP hS ls hl
  have hown : s.vm.findClass RX3 = some m.cls := hown
  have hl : lv_has ls 2 [(0, .int a0), (1, .int b0)] := hl
  refine lv_iload_n hx hb dX3_middle_0 rfl (lv_at hl 0 rfl) ?_
  refine lv_iload_n hx hb dX3_middle_1 rfl (lv_at hl 1 rfl) ?_
  refine lv_iadd hx hb dX3_middle_2 ?_
  refine lv_iconst (v := nI 1) hx hb dX3_middle_3 (by decide +kernel) ?_
  refine lv_ishr hx hb dX3_middle_4 ?_
  exact zretI hx hb hr hlk hS hP dX3_middle_5 ⟨rfl, rfl⟩
end
section
/-! Series: the methods that read and that trim -/
theorem zupx {T : Nat → Nat → Int64} {i : Nat} {f g : Nat → Int64} (h : ∀ j, j < 49 → f j = g j) : ∀ a, a < 12 → ∀ j, j < 49 → va_up T i f a j = va_up T i g a j := by
  intro a _ j hj
  by_cases ha : a = i
  · subst ha; rw [va_up_eq, va_up_eq]; exact h j hj
  · simp [va_up, ha]
theorem zC_ut2 {cL cR : ClassId} {F : Nat → Nat} {T : Nat → Nat → Int64} {top : Nat → Nat} {Z : zZC} {i : Nat} {f g : Nat → Int64} (h : i < 12) : va_up (zCE cL cR F (va_up T i f) top Z) (i + 12) (.inl (cL, 49, .inr (.inl g))) = zCE cL cR F (va_up T i g) top Z := by
  rw [zC_ut h, bx_uu]
theorem zC_us2 {cL cR : ClassId} {F : Nat → Nat} {T : Nat → Nat → Int64} {top : Nat → Nat} {Z : zZC} {i v w : Nat} (h : i < 12) : va_up (zCE cL cR F T (va_up top i w) Z) i (.inr (1, [.ref (F (i + 12)), .int (nI v)])) = zCE cL cR F T (va_up top i v) Z := by
  rw [zC_us h, bx_uu]
theorem zbig_of {f : Nat → Int64} {k : Nat} (h : 268435456 < zabs (f k)) : ∀ m, k < m → zbig f m = true := by
  intro m
  induction m with
  | zero => intro h1; omega
  | succ m ih =>
    intro h1
    unfold zbig
    rcases Nat.lt_or_ge k m with h2 | h2
    · rw [ih h2]; rfl
    · have : k = m := by omega
      subst this
      simp [h]
theorem zbig_s {f : Nat → Int64} {k : Nat} (h : zbig f k = false) (h2 : zabs (f k) ≤ 268435456) : zbig f (k + 1) = false := by
  unfold zbig
  rw [h]
  simp only [Bool.false_or, decide_eq_false_iff_not]
  exact Int64.not_lt.mpr h2
theorem zmax0 {n : Nat} (h : n < 2147483648) : (if nI n < nI 0 then nI 0 else nI n) = nI n := by
  rw [if_neg]
  rw [nI_0]
  exact nI_pos h
/-- to which degree a cut leads -/
def ztw (c : Nat → Int64) (tol : Int64) : Nat → Int64 → Nat
  | 0, _ => 0
  | n + 1, s => if s + zabs (c (n + 1)) ≤ tol then ztw c tol n (s + zabs (c (n + 1))) else n + 1
theorem ztw_le (c : Nat → Int64) (tol : Int64) : ∀ (n : Nat) (s : Int64), ztw c tol n s ≤ n := by
  intro n
  induction n with
  | zero => intro s; exact Nat.le_refl _
  | succ n ih =>
    intro s
    unfold ztw
    split
    · have := ih (s + zabs (c (n + 1))); omega
    · omega
def zcut (f : Nat → Int64) (n : Nat) : Nat → Int64 := fun j => if j ≤ n then f j else 0
/-- how many of the first m coefficients come before that of index k -/
def zplace (c : Nat → Int64) (k : Nat) : Nat → Nat
  | 0 => 0
  | m + 1 => zplace c k m + (if zabs (c k) < zabs (c m) ∨ (zabs (c m) = zabs (c k) ∧ m < k) then 1 else 0)
theorem zplace_le (c : Nat → Int64) (k m : Nat) : zplace c k m ≤ m := by
  induction m with
  | zero => exact Nat.le_refl _
  | succ m ih =>
    unfold zplace
    split <;> omega

set_option maxHeartbeats 4000000 in
set_option maxRecDepth 100000 in
theorem kJ7_fill_d0a16 (l : Launch) (D : va_G) (cL cI cR : ClassId) (A : Nat → Prop) (F : Nat → Nat) (hF : zq_F A F 30) (T : Nat → Nat → Int64) (top : Nat → Nat) (Z : zZC) (i : Nat) (hi : i < 12) (v0 : Int64) : zCt l yJ7_fill_d0a16 wsJ7_fill_d0a16 0 0 D cL cI cR A F 30 (zCE cL cR F T top Z) [.ref (F (i + 12)), .long v0] (fun v2 E2 => v2 = none ∧ E2 = (zCE cL cR F (va_up T i (fun _ => v0)) top Z)) := by
  refine zStartF (cc := cJ7_fill_d0a16) (maxL := 5) (ret := none) (by decide +kernel) rfl (Nat.le_of_ble_eq_true rfl) ?_
  intro p e s m below meth c hx hb hr hml hlk hown hts hAm H hP hS ls hl
  have hown : s.vm.findClass RJ7 = some m.cls := hown
  have hl : lv_has ls 5 [(0, .ref (F (i + 12))), (1, .long v0)] := hl
  refine lv_iconst (v := nI 0) hx hb dJ7_fill_d0a16_0 (by decide +kernel) ?_
  refine lv_istore_n (lv' := [(3, .int (nI 0)), (0, .ref (F (i + 12))), (1, .long v0)]) hx hb dJ7_fill_d0a16_1 rfl hl (by decide) rfl (fun ls hl => ?_)
  refine lv_aload_n hx hb dJ7_fill_d0a16_2 rfl (lv_at hl 1 rfl) ?_
  refine zalen (N := 49) (q := (i + 12)) (t0 := 0) hx hb hAm hP (by omega) (zC_t (by omega)) rfl rfl dJ7_fill_d0a16_3 ?_
  refine lv_istore (lv' := [(4, .int (nI 49)), (3, .int (nI 0)), (0, .ref (F (i + 12))), (1, .long v0)]) hx hb dJ7_fill_d0a16_4 hl (by decide) rfl (fun ls hl => ?_)
  have hP : va_P D vwCl (zq_wd F 30 (zCE cL cR F (va_up T i (T i)) top Z)) H := by rw [zup_self]; exact hP
  have L6 : ∀ (n : Nat) (k : Nat) (f : Nat → Int64) (hk : k ≤ 49) (hf : ∀ j, j < k → f j = v0) (hn : 49 - k < n) (H : Heap) (locs : List Loc), va_P D vwCl (zq_wd F 30 (zCE cL cR F (va_up T i f) top Z)) H → va_S A s.heap H locs → ∀ (ls : Array Slot), lv_has ls 5 [(0, .ref (F (i + 12))), (1, .long v0), (3, .int (nI k)), (4, .int (nI 49))] → W p l e ({ frames := 0, cells := 0, slots := 0, locals := 0 }) s m ([.ref (F (i + 12)), .long v0] : List Value).toArray below meth c H locs 0 0 (zQ below D A F 30 [.ref (F (i + 12)), .long v0] s (fun v2 E2 => v2 = none ∧ E2 = (zCE cL cR F (va_up T i (fun _ => v0)) top Z))) (F0 m 6 ls []) := by
    intro n
    induction n with
    | zero =>
      intro k f hk hf hn
      exact absurd hn (Nat.not_lt_zero _)
    | succ n ih6 =>
      intro k f hk hf hn H locs hP hS ls hl
      refine lv_iload_n hx hb dJ7_fill_d0a16_6 rfl (lv_at hl 2 rfl) ?_
      refine lv_iload hx hb dJ7_fill_d0a16_7 (lv_at hl 3 rfl) ?_
      refine zi_ge (tgt := 22) hx hb dJ7_fill_d0a16_9 (by decide) (by omega) (by omega) (fun c1 => ?_) (fun c1 => ?_)
      ·
        have hP : va_P D vwCl (zq_wd F 30 (zCE cL cR F (va_up T i (fun _ => v0)) top Z)) H := zC_extT hP (zupx (fun j hj => hf j (by omega)))
        exact zretV hx hb hr hlk hS hP dJ7_fill_d0a16_22 ⟨rfl, rfl⟩
      ·
        refine lv_aload_n hx hb dJ7_fill_d0a16_12 rfl (lv_at hl 0 rfl) ?_
        refine lv_iload_n hx hb dJ7_fill_d0a16_13 rfl (lv_at hl 2 rfl) ?_
        refine lv_lload_n hx hb dJ7_fill_d0a16_14 rfl (lv_at hl 1 rfl) ?_
        refine zlast (q := (i + 12)) (k := k) (E' := (zCE cL cR F (va_up T i (vp_updL f k v0)) top Z)) hx hb hAm hP hF hS (by omega) (zC_t (by omega)) (by omega) (by decide) dJ7_fill_d0a16_15 (by first | exact zC_ut (by omega) | (rw [zC_ut (by omega)]; simp only [bx_uu, va_up_eq])) (fun H locs hP hS => ?_)
        refine lv_iinc (v := (nI (k + 1))) (lv' := [(3, .int (nI (k + 1))), (0, .ref (F (i + 12))), (1, .long v0), (4, .int (nI 49))]) hx hb dJ7_fill_d0a16_16 hl (k := 2) rfl (zinc (by omega)) (by decide) rfl (fun ls hl => ?_)
        refine lv_goto (tgt := 6) hx hb dJ7_fill_d0a16_19 (by decide) ?_
        exact ih6 (k + 1) _ (by omega) (fun j hj => by unfold vp_updL; split; rfl; exact hf j (by omega)) (by omega) H _ hP hS ls (lv_sub hl [1, 2, 0, 3] rfl)
  exact L6 _ 0 _ (by omega) (fun j hj => absurd hj (Nat.not_lt_zero _)) (Nat.lt_succ_self _) H _ hP hS ls (lv_sub hl [2, 3, 1, 0] rfl)

set_option maxHeartbeats 4000000 in
set_option maxRecDepth 100000 in
theorem kX1_top (l : Launch) (D : va_G) (cL cI cR : ClassId) (A : Nat → Prop) (F : Nat → Nat) (hF : zq_F A F 30) (T : Nat → Nat → Int64) (top : Nat → Nat) (Z : zZC) (i : Nat) (hi : i < 12) (t : Nat) (ht : top i = t) : zCt l yX1_top wsX1_top 0 0 D cL cI cR A F 30 (zCE cL cR F T top Z) [.ref (F i)] (fun v2 E2 => v2 = (some (.int (nI t))) ∧ E2 = (zCE cL cR F T top Z)) := by
  refine zStart (cc := cX1_top) (maxL := 1) (ret := (some .int)) (by decide +kernel) rfl (Nat.le_of_ble_eq_true rfl) ?_
  intro p e s m below meth c hx hb hr hml hlk hown hts hAm H hP hS ls hl
  have hown : s.vm.findClass RX1 = some m.cls := hown
  have hl : lv_has ls 1 [(0, .ref (F i))] := hl
  have hinX1 : ∀ w ∈ u_ws RX1 TX1 2, w ∈ wsX1_top := by decide +kernel
  subst ht
  refine lv_aload_n hx hb dX1_top_0 rfl (lv_at hl 0 rfl) ?_
  refine zget (q := i) (k := 1) (v := .int (nI (top i))) hx hb hts hinX1 hown hAm hP (by omega) (zC_s (by omega)) rfl (by decide) (hts (.fieldLink RX1 15 "CosineSeries$Series" "top" "I") (by decide +kernel)) (by first | rfl | simp [va_up, *]) dX1_top_1 ?_
  exact zretI hx hb hr hlk hS hP dX1_top_4 ⟨rfl, rfl⟩

set_option maxHeartbeats 4000000 in
set_option maxRecDepth 100000 in
theorem kX1_at (l : Launch) (D : va_G) (cL cI cR : ClassId) (A : Nat → Prop) (F : Nat → Nat) (hF : zq_F A F 30) (T : Nat → Nat → Int64) (top : Nat → Nat) (Z : zZC) (i : Nat) (hi : i < 12) (j : Nat) (hj : j < 49) (v : Int64) (hv : T i j = v) : zCt l yX1_at wsX1_at 0 0 D cL cI cR A F 30 (zCE cL cR F T top Z) [.ref (F i), .int (nI j)] (fun v2 E2 => v2 = (some (.long v)) ∧ E2 = (zCE cL cR F T top Z)) := by
  refine zStart (cc := cX1_at) (maxL := 2) (ret := (some .long)) (by decide +kernel) rfl (Nat.le_of_ble_eq_true rfl) ?_
  intro p e s m below meth c hx hb hr hml hlk hown hts hAm H hP hS ls hl
  have hown : s.vm.findClass RX1 = some m.cls := hown
  have hl : lv_has ls 2 [(0, .ref (F i)), (1, .int (nI j))] := hl
  have hinX1 : ∀ w ∈ u_ws RX1 TX1 2, w ∈ wsX1_at := by decide +kernel
  subst hv
  refine lv_iload_n hx hb dX1_at_0 rfl (lv_at hl 1 rfl) ?_
  refine zf_lt (tgt := 22) hx hb dX1_at_1 (by decide) (by omega) ?_
  refine lv_iload_n hx hb dX1_at_4 rfl (lv_at hl 1 rfl) ?_
  refine lv_aload_n hx hb dX1_at_5 rfl (lv_at hl 0 rfl) ?_
  refine zget (q := i) (k := 0) (v := .ref (F (i + 12))) hx hb hts hinX1 hown hAm hP (by omega) (zC_s (by omega)) rfl (by decide) (hts (.fieldLink RX1 9 "CosineSeries$Series" "terms" "[J") (by decide +kernel)) (by first | rfl | simp [va_up, *]) dX1_at_6 ?_
  refine zalen (N := 49) (q := (i + 12)) (t0 := 0) hx hb hAm hP (by omega) (zC_t (by omega)) rfl rfl dX1_at_9 ?_
  refine zi_ge (tgt := 22) hx hb dX1_at_10 (by decide) (by omega) (by omega) (fun c1 => ?_) (fun c1 => ?_)
  ·
    exfalso; omega
  ·
    refine lv_aload_n hx hb dX1_at_13 rfl (lv_at hl 0 rfl) ?_
    refine zget (q := i) (k := 0) (v := .ref (F (i + 12))) hx hb hts hinX1 hown hAm hP (by omega) (zC_s (by omega)) rfl (by decide) (hts (.fieldLink RX1 9 "CosineSeries$Series" "terms" "[J") (by decide +kernel)) (by first | rfl | simp [va_up, *]) dX1_at_14 ?_
    refine lv_iload_n hx hb dX1_at_17 rfl (lv_at hl 1 rfl) ?_
    refine zlald (q := (i + 12)) (k := j) (v := ((T i) j)) hx hb hAm hP (by omega) (zC_t (by omega)) (by omega) (by decide) (by first | rfl | simp [va_up, *]) dX1_at_18 ?_
    refine lv_goto (tgt := 23) hx hb dX1_at_19 (by decide) ?_
    exact zretL hx hb hr hlk hS hP dX1_at_23 ⟨rfl, rfl⟩

set_option maxHeartbeats 4000000 in
set_option maxRecDepth 100000 in
theorem kX1_put (l : Launch) (D : va_G) (cL cI cR : ClassId) (A : Nat → Prop) (F : Nat → Nat) (hF : zq_F A F 30) (T : Nat → Nat → Int64) (top : Nat → Nat) (Z : zZC) (i : Nat) (hi : i < 12) (j : Nat) (hj : j < 49) (x : Int64) (T2 : Nat → Nat → Int64) (hT2 : va_up T i (vp_updL (T i) j x) = T2) : zCt l yX1_put wsX1_put 0 0 D cL cI cR A F 30 (zCE cL cR F T top Z) [.ref (F i), .int (nI j), .long x] (fun v2 E2 => v2 = none ∧ E2 = (zCE cL cR F T2 top Z)) := by
  refine zStart (cc := cX1_put) (maxL := 4) (ret := none) (by decide +kernel) rfl (Nat.le_of_ble_eq_true rfl) ?_
  intro p e s m below meth c hx hb hr hml hlk hown hts hAm H hP hS ls hl
  have hown : s.vm.findClass RX1 = some m.cls := hown
  have hl : lv_has ls 4 [(0, .ref (F i)), (1, .int (nI j)), (2, .long x)] := hl
  have hinX1 : ∀ w ∈ u_ws RX1 TX1 2, w ∈ wsX1_put := by decide +kernel
  subst hT2
  refine lv_iload_n hx hb dX1_put_0 rfl (lv_at hl 1 rfl) ?_
  refine zf_lt (tgt := 20) hx hb dX1_put_1 (by decide) (by omega) ?_
  refine lv_iload_n hx hb dX1_put_4 rfl (lv_at hl 1 rfl) ?_
  refine lv_aload_n hx hb dX1_put_5 rfl (lv_at hl 0 rfl) ?_
  refine zget (q := i) (k := 0) (v := .ref (F (i + 12))) hx hb hts hinX1 hown hAm hP (by omega) (zC_s (by omega)) rfl (by decide) (hts (.fieldLink RX1 9 "CosineSeries$Series" "terms" "[J") (by decide +kernel)) (by first | rfl | simp [va_up, *]) dX1_put_6 ?_
  refine zalen (N := 49) (q := (i + 12)) (t0 := 0) hx hb hAm hP (by omega) (zC_t (by omega)) rfl rfl dX1_put_9 ?_
  refine zi_ge (tgt := 20) hx hb dX1_put_10 (by decide) (by omega) (by omega) (fun c1 => ?_) (fun c1 => ?_)
  ·
    exfalso; omega
  ·
    refine lv_aload_n hx hb dX1_put_13 rfl (lv_at hl 0 rfl) ?_
    refine zget (q := i) (k := 0) (v := .ref (F (i + 12))) hx hb hts hinX1 hown hAm hP (by omega) (zC_s (by omega)) rfl (by decide) (hts (.fieldLink RX1 9 "CosineSeries$Series" "terms" "[J") (by decide +kernel)) (by first | rfl | simp [va_up, *]) dX1_put_14 ?_
    refine lv_iload_n hx hb dX1_put_17 rfl (lv_at hl 1 rfl) ?_
    refine lv_lload_n hx hb dX1_put_18 rfl (lv_at hl 2 rfl) ?_
    refine zlast (q := (i + 12)) (k := j) (E' := (zCE cL cR F (va_up T i (vp_updL (T i) j x)) top Z)) hx hb hAm hP hF hS (by omega) (zC_t (by omega)) (by omega) (by decide) dX1_put_19 (by first | exact zC_ut (by omega) | (rw [zC_ut (by omega)]; simp only [bx_uu, va_up_eq])) (fun H locs hP hS => ?_)
    exact zretV hx hb hr hlk hS hP dX1_put_20 ⟨rfl, rfl⟩

set_option maxHeartbeats 4000000 in
set_option maxRecDepth 100000 in
theorem kX1_clear (l : Launch) (D : va_G) (cL cI cR : ClassId) (A : Nat → Prop) (F : Nat → Nat) (hF : zq_F A F 30) (T : Nat → Nat → Int64) (top : Nat → Nat) (Z : zZC) (i : Nat) (hi : i < 12) : zCt l yX1_clear wsX1_clear 1 24 D cL cI cR A F 30 (zCE cL cR F T top Z) [.ref (F i)] (fun v2 E2 => v2 = none ∧ E2 = (zCE cL cR F (va_up T i (fun _ => 0)) (va_up top i 0) Z)) := by
  refine zStart (cc := cX1_clear) (maxL := 1) (ret := none) (by decide +kernel) rfl (Nat.le_of_ble_eq_true rfl) ?_
  intro p e s m below meth c hx hb hr hml hlk hown hts hAm H hP hS ls hl
  have hown : s.vm.findClass RX1 = some m.cls := hown
  have hl : lv_has ls 1 [(0, .ref (F i))] := hl
  have hinX1 : ∀ w ∈ u_ws RX1 TX1 2, w ∈ wsX1_clear := by decide +kernel
  refine lv_aload_n hx hb dX1_clear_0 rfl (lv_at hl 0 rfl) ?_
  refine zget (q := i) (k := 0) (v := .ref (F (i + 12))) hx hb hts hinX1 hown hAm hP (by omega) (zC_s (by omega)) rfl (by decide) (hts (.fieldLink RX1 9 "CosineSeries$Series" "terms" "[J") (by decide +kernel)) (by first | rfl | simp [va_up, *]) dX1_clear_1 ?_
  refine lv_lconst (v := (0 : Int64)) hx hb dX1_clear_4 (by decide +kernel) ?_
  refine zcallS (As := [.ref (F (i + 12)), .long (0 : Int64)]) (rest := []) (k := 2) hx hb hml hown hts (kJ7_fill_d0a16 l D cL cI cR A F hF T top Z i hi 0) gX1_clear_J7_fill_d0a16 rfl (by decide +kernel) ⟨Nat.le_of_ble_eq_true rfl, Nat.le_of_ble_eq_true rfl⟩ hAm hP hS rfl hl.1 rfl (Nat.le_of_ble_eq_true rfl) dX1_clear_5 ⟨Nat.zero_le _, Nat.zero_le _⟩ (zkn (fun H locs hP hS => ?_))
  refine W.eq (g2 := F0 m 8 ls []) rfl ?_
  refine lv_aload_n hx hb dX1_clear_8 rfl (lv_at hl 0 rfl) ?_
  refine lv_iconst (v := nI 0) hx hb dX1_clear_9 (by decide +kernel) ?_
  refine zput (q := i) (k := 1) (ty := .int) (E' := (zCE cL cR F (va_up T i (fun _ => 0)) (va_up top i 0) Z)) hx hb hts hinX1 tyX1 tyX1_ok nmX1 hown hAm hP hF hS (by omega) (zC_s (by omega)) rfl (by decide) (hts (.fieldLink RX1 15 "CosineSeries$Series" "top" "I") (by decide +kernel)) rfl rfl rfl rfl (Nat.le_of_ble_eq_true rfl) dX1_clear_10 (by first | exact zC_us (by omega) | (rw [List.set_cons_succ, List.set_cons_zero, zC_us (by omega)]; simp only [bx_uu, va_up_eq])) (fun H locs hP hS => ?_)
  exact zretV hx hb hr hlk hS hP dX1_clear_13 ⟨rfl, rfl⟩

set_option maxHeartbeats 4000000 in
set_option maxRecDepth 100000 in
theorem kX1_take (l : Launch) (D : va_G) (cL cI cR : ClassId) (A : Nat → Prop) (F : Nat → Nat) (hF : zq_F A F 30) (T : Nat → Nat → Int64) (top : Nat → Nat) (Z : zZC) (i : Nat) (hi : i < 12) (a : Nat) (ha : a < 12) (f9 : Nat → Int64) (hf9 : T a = f9) (t9 : Nat) (ht9 : top a = t9) : zCt l yX1_take wsX1_take 1 21 D cL cI cR A F 30 (zCE cL cR F T top Z) [.ref (F i), .ref (F a)] (fun v2 E2 => v2 = none ∧ E2 = (zCE cL cR F (va_up T i f9) (va_up top i t9) Z)) := by
  refine zStart (cc := cX1_take) (maxL := 3) (ret := none) (by decide +kernel) rfl (Nat.le_of_ble_eq_true rfl) ?_
  intro p e s m below meth c hx hb hr hml hlk hown hts hAm H hP hS ls hl
  have hown : s.vm.findClass RX1 = some m.cls := hown
  have hl : lv_has ls 3 [(0, .ref (F i)), (1, .ref (F a))] := hl
  have hinX1 : ∀ w ∈ u_ws RX1 TX1 2, w ∈ wsX1_take := by decide +kernel
  refine lv_iconst (v := nI 0) hx hb dX1_take_0 (by decide +kernel) ?_
  refine lv_istore_n (lv' := [(2, .int (nI 0)), (0, .ref (F i)), (1, .ref (F a))]) hx hb dX1_take_1 rfl hl (by decide) rfl (fun ls hl => ?_)
  have hP : va_P D vwCl (zq_wd F 30 (zCE cL cR F (va_up T i (T i)) top Z)) H := by rw [zup_self]; exact hP
  have L2 : ∀ (n : Nat) (k : Nat) (f : Nat → Int64) (hk : k ≤ 49) (hf : ∀ j, j < k → f j = T a j) (hai : a = i → f = T i) (hn : 49 - k < n) (H : Heap) (locs : List Loc), va_P D vwCl (zq_wd F 30 (zCE cL cR F (va_up T i f) top Z)) H → va_S A s.heap H locs → ∀ (ls : Array Slot), lv_has ls 3 [(0, .ref (F i)), (1, .ref (F a)), (2, .int (nI k))] → W p l e ({ frames := 1, cells := 0, slots := 0, locals := 21 }) s m ([.ref (F i), .ref (F a)] : List Value).toArray below meth c H locs 0 0 (zQ below D A F 30 [.ref (F i), .ref (F a)] s (fun v2 E2 => v2 = none ∧ E2 = (zCE cL cR F (va_up T i f9) (va_up top i t9) Z))) (F0 m 2 ls []) := by
    intro n
    induction n with
    | zero =>
      intro k f hk hf hai hn
      exact absurd hn (Nat.not_lt_zero _)
    | succ n ih2 =>
      intro k f hk hf hai hn H locs hP hS ls hl
      refine lv_iload_n hx hb dX1_take_2 rfl (lv_at hl 2 rfl) ?_
      refine lv_aload_n hx hb dX1_take_3 rfl (lv_at hl 0 rfl) ?_
      refine zget (q := i) (k := 0) (v := .ref (F (i + 12))) hx hb hts hinX1 hown hAm hP (by omega) (zC_s (by omega)) rfl (by decide) (hts (.fieldLink RX1 9 "CosineSeries$Series" "terms" "[J") (by decide +kernel)) (by first | rfl | simp [va_up, *]) dX1_take_4 ?_
      refine zalen (N := 49) (q := (i + 12)) (t0 := 0) hx hb hAm hP (by omega) (zC_t (by omega)) rfl rfl dX1_take_7 ?_
      refine zi_ge (tgt := 28) hx hb dX1_take_8 (by decide) (by omega) (by omega) (fun c1 => ?_) (fun c1 => ?_)
      ·
        have hP : va_P D vwCl (zq_wd F 30 (zCE cL cR F (va_up T i (T a)) top Z)) H := zC_extT hP (zupx (fun j hj => hf j (by omega)))
        refine lv_aload_n hx hb dX1_take_28 rfl (lv_at hl 0 rfl) ?_
        refine lv_aload_n hx hb dX1_take_29 rfl (lv_at hl 1 rfl) ?_
        refine zget (q := a) (k := 1) (v := .int (nI (top a))) hx hb hts hinX1 hown hAm hP (by omega) (zC_s (by omega)) rfl (by decide) (hts (.fieldLink RX1 15 "CosineSeries$Series" "top" "I") (by decide +kernel)) (by first | rfl | simp [va_up, *]) dX1_take_30 ?_
        refine zput (q := i) (k := 1) (ty := .int) (E' := (zCE cL cR F (va_up T i (T a)) (va_up top i (top a)) Z)) hx hb hts hinX1 tyX1 tyX1_ok nmX1 hown hAm hP hF hS (by omega) (zC_s (by omega)) rfl (by decide) (hts (.fieldLink RX1 15 "CosineSeries$Series" "top" "I") (by decide +kernel)) rfl rfl rfl rfl (Nat.le_of_ble_eq_true rfl) dX1_take_33 (by first | exact zC_us (by omega) | (rw [List.set_cons_succ, List.set_cons_zero, zC_us (by omega)]; simp only [bx_uu, va_up_eq])) (fun H locs hP hS => ?_)
        exact zretV hx hb hr hlk hS hP dX1_take_36 ⟨rfl, by rw [hf9, ht9]⟩
      ·
        have hva : va_up T i f a k = T a k := by
          by_cases h : a = i
          · rw [hai h]; subst h; rw [va_up_eq]
          · simp [va_up, h]
        refine lv_aload_n hx hb dX1_take_11 rfl (lv_at hl 0 rfl) ?_
        refine zget (q := i) (k := 0) (v := .ref (F (i + 12))) hx hb hts hinX1 hown hAm hP (by omega) (zC_s (by omega)) rfl (by decide) (hts (.fieldLink RX1 9 "CosineSeries$Series" "terms" "[J") (by decide +kernel)) (by first | rfl | simp [va_up, *]) dX1_take_12 ?_
        refine lv_iload_n hx hb dX1_take_15 rfl (lv_at hl 2 rfl) ?_
        refine lv_aload_n hx hb dX1_take_16 rfl (lv_at hl 1 rfl) ?_
        refine lv_iload_n hx hb dX1_take_17 rfl (lv_at hl 2 rfl) ?_
        refine zcallV (As := [.int (nI k)]) (rest := [.int (nI k), .ref (F (i + 12))]) (q := a) (k := 1) hx hb hml hown hts (kX1_at l D cL cI cR A F hF (va_up T i f) top Z a ha k (by omega) (T a k) hva) gX1_take_X1_at rfl (by decide +kernel) ⟨Nat.le_of_ble_eq_true rfl, Nat.le_of_ble_eq_true rfl⟩ rfl (by omega) (zC_s (by omega)) rfl rfl hAm hP hS rfl hl.1 rfl (Nat.le_of_ble_eq_true rfl) dX1_take_18 ⟨Nat.zero_le _, Nat.zero_le _⟩ (zkn (fun H locs hP hS => ?_))
        refine W.eq (g2 := F0 m 21 ls [.long (T a k), .int (nI k), .ref (F (i + 12))]) rfl ?_
        refine zlast (q := (i + 12)) (k := k) (E' := (zCE cL cR F (va_up T i (vp_updL f k (T a k))) top Z)) hx hb hAm hP hF hS (by omega) (zC_t (by omega)) (by omega) (by decide) dX1_take_21 (by first | exact zC_ut (by omega) | (rw [zC_ut (by omega)]; simp only [bx_uu, va_up_eq])) (fun H locs hP hS => ?_)
        refine lv_iinc (v := (nI (k + 1))) (lv' := [(2, .int (nI (k + 1))), (0, .ref (F i)), (1, .ref (F a))]) hx hb dX1_take_22 hl (k := 2) rfl (zinc (by omega)) (by decide) rfl (fun ls hl => ?_)
        refine lv_goto (tgt := 2) hx hb dX1_take_25 (by decide) ?_
        exact ih2 (k + 1) _ (by omega) (fun j hj => by unfold vp_updL; split; rename_i h; rw [h]; exact hf j (by omega)) (fun h => by rw [hai h]; subst h; funext j; unfold vp_updL; split; rename_i h; rw [h]; rfl) (by omega) H _ hP hS ls (lv_sub hl [1, 2, 0] rfl)
  exact L2 _ 0 _ (by omega) (fun j hj => absurd hj (Nat.not_lt_zero _)) (fun _ => rfl) (Nat.lt_succ_self _) H _ hP hS ls (lv_sub hl [1, 2, 0] rfl)

set_option maxHeartbeats 4000000 in
set_option maxRecDepth 100000 in
theorem kX1_trim (l : Launch) (D : va_G) (cL cI cR : ClassId) (A : Nat → Prop) (F : Nat → Nat) (hF : zq_F A F 30) (T : Nat → Nat → Int64) (top : Nat → Nat) (Z : zZC) (i : Nat) (hi : i < 12) (f : Nat → Int64) (hf : T i = f) (t2 : Nat → Nat) (ht2 : va_up top i (ztop f 48) = t2) : zCt l yX1_trim wsX1_trim 0 0 D cL cI cR A F 30 (zCE cL cR F T top Z) [.ref (F i)] (fun v2 E2 => v2 = none ∧ E2 = (zCE cL cR F T t2 Z)) := by
  refine zStart (cc := cX1_trim) (maxL := 2) (ret := none) (by decide +kernel) rfl (Nat.le_of_ble_eq_true rfl) ?_
  intro p e s m below meth c hx hb hr hml hlk hown hts hAm H hP hS ls hl
  have hown : s.vm.findClass RX1 = some m.cls := hown
  have hl : lv_has ls 2 [(0, .ref (F i))] := hl
  have hinX1 : ∀ w ∈ u_ws RX1 TX1 2, w ∈ wsX1_trim := by decide +kernel
  subst hf
  refine lv_aload_n hx hb dX1_trim_0 rfl (lv_at hl 0 rfl) ?_
  refine lv_iconst (v := nI 0) hx hb dX1_trim_1 (by decide +kernel) ?_
  refine zput (q := i) (k := 1) (ty := .int) (E' := (zCE cL cR F T (va_up top i 0) Z)) hx hb hts hinX1 tyX1 tyX1_ok nmX1 hown hAm hP hF hS (by omega) (zC_s (by omega)) rfl (by decide) (hts (.fieldLink RX1 15 "CosineSeries$Series" "top" "I") (by decide +kernel)) rfl rfl rfl rfl (Nat.le_of_ble_eq_true rfl) dX1_trim_2 (by first | exact zC_us (by omega) | (rw [List.set_cons_succ, List.set_cons_zero, zC_us (by omega)]; simp only [bx_uu, va_up_eq])) (fun H locs hP hS => ?_)
  refine lv_iconst (v := nI 1) hx hb dX1_trim_5 (by decide +kernel) ?_
  refine lv_istore_n (lv' := [(1, .int (nI 1)), (0, .ref (F i))]) hx hb dX1_trim_6 rfl hl (by decide) rfl (fun ls hl => ?_)
  have L7 : ∀ (n : Nat) (j t : Nat) (hj : j ≤ 48) (ht : t = ztop (T i) j) (hn : 48 - j < n) (H : Heap) (locs : List Loc), va_P D vwCl (zq_wd F 30 (zCE cL cR F T (va_up top i t) Z)) H → va_S A s.heap H locs → ∀ (ls : Array Slot), lv_has ls 2 [(0, .ref (F i)), (1, .int (nI (j + 1)))] → W p l e ({ frames := 0, cells := 0, slots := 0, locals := 0 }) s m ([.ref (F i)] : List Value).toArray below meth c H locs 0 0 (zQ below D A F 30 [.ref (F i)] s (fun v2 E2 => v2 = none ∧ E2 = (zCE cL cR F T t2 Z))) (F0 m 7 ls []) := by
    intro n
    induction n with
    | zero =>
      intro j t hj ht hn
      exact absurd hn (Nat.not_lt_zero _)
    | succ n ih7 =>
      intro j t hj ht hn H locs hP hS ls hl
      refine lv_iload_n hx hb dX1_trim_7 rfl (lv_at hl 1 rfl) ?_
      refine lv_aload_n hx hb dX1_trim_8 rfl (lv_at hl 0 rfl) ?_
      refine zget (q := i) (k := 0) (v := .ref (F (i + 12))) hx hb hts hinX1 hown hAm hP (by omega) (zC_s (by omega)) rfl (by decide) (hts (.fieldLink RX1 9 "CosineSeries$Series" "terms" "[J") (by decide +kernel)) (by first | rfl | simp [va_up, *]) dX1_trim_9 ?_
      refine zalen (N := 49) (q := (i + 12)) (t0 := 0) hx hb hAm hP (by omega) (zC_t (by omega)) rfl rfl dX1_trim_12 ?_
      refine zi_ge (tgt := 38) hx hb dX1_trim_13 (by decide) (by omega) (by omega) (fun c1 => ?_) (fun c1 => ?_)
      ·
        exact zretV hx hb hr hlk hS hP dX1_trim_38 ⟨rfl, by rw [← ht2, ht, show j = 48 by omega]⟩
      ·
        refine lv_aload_n hx hb dX1_trim_16 rfl (lv_at hl 0 rfl) ?_
        refine zget (q := i) (k := 0) (v := .ref (F (i + 12))) hx hb hts hinX1 hown hAm hP (by omega) (zC_s (by omega)) rfl (by decide) (hts (.fieldLink RX1 9 "CosineSeries$Series" "terms" "[J") (by decide +kernel)) (by first | rfl | simp [va_up, *]) dX1_trim_17 ?_
        refine lv_iload_n hx hb dX1_trim_20 rfl (lv_at hl 1 rfl) ?_
        refine zlald (q := (i + 12)) (k := (j + 1)) (v := ((T i) (j + 1))) hx hb hAm hP (by omega) (zC_t (by omega)) (by omega) (by decide) (by first | rfl | simp [va_up, *]) dX1_trim_21 ?_
        refine lv_lconst (v := (0 : Int64)) hx hb dX1_trim_22 (by decide +kernel) ?_
        refine zl_eq (tgt := 32) hx hb dX1_trim_23 dX1_trim_24 (by decide) (fun c2 => ?_) (fun c2 => ?_)
        ·
          refine lv_iinc (v := (nI (j + 2))) (lv' := [(1, .int (nI (j + 2))), (0, .ref (F i))]) hx hb dX1_trim_32 hl (k := 1) rfl (zinc (by omega)) (by decide) rfl (fun ls hl => ?_)
          refine lv_goto (tgt := 7) hx hb dX1_trim_35 (by decide) ?_
          exact ih7 (j + 1) t (by omega) (by simp [ztop, *]) (by omega) H _ hP hS ls (lv_sub hl [1, 0] rfl)
        ·
          refine lv_aload_n hx hb dX1_trim_27 rfl (lv_at hl 0 rfl) ?_
          refine lv_iload_n hx hb dX1_trim_28 rfl (lv_at hl 1 rfl) ?_
          refine zput (q := i) (k := 1) (ty := .int) (E' := (zCE cL cR F T (va_up top i (j + 1)) Z)) hx hb hts hinX1 tyX1 tyX1_ok nmX1 hown hAm hP hF hS (by omega) (zC_s (by omega)) rfl (by decide) (hts (.fieldLink RX1 15 "CosineSeries$Series" "top" "I") (by decide +kernel)) rfl rfl rfl rfl (Nat.le_of_ble_eq_true rfl) dX1_trim_29 (by first | exact zC_us (by omega) | (rw [List.set_cons_succ, List.set_cons_zero, zC_us (by omega)]; simp only [bx_uu, va_up_eq])) (fun H locs hP hS => ?_)
          refine lv_iinc (v := (nI (j + 2))) (lv' := [(1, .int (nI (j + 2))), (0, .ref (F i))]) hx hb dX1_trim_32 hl (k := 1) rfl (zinc (by omega)) (by decide) rfl (fun ls hl => ?_)
          refine lv_goto (tgt := 7) hx hb dX1_trim_35 (by decide) ?_
          exact ih7 (j + 1) (j + 1) (by omega) (by simp [ztop, *]) (by omega) H _ hP hS ls (lv_sub hl [1, 0] rfl)
  exact L7 _ 0 0 (by omega) rfl (Nat.lt_succ_self _) H _ hP hS ls (lv_sub hl [1, 0] rfl)

set_option maxHeartbeats 4000000 in
set_option maxRecDepth 100000 in
theorem kX1_error (l : Launch) (D : va_G) (cL cI cR : ClassId) (A : Nat → Prop) (F : Nat → Nat) (hF : zq_F A F 30) (T : Nat → Nat → Int64) (top : Nat → Nat) (Z : zZC) (i : Nat) (hi : i < 12) (f : Nat → Int64) (hf : T i = f) (t : Nat) (ht : top i = t) (hi48 : t < 1000) : zCt l yX1_error wsX1_error 1 13 D cL cI cR A F 30 (zCE cL cR F T top Z) [.ref (F i)] (fun v2 E2 => v2 = (some (.long (zerr f t 49))) ∧ E2 = (zCE cL cR F T top Z)) := by
  refine zStart (cc := cX1_error) (maxL := 6) (ret := (some .long)) (by decide +kernel) rfl (Nat.le_of_ble_eq_true rfl) ?_
  intro p e s m below meth c hx hb hr hml hlk hown hts hAm H hP hS ls hl
  have hown : s.vm.findClass RX1 = some m.cls := hown
  have hl : lv_has ls 6 [(0, .ref (F i))] := hl
  have hinX1 : ∀ w ∈ u_ws RX1 TX1 2, w ∈ wsX1_error := by decide +kernel
  subst hf; subst ht
  refine lv_aload_n hx hb dX1_error_0 rfl (lv_at hl 0 rfl) ?_
  refine zget (q := i) (k := 1) (v := .int (nI (top i))) hx hb hts hinX1 hown hAm hP (by omega) (zC_s (by omega)) rfl (by decide) (hts (.fieldLink RX1 15 "CosineSeries$Series" "top" "I") (by decide +kernel)) (by first | rfl | simp [va_up, *]) dX1_error_1 ?_
  refine lv_bipush (v := nI 24) hx hb dX1_error_4 (by decide +kernel) ?_
  refine zi_le (tgt := 13) hx hb dX1_error_6 (by decide) (by omega) (by omega) (fun c1 => ?_) (fun c1 => ?_)
  ·
    refine lv_aload_n hx hb dX1_error_13 rfl (lv_at hl 0 rfl) ?_
    refine zget (q := i) (k := 0) (v := .ref (F (i + 12))) hx hb hts hinX1 hown hAm hP (by omega) (zC_s (by omega)) rfl (by decide) (hts (.fieldLink RX1 9 "CosineSeries$Series" "terms" "[J") (by decide +kernel)) (by first | rfl | simp [va_up, *]) dX1_error_14 ?_
    refine lv_astore_n (lv' := [(1, .ref (F (i + 12))), (0, .ref (F i))]) hx hb dX1_error_17 rfl hl (by decide) rfl (fun ls hl => ?_)
    refine lv_aload_n hx hb dX1_error_18 rfl (lv_at hl 0 rfl) ?_
    refine zalen (N := 49) (q := (i + 12)) (t0 := 0) hx hb hAm hP (by omega) (zC_t (by omega)) rfl rfl dX1_error_19 ?_
    refine lv_istore_n (lv' := [(2, .int (nI 49)), (1, .ref (F (i + 12))), (0, .ref (F i))]) hx hb dX1_error_20 rfl hl (by decide) rfl (fun ls hl => ?_)
    refine lv_iconst (v := nI 0) hx hb dX1_error_21 (by decide +kernel) ?_
    refine lv_istore_n (lv' := [(3, .int (nI 0)), (2, .int (nI 49)), (1, .ref (F (i + 12))), (0, .ref (F i))]) hx hb dX1_error_22 rfl hl (by decide) rfl (fun ls hl => ?_)
    have L23 : ∀ (n : Nat) (k : Nat) (hk : k ≤ 49) (hg : zbig (T i) k = false) (hn : 49 - k < n) (H : Heap) (locs : List Loc), va_P D vwCl (zq_wd F 30 (zCE cL cR F T top Z)) H → va_S A s.heap H locs → ∀ (ls : Array Slot), lv_has ls 6 [(0, .ref (F i)), (1, .ref (F (i + 12))), (2, .int (nI 49)), (3, .int (nI k))] → W p l e ({ frames := 1, cells := 0, slots := 0, locals := 13 }) s m ([.ref (F i)] : List Value).toArray below meth c H locs 0 0 (zQ below D A F 30 [.ref (F i)] s (fun v2 E2 => v2 = (some (.long (zerr (T i) (top i) 49))) ∧ E2 = (zCE cL cR F T top Z))) (F0 m 23 ls []) := by
      intro n
      induction n with
      | zero =>
        intro k hk hg hn
        exact absurd hn (Nat.not_lt_zero _)
      | succ n ih23 =>
        intro k hk hg hn H locs hP hS ls hl
        refine lv_iload_n hx hb dX1_error_23 rfl (lv_at hl 3 rfl) ?_
        refine lv_iload_n hx hb dX1_error_24 rfl (lv_at hl 2 rfl) ?_
        refine zi_ge (tgt := 55) hx hb dX1_error_25 (by decide) (by omega) (by omega) (fun c2 => ?_) (fun c2 => ?_)
        ·
          refine lv_lconst (v := (0 : Int64)) hx hb dX1_error_55 (by decide +kernel) ?_
          exact zretL hx hb hr hlk hS hP dX1_error_56 ⟨by unfold zerr; rw [if_neg (by omega), show (49 : Nat) = k by omega, hg]; rfl, rfl⟩
        ·
          refine lv_aload_n hx hb dX1_error_28 rfl (lv_at hl 1 rfl) ?_
          refine lv_iload_n hx hb dX1_error_29 rfl (lv_at hl 3 rfl) ?_
          refine zlald (q := (i + 12)) (k := k) (v := ((T i) k)) hx hb hAm hP (by omega) (zC_t (by omega)) (by omega) (by decide) (by first | rfl | simp [va_up, *]) dX1_error_30 ?_
          refine lv_lstore (lv' := [(4, .long ((T i) k)), (0, .ref (F i)), (1, .ref (F (i + 12))), (2, .int (nI 49)), (3, .int (nI k))]) hx hb dX1_error_31 hl (by decide) rfl (fun ls hl => ?_)
          refine lv_lload hx hb dX1_error_33 (lv_at hl 0 rfl) ?_
          refine va_mabs_long hx hb (hml.trans hl.1.symm) hown (hts (.methodLink RX1 31 Lib.MathLoose.abs_long.x) (by decide +kernel)) (hts (.static Lib.MathLoose.abs_long.x) (by decide +kernel)) (hts (.initialized "java/lang/Math") (by decide +kernel)) (hts (.code Lib.MathLoose.abs_long.x Lib.MathLoose.abs_long.code 2 (some .long)) (by decide +kernel)) (Nat.le_of_ble_eq_true rfl) (Nat.le_of_ble_eq_true rfl) (Nat.zero_le _) (Nat.zero_le _) dX1_error_35 ?_
          refine W.eq (g2 := F0 m 38 ls [.long (zabs ((T i) k))]) rfl ?_
          refine lv_ldc2 hx hb hown (hts (.constantLong RX1 37 (268435456)) (by decide +kernel)) dX1_error_38 ?_
          refine zl_le (tgt := 49) hx hb dX1_error_41 dX1_error_42 (by decide) (fun c3 => ?_) (fun c3 => ?_)
          ·
            refine lv_iinc (v := (nI (k + 1))) (lv' := [(3, .int (nI (k + 1))), (4, .long ((T i) k)), (0, .ref (F i)), (1, .ref (F (i + 12))), (2, .int (nI 49))]) hx hb dX1_error_49 hl (k := 4) rfl (zinc (by omega)) (by decide) rfl (fun ls hl => ?_)
            refine lv_goto (tgt := 23) hx hb dX1_error_52 (by decide) ?_
            exact ih23 (k + 1) (by omega) (zbig_s hg c3) (by omega) H _ hP hS ls (lv_sub hl [2, 3, 4, 0] rfl)
          ·
            refine lv_ldc2 hx hb hown (hts (.constantLong RX1 39 (-9000000000000000003)) (by decide +kernel)) dX1_error_45 ?_
            exact zretL hx hb hr hlk hS hP dX1_error_48 ⟨by unfold zerr; rw [if_neg (by omega), if_pos (zbig_of (Int64.not_le.mp c3) 49 (by omega))], rfl⟩
    exact L23 _ 0 (by omega) rfl (Nat.lt_succ_self _) H _ hP hS ls (lv_sub hl [3, 2, 1, 0] rfl)
  ·
    refine lv_ldc2 hx hb hown (hts (.constantLong RX1 29 (-9000000000000000002)) (by decide +kernel)) dX1_error_9 ?_
    exact zretL hx hb hr hlk hS hP dX1_error_12 ⟨by unfold zerr; rw [if_pos c1], rfl⟩

set_option maxHeartbeats 4000000 in
set_option maxRecDepth 100000 in
theorem kX1_valueAt (l : Launch) (D : va_G) (cL cI cR : ClassId) (A : Nat → Prop) (F : Nat → Nat) (hF : zq_F A F 30) (T : Nat → Nat → Int64) (top : Nat → Nat) (Z : zZC) (i : Nat) (hi : i < 12) (x : Int64) (f : Nat → Int64) (hf : T i = f) (t : Nat) (ht : top i = t) (hi48 : t ≤ 48) : zCt l yX1_valueAt wsX1_valueAt 2 52 D cL cI cR A F 30 (zCE cL cR F T top Z) [.ref (F i), .long x] (fun v2 E2 => v2 = (some (.long (zval f t x))) ∧ E2 = (zCE cL cR F T top Z)) := by
  refine zStart (cc := cX1_valueAt) (maxL := 10) (ret := (some .long)) (by decide +kernel) rfl (Nat.le_of_ble_eq_true rfl) ?_
  intro p e s m below meth c hx hb hr hml hlk hown hts hAm H hP hS ls hl
  have hown : s.vm.findClass RX1 = some m.cls := hown
  have hl : lv_has ls 10 [(0, .ref (F i)), (1, .long x)] := hl
  have hinX1 : ∀ w ∈ u_ws RX1 TX1 2, w ∈ wsX1_valueAt := by decide +kernel
  subst hf; subst ht
  refine lv_lconst (v := (0 : Int64)) hx hb dX1_valueAt_0 (by decide +kernel) ?_
  refine lv_lstore_n (lv' := [(3, .long (0 : Int64)), (0, .ref (F i)), (1, .long x)]) hx hb dX1_valueAt_1 rfl hl (by decide) rfl (fun ls hl => ?_)
  refine lv_lconst (v := (0 : Int64)) hx hb dX1_valueAt_2 (by decide +kernel) ?_
  refine lv_lstore (lv' := [(5, .long (0 : Int64)), (3, .long (0 : Int64)), (0, .ref (F i)), (1, .long x)]) hx hb dX1_valueAt_3 hl (by decide) rfl (fun ls hl => ?_)
  refine lv_aload_n hx hb dX1_valueAt_5 rfl (lv_at hl 2 rfl) ?_
  refine zget (q := i) (k := 1) (v := .int (nI (top i))) hx hb hts hinX1 hown hAm hP (by omega) (zC_s (by omega)) rfl (by decide) (hts (.fieldLink RX1 15 "CosineSeries$Series" "top" "I") (by decide +kernel)) (by first | rfl | simp [va_up, *]) dX1_valueAt_6 ?_
  refine lv_istore (lv' := [(7, .int (nI (top i))), (5, .long (0 : Int64)), (3, .long (0 : Int64)), (0, .ref (F i)), (1, .long x)]) hx hb dX1_valueAt_9 hl (by decide) rfl (fun ls hl => ?_)
  have L11 : ∀ (n : Nat) (k : Nat) (b d : Int64) (hk : k ≤ 48) (hv : zclen (T i) x k b d = zval (T i) (top i) x) (hn : k < n) (H : Heap) (locs : List Loc), va_P D vwCl (zq_wd F 30 (zCE cL cR F T top Z)) H → va_S A s.heap H locs → ∀ (ls : Array Slot), lv_has ls 10 [(0, .ref (F i)), (1, .long x), (3, .long b), (5, .long d), (7, .int (nI k))] → W p l e ({ frames := 2, cells := 0, slots := 0, locals := 52 }) s m ([.ref (F i), .long x] : List Value).toArray below meth c H locs 0 0 (zQ below D A F 30 [.ref (F i), .long x] s (fun v2 E2 => v2 = (some (.long (zval (T i) (top i) x))) ∧ E2 = (zCE cL cR F T top Z))) (F0 m 11 ls []) := by
    intro n
    induction n with
    | zero =>
      intro k b d hk hv hn
      exact absurd hn (Nat.not_lt_zero _)
    | succ n ih11 =>
      intro k b d hk hv hn H locs hP hS ls hl
      refine lv_iload hx hb dX1_valueAt_11 (lv_at hl 4 rfl) ?_
      refine lv_iconst (v := nI 1) hx hb dX1_valueAt_13 (by decide +kernel) ?_
      refine zi_lt (tgt := 54) hx hb dX1_valueAt_14 (by decide) (by omega) (by omega) (fun c1 => ?_) (fun c1 => ?_)
      ·
        obtain rfl : k = 0 := by omega
        have hl : lv_has ls 10 [(0, .ref (F i)), (1, .long x), (3, .long b), (5, .long d), (7, .int (nI 0))] := by exact hl
        refine lv_aload_n hx hb dX1_valueAt_54 rfl (lv_at hl 0 rfl) ?_
        refine lv_iconst (v := nI 0) hx hb dX1_valueAt_55 (by decide +kernel) ?_
        refine zcallV (As := [.int (nI 0)]) (rest := []) (q := i) (k := 1) hx hb hml hown hts (kX1_at l D cL cI cR A F hF T top Z i (by omega) 0 (by omega) ((T i) 0) (by first | rfl | simp [va_up, *])) gX1_valueAt_X1_at rfl (by decide +kernel) ⟨Nat.le_of_ble_eq_true rfl, Nat.le_of_ble_eq_true rfl⟩ rfl (by omega) (zC_s (by omega)) rfl rfl hAm hP hS rfl hl.1 rfl (Nat.le_of_ble_eq_true rfl) dX1_valueAt_56 ⟨Nat.zero_le _, Nat.zero_le _⟩ (zkn (fun H locs hP hS => ?_))
        refine W.eq (g2 := F0 m 59 ls [.long ((T i) 0)]) rfl ?_
        refine lv_lload_n hx hb dX1_valueAt_59 rfl (lv_at hl 1 rfl) ?_
        refine lv_lload_n hx hb dX1_valueAt_60 rfl (lv_at hl 2 rfl) ?_
        refine lv_lmul hx hb dX1_valueAt_61 ?_
        refine lv_ldc2 hx hb hown (hts (.constantLong RX1 43 (1048576)) (by decide +kernel)) dX1_valueAt_62 ?_
        refine zcallN (As := [.long (x * b), .long (1048576 : Int64)]) (rest := [.long ((T i) 0)]) (k := 2) hx hb hml hown hts (kX2_rounded l D cL cI cR A F 30 (zCE cL cR F T top Z) (x * b) (1048576 : Int64) (by decide)) gX1_valueAt_X2_rounded_n45 rfl hAm.2.1 (hts (.initialized RX2) (by decide +kernel)) (hts (.static yX2_rounded) (by decide +kernel)) (by decide +kernel) ⟨Nat.le_of_ble_eq_true rfl, Nat.le_of_ble_eq_true rfl⟩ hAm hP hS rfl hl.1 rfl (Nat.le_of_ble_eq_true rfl) dX1_valueAt_65 ⟨Nat.zero_le _, Nat.zero_le _⟩ (zkn (fun H locs hP hS => ?_))
        refine W.eq (g2 := F0 m 68 ls [.long (zR (x * b) (1048576 : Int64)), .long ((T i) 0)]) rfl ?_
        refine lv_ladd hx hb dX1_valueAt_68 ?_
        refine lv_lload hx hb dX1_valueAt_69 (lv_at hl 3 rfl) ?_
        refine lv_lsub hx hb dX1_valueAt_71 ?_
        exact zretL hx hb hr hlk hS hP dX1_valueAt_72 ⟨by rw [← hv]; rfl, rfl⟩
      ·
        obtain ⟨k, rfl⟩ : ∃ j, k = j + 1 := ⟨k - 1, by omega⟩
        have hl : lv_has ls 10 [(0, .ref (F i)), (1, .long x), (3, .long b), (5, .long d), (7, .int (nI (k + 1)))] := by exact hl
        refine lv_aload_n hx hb dX1_valueAt_17 rfl (lv_at hl 0 rfl) ?_
        refine lv_iload hx hb dX1_valueAt_18 (lv_at hl 4 rfl) ?_
        refine zcallV (As := [.int (nI (k + 1))]) (rest := []) (q := i) (k := 1) hx hb hml hown hts (kX1_at l D cL cI cR A F hF T top Z i (by omega) (k + 1) (by omega) ((T i) (k + 1)) (by first | rfl | simp [va_up, *])) gX1_valueAt_X1_at rfl (by decide +kernel) ⟨Nat.le_of_ble_eq_true rfl, Nat.le_of_ble_eq_true rfl⟩ rfl (by omega) (zC_s (by omega)) rfl rfl hAm hP hS rfl hl.1 rfl (Nat.le_of_ble_eq_true rfl) dX1_valueAt_20 ⟨Nat.zero_le _, Nat.zero_le _⟩ (zkn (fun H locs hP hS => ?_))
        refine W.eq (g2 := F0 m 23 ls [.long ((T i) (k + 1))]) rfl ?_
        refine lv_ldc2 hx hb hown (hts (.constantLong RX1 41 (2)) (by decide +kernel)) dX1_valueAt_23 ?_
        refine lv_lload_n hx hb dX1_valueAt_26 rfl (lv_at hl 1 rfl) ?_
        refine lv_lmul hx hb dX1_valueAt_27 ?_
        refine lv_lload_n hx hb dX1_valueAt_28 rfl (lv_at hl 2 rfl) ?_
        refine lv_lmul hx hb dX1_valueAt_29 ?_
        refine lv_ldc2 hx hb hown (hts (.constantLong RX1 43 (1048576)) (by decide +kernel)) dX1_valueAt_30 ?_
        refine zcallN (As := [.long (((2 : Int64) * x) * b), .long (1048576 : Int64)]) (rest := [.long ((T i) (k + 1))]) (k := 2) hx hb hml hown hts (kX2_rounded l D cL cI cR A F 30 (zCE cL cR F T top Z) (((2 : Int64) * x) * b) (1048576 : Int64) (by decide)) gX1_valueAt_X2_rounded_n45 rfl hAm.2.1 (hts (.initialized RX2) (by decide +kernel)) (hts (.static yX2_rounded) (by decide +kernel)) (by decide +kernel) ⟨Nat.le_of_ble_eq_true rfl, Nat.le_of_ble_eq_true rfl⟩ hAm hP hS rfl hl.1 rfl (Nat.le_of_ble_eq_true rfl) dX1_valueAt_33 ⟨Nat.zero_le _, Nat.zero_le _⟩ (zkn (fun H locs hP hS => ?_))
        refine W.eq (g2 := F0 m 36 ls [.long (zR (((2 : Int64) * x) * b) (1048576 : Int64)), .long ((T i) (k + 1))]) rfl ?_
        refine lv_ladd hx hb dX1_valueAt_36 ?_
        refine lv_lload hx hb dX1_valueAt_37 (lv_at hl 3 rfl) ?_
        refine lv_lsub hx hb dX1_valueAt_39 ?_
        refine lv_lstore (lv' := [(8, .long ((((T i) (k + 1)) + (zR (((2 : Int64) * x) * b) (1048576 : Int64))) - d)), (0, .ref (F i)), (1, .long x), (3, .long b), (5, .long d), (7, .int (nI (k + 1)))]) hx hb dX1_valueAt_40 hl (by decide) rfl (fun ls hl => ?_)
        refine lv_lload_n hx hb dX1_valueAt_42 rfl (lv_at hl 3 rfl) ?_
        refine lv_lstore (lv' := [(5, .long b), (8, .long ((((T i) (k + 1)) + (zR (((2 : Int64) * x) * b) (1048576 : Int64))) - d)), (0, .ref (F i)), (1, .long x), (3, .long b), (7, .int (nI (k + 1)))]) hx hb dX1_valueAt_43 hl (by decide) rfl (fun ls hl => ?_)
        refine lv_lload hx hb dX1_valueAt_45 (lv_at hl 1 rfl) ?_
        refine lv_lstore_n (lv' := [(3, .long ((((T i) (k + 1)) + (zR (((2 : Int64) * x) * b) (1048576 : Int64))) - d)), (5, .long b), (8, .long ((((T i) (k + 1)) + (zR (((2 : Int64) * x) * b) (1048576 : Int64))) - d)), (0, .ref (F i)), (1, .long x), (7, .int (nI (k + 1)))]) hx hb dX1_valueAt_47 rfl hl (by decide) rfl (fun ls hl => ?_)
        refine lv_iinc (v := (nI k)) (lv' := [(7, .int (nI k)), (3, .long ((((T i) (k + 1)) + (zR (((2 : Int64) * x) * b) (1048576 : Int64))) - d)), (5, .long b), (8, .long ((((T i) (k + 1)) + (zR (((2 : Int64) * x) * b) (1048576 : Int64))) - d)), (0, .ref (F i)), (1, .long x)]) hx hb dX1_valueAt_48 hl (k := 5) rfl (zinc (by omega)) (by decide) rfl (fun ls hl => ?_)
        refine lv_goto (tgt := 11) hx hb dX1_valueAt_51 (by decide) ?_
        exact ih11 k ((((T i) (k + 1)) + (zR (((2 : Int64) * x) * b) (1048576 : Int64))) - d) b (by omega) hv (by omega) H _ hP hS ls (lv_sub hl [4, 5, 1, 2, 0] rfl)
  exact L11 _ (top i) 0 0 (by omega) rfl (Nat.lt_succ_self _) H _ hP hS ls (lv_sub hl [3, 4, 2, 1, 0] rfl)

set_option maxHeartbeats 4000000 in
set_option maxRecDepth 100000 in
theorem kX1_topWithin (l : Launch) (D : va_G) (cL cI cR : ClassId) (A : Nat → Prop) (F : Nat → Nat) (hF : zq_F A F 30) (T : Nat → Nat → Int64) (top : Nat → Nat) (Z : zZC) (i : Nat) (hi : i < 12) (tol : Int32) (f : Nat → Int64) (hf : T i = f) (t : Nat) (ht : top i = t) (hi48 : t ≤ 48) : zCt l yX1_topWithin wsX1_topWithin 1 21 D cL cI cR A F 30 (zCE cL cR F T top Z) [.ref (F i), .int tol] (fun v2 E2 => v2 = (some (.int (nI (ztw f tol.toInt64 t 0)))) ∧ E2 = (zCE cL cR F T top Z)) := by
  refine zStart (cc := cX1_topWithin) (maxL := 5) (ret := (some .int)) (by decide +kernel) rfl (Nat.le_of_ble_eq_true rfl) ?_
  intro p e s m below meth c hx hb hr hml hlk hown hts hAm H hP hS ls hl
  have hown : s.vm.findClass RX1 = some m.cls := hown
  have hl : lv_has ls 5 [(0, .ref (F i)), (1, .int tol)] := hl
  have hinX1 : ∀ w ∈ u_ws RX1 TX1 2, w ∈ wsX1_topWithin := by decide +kernel
  subst hf; subst ht
  refine lv_aload_n hx hb dX1_topWithin_0 rfl (lv_at hl 0 rfl) ?_
  refine zget (q := i) (k := 1) (v := .int (nI (top i))) hx hb hts hinX1 hown hAm hP (by omega) (zC_s (by omega)) rfl (by decide) (hts (.fieldLink RX1 15 "CosineSeries$Series" "top" "I") (by decide +kernel)) (by first | rfl | simp [va_up, *]) dX1_topWithin_1 ?_
  refine lv_istore_n (lv' := [(2, .int (nI (top i))), (0, .ref (F i)), (1, .int tol)]) hx hb dX1_topWithin_4 rfl hl (by decide) rfl (fun ls hl => ?_)
  refine lv_aload_n hx hb dX1_topWithin_5 rfl (lv_at hl 1 rfl) ?_
  refine lv_iload_n hx hb dX1_topWithin_6 rfl (lv_at hl 0 rfl) ?_
  refine zcallV (As := [.int (nI (top i))]) (rest := []) (q := i) (k := 1) hx hb hml hown hts (kX1_at l D cL cI cR A F hF T top Z i (by omega) (top i) (by omega) ((T i) (top i)) (by first | rfl | simp [va_up, *])) gX1_topWithin_X1_at rfl (by decide +kernel) ⟨Nat.le_of_ble_eq_true rfl, Nat.le_of_ble_eq_true rfl⟩ rfl (by omega) (zC_s (by omega)) rfl rfl hAm hP hS rfl hl.1 rfl (Nat.le_of_ble_eq_true rfl) dX1_topWithin_7 ⟨Nat.zero_le _, Nat.zero_le _⟩ (zkn (fun H locs hP hS => ?_))
  refine W.eq (g2 := F0 m 10 ls [.long ((T i) (top i))]) rfl ?_
  refine va_mabs_long hx hb (hml.trans hl.1.symm) hown (hts (.methodLink RX1 31 Lib.MathLoose.abs_long.x) (by decide +kernel)) (hts (.static Lib.MathLoose.abs_long.x) (by decide +kernel)) (hts (.initialized "java/lang/Math") (by decide +kernel)) (hts (.code Lib.MathLoose.abs_long.x Lib.MathLoose.abs_long.code 2 (some .long)) (by decide +kernel)) (Nat.le_of_ble_eq_true rfl) (Nat.le_of_ble_eq_true rfl) (Nat.zero_le _) (Nat.zero_le _) dX1_topWithin_10 ?_
  refine W.eq (g2 := F0 m 13 ls [.long (zabs ((T i) (top i)))]) rfl ?_
  refine lv_lstore_n (lv' := [(3, .long (zabs ((T i) (top i)))), (2, .int (nI (top i))), (0, .ref (F i)), (1, .int tol)]) hx hb dX1_topWithin_13 rfl hl (by decide) rfl (fun ls hl => ?_)
  have hl : lv_has ls 5 [(3, .long (0 + zabs (T i (top i)))), (2, .int (nI (top i))), (0, .ref (F i)), (1, .int tol)] := by rw [Int64.zero_add]; exact hl
  have L14 : ∀ (n : Nat) (k : Nat) (u : Int64) (hk : k ≤ 48) (hv : ztw (T i) tol.toInt64 k u = ztw (T i) tol.toInt64 (top i) 0) (hn : k < n) (H : Heap) (locs : List Loc), va_P D vwCl (zq_wd F 30 (zCE cL cR F T top Z)) H → va_S A s.heap H locs → ∀ (ls : Array Slot), lv_has ls 5 [(0, .ref (F i)), (1, .int tol), (2, .int (nI k)), (3, .long (u + zabs (T i k)))] → W p l e ({ frames := 1, cells := 0, slots := 0, locals := 21 }) s m ([.ref (F i), .int tol] : List Value).toArray below meth c H locs 0 0 (zQ below D A F 30 [.ref (F i), .int tol] s (fun v2 E2 => v2 = (some (.int (nI (ztw (T i) tol.toInt64 (top i) 0)))) ∧ E2 = (zCE cL cR F T top Z))) (F0 m 14 ls []) := by
    intro n
    induction n with
    | zero =>
      intro k u hk hv hn
      exact absurd hn (Nat.not_lt_zero _)
    | succ n ih14 =>
      intro k u hk hv hn H locs hP hS ls hl
      refine lv_iload_n hx hb dX1_topWithin_14 rfl (lv_at hl 2 rfl) ?_
      refine zf_le (tgt := 42) hx hb dX1_topWithin_15 (by decide) (by omega) (fun c1 => ?_) (fun c1 => ?_)
      ·
        have hk0 : k = 0 := c1
        refine lv_iload_n hx hb dX1_topWithin_42 rfl (lv_at hl 2 rfl) ?_
        exact zretI hx hb hr hlk hS hP dX1_topWithin_43 ⟨by rw [← hv, hk0]; rfl, rfl⟩
      ·
        obtain ⟨k, rfl⟩ : ∃ j, k = j + 1 := ⟨k - 1, by omega⟩
        have hl : lv_has ls 5 [(0, .ref (F i)), (1, .int tol), (2, .int (nI (k + 1))), (3, .long (u + zabs (T i (k + 1))))] := by exact hl
        refine lv_lload_n hx hb dX1_topWithin_18 rfl (lv_at hl 3 rfl) ?_
        refine lv_iload_n hx hb dX1_topWithin_19 rfl (lv_at hl 1 rfl) ?_
        refine lv_i2l (v := tol.toInt64) hx hb dX1_topWithin_20 rfl ?_
        refine zl_gt (tgt := 42) hx hb dX1_topWithin_21 dX1_topWithin_22 (by decide) (fun c2 => ?_) (fun c2 => ?_)
        ·
          refine lv_iload_n hx hb dX1_topWithin_42 rfl (lv_at hl 2 rfl) ?_
          exact zretI hx hb hr hlk hS hP dX1_topWithin_43 ⟨by rw [← hv]; simp only [ztw]; rw [if_neg (Int64.not_le.mpr c2)], rfl⟩
        ·
          have c2 := Int64.not_lt.mp c2
          refine lv_iinc (v := (nI k)) (lv' := [(2, .int (nI k)), (0, .ref (F i)), (1, .int tol), (3, .long (u + zabs (T i (k + 1))))]) hx hb dX1_topWithin_25 hl (k := 2) rfl (zinc (by omega)) (by decide) rfl (fun ls hl => ?_)
          refine lv_lload_n hx hb dX1_topWithin_28 rfl (lv_at hl 3 rfl) ?_
          refine lv_aload_n hx hb dX1_topWithin_29 rfl (lv_at hl 1 rfl) ?_
          refine lv_iload_n hx hb dX1_topWithin_30 rfl (lv_at hl 0 rfl) ?_
          refine zcallV (As := [.int (nI k)]) (rest := [.long (u + zabs (T i (k + 1)))]) (q := i) (k := 1) hx hb hml hown hts (kX1_at l D cL cI cR A F hF T top Z i (by omega) k (by omega) ((T i) k) (by first | rfl | simp [va_up, *])) gX1_topWithin_X1_at rfl (by decide +kernel) ⟨Nat.le_of_ble_eq_true rfl, Nat.le_of_ble_eq_true rfl⟩ rfl (by omega) (zC_s (by omega)) rfl rfl hAm hP hS rfl hl.1 rfl (Nat.le_of_ble_eq_true rfl) dX1_topWithin_31 ⟨Nat.zero_le _, Nat.zero_le _⟩ (zkn (fun H locs hP hS => ?_))
          refine W.eq (g2 := F0 m 34 ls [.long ((T i) k), .long (u + zabs (T i (k + 1)))]) rfl ?_
          refine va_mabs_long hx hb (hml.trans hl.1.symm) hown (hts (.methodLink RX1 31 Lib.MathLoose.abs_long.x) (by decide +kernel)) (hts (.static Lib.MathLoose.abs_long.x) (by decide +kernel)) (hts (.initialized "java/lang/Math") (by decide +kernel)) (hts (.code Lib.MathLoose.abs_long.x Lib.MathLoose.abs_long.code 2 (some .long)) (by decide +kernel)) (Nat.le_of_ble_eq_true rfl) (Nat.le_of_ble_eq_true rfl) (Nat.zero_le _) (Nat.zero_le _) dX1_topWithin_34 ?_
          refine W.eq (g2 := F0 m 37 ls [.long (zabs ((T i) k)), .long (u + zabs (T i (k + 1)))]) rfl ?_
          refine lv_ladd hx hb dX1_topWithin_37 ?_
          refine lv_lstore_n (lv' := [(3, .long ((u + zabs (T i (k + 1))) + (zabs ((T i) k)))), (2, .int (nI k)), (0, .ref (F i)), (1, .int tol)]) hx hb dX1_topWithin_38 rfl hl (by decide) rfl (fun ls hl => ?_)
          refine lv_goto (tgt := 14) hx hb dX1_topWithin_39 (by decide) ?_
          exact ih14 k (u + zabs (T i (k + 1))) (by omega) (by rw [← hv]; simp only [ztw]; rw [if_pos c2]) (by omega) H _ hP hS ls (lv_sub hl [2, 3, 1, 0] rfl)
  exact L14 _ (top i) 0 (by omega) rfl (Nat.lt_succ_self _) H _ hP hS ls (lv_sub hl [2, 3, 1, 0] rfl)

set_option maxHeartbeats 4000000 in
set_option maxRecDepth 100000 in
theorem kX1_dropAbove (l : Launch) (D : va_G) (cL cI cR : ClassId) (A : Nat → Prop) (F : Nat → Nat) (hF : zq_F A F 30) (T : Nat → Nat → Int64) (top : Nat → Nat) (Z : zZC) (i : Nat) (hi : i < 12) (m0 : Nat) (hm0 : m0 ≤ 48) (f0 : Nat → Int64) (hf0 : T i = f0) : zCt l yX1_dropAbove wsX1_dropAbove 1 21 D cL cI cR A F 30 (zCE cL cR F T top Z) [.ref (F i), .int (nI m0)] (fun v2 E2 => v2 = none ∧ E2 = (zCE cL cR F (va_up T i (zcut f0 m0)) (va_up top i (ztop (zcut f0 m0) 48)) Z)) := by
  refine zStart (cc := cX1_dropAbove) (maxL := 3) (ret := none) (by decide +kernel) rfl (Nat.le_of_ble_eq_true rfl) ?_
  intro p e s m below meth c hx hb hr hml hlk hown hts hAm H hP hS ls hl
  have hown : s.vm.findClass RX1 = some m.cls := hown
  have hl : lv_has ls 3 [(0, .ref (F i)), (1, .int (nI m0))] := hl
  have hinX1 : ∀ w ∈ u_ws RX1 TX1 2, w ∈ wsX1_dropAbove := by decide +kernel
  subst hf0
  refine lv_iload_n hx hb dX1_dropAbove_0 rfl (lv_at hl 1 rfl) ?_
  refine lv_iconst (v := nI 0) hx hb dX1_dropAbove_1 (by decide +kernel) ?_
  refine va_mmax hx hb (hml.trans hl.1.symm) hown (hts (.methodLink RX1 49 Lib.Math.max.name) (by decide +kernel)) (hts (.static Lib.Math.max.name) (by decide +kernel)) (hts (.initialized "java/lang/Math") (by decide +kernel)) (hts (.code Lib.Math.max.name Lib.Math.max.code 2 (some .int)) (by decide +kernel)) (Nat.le_of_ble_eq_true rfl) (Nat.le_of_ble_eq_true rfl) (Nat.zero_le _) (Nat.zero_le _) dX1_dropAbove_2 ?_
  refine W.eq (g2 := F0 m 5 ls [.int (nI m0)]) (by rw [zmax0 (by omega)]) ?_
  refine lv_iconst (v := nI 1) hx hb dX1_dropAbove_5 (by decide +kernel) ?_
  refine ziadd (d := (m0 + 1)) hx hb (by omega) dX1_dropAbove_6 ?_
  refine lv_istore_n (lv' := [(2, .int (nI (m0 + 1))), (0, .ref (F i)), (1, .int (nI m0))]) hx hb dX1_dropAbove_7 rfl hl (by decide) rfl (fun ls hl => ?_)
  have hP : va_P D vwCl (zq_wd F 30 (zCE cL cR F (va_up T i (T i)) top Z)) H := by rw [zup_self]; exact hP
  have L8 : ∀ (n : Nat) (k : Nat) (f : Nat → Int64) (hk : k ≤ 49 ∧ m0 < k) (hf : ∀ j, j < 49 → f j = if m0 < j ∧ j < k then 0 else T i j) (hn : 49 - k < n) (H : Heap) (locs : List Loc), va_P D vwCl (zq_wd F 30 (zCE cL cR F (va_up T i f) top Z)) H → va_S A s.heap H locs → ∀ (ls : Array Slot), lv_has ls 3 [(0, .ref (F i)), (2, .int (nI k))] → W p l e ({ frames := 1, cells := 0, slots := 0, locals := 21 }) s m ([.ref (F i), .int (nI m0)] : List Value).toArray below meth c H locs 0 0 (zQ below D A F 30 [.ref (F i), .int (nI m0)] s (fun v2 E2 => v2 = none ∧ E2 = (zCE cL cR F (va_up T i (zcut (T i) m0)) (va_up top i (ztop (zcut (T i) m0) 48)) Z))) (F0 m 8 ls []) := by
    intro n
    induction n with
    | zero =>
      intro k f hk hf hn
      exact absurd hn (Nat.not_lt_zero _)
    | succ n ih8 =>
      intro k f hk hf hn H locs hP hS ls hl
      refine lv_iload_n hx hb dX1_dropAbove_8 rfl (lv_at hl 1 rfl) ?_
      refine lv_aload_n hx hb dX1_dropAbove_9 rfl (lv_at hl 0 rfl) ?_
      refine zget (q := i) (k := 0) (v := .ref (F (i + 12))) hx hb hts hinX1 hown hAm hP (by omega) (zC_s (by omega)) rfl (by decide) (hts (.fieldLink RX1 9 "CosineSeries$Series" "terms" "[J") (by decide +kernel)) (by first | rfl | simp [va_up, *]) dX1_dropAbove_10 ?_
      refine zalen (N := 49) (q := (i + 12)) (t0 := 0) hx hb hAm hP (by omega) (zC_t (by omega)) rfl rfl dX1_dropAbove_13 ?_
      refine zi_ge (tgt := 30) hx hb dX1_dropAbove_14 (by decide) (by omega) (by omega) (fun c1 => ?_) (fun c1 => ?_)
      ·
        have hP : va_P D vwCl (zq_wd F 30 (zCE cL cR F (va_up T i (zcut (T i) m0)) top Z)) H := zC_extT hP (zupx (fun j hj => by rw [hf j hj]; unfold zcut; by_cases h : j ≤ m0; (rw [if_pos h, if_neg (by omega)]); (rw [if_neg h, if_pos (by omega)])))
        refine lv_aload_n hx hb dX1_dropAbove_30 rfl (lv_at hl 0 rfl) ?_
        refine zcallV (As := []) (rest := []) (q := i) (k := 0) hx hb hml hown hts (kX1_trim l D cL cI cR A F hF (va_up T i (zcut (T i) m0)) top Z i (by omega) (zcut (T i) m0) (by first | rfl | simp [va_up, *]) (va_up top i (ztop (zcut (T i) m0) 48)) (by first | rfl | simp only [bx_uu])) gX1_dropAbove_X1_trim rfl (by decide +kernel) ⟨Nat.le_of_ble_eq_true rfl, Nat.le_of_ble_eq_true rfl⟩ rfl (by omega) (zC_s (by omega)) rfl rfl hAm hP hS rfl hl.1 rfl (Nat.le_of_ble_eq_true rfl) dX1_dropAbove_31 ⟨Nat.zero_le _, Nat.zero_le _⟩ (zkn (fun H locs hP hS => ?_))
        refine W.eq (g2 := F0 m 34 ls []) rfl ?_
        exact zretV hx hb hr hlk hS hP dX1_dropAbove_34 ⟨rfl, rfl⟩
      ·
        refine lv_aload_n hx hb dX1_dropAbove_17 rfl (lv_at hl 0 rfl) ?_
        refine zget (q := i) (k := 0) (v := .ref (F (i + 12))) hx hb hts hinX1 hown hAm hP (by omega) (zC_s (by omega)) rfl (by decide) (hts (.fieldLink RX1 9 "CosineSeries$Series" "terms" "[J") (by decide +kernel)) (by first | rfl | simp [va_up, *]) dX1_dropAbove_18 ?_
        refine lv_iload_n hx hb dX1_dropAbove_21 rfl (lv_at hl 1 rfl) ?_
        refine lv_lconst (v := (0 : Int64)) hx hb dX1_dropAbove_22 (by decide +kernel) ?_
        refine zlast (q := (i + 12)) (k := k) (E' := (zCE cL cR F (va_up T i (vp_updL f k (0 : Int64))) top Z)) hx hb hAm hP hF hS (by omega) (zC_t (by omega)) (by omega) (by decide) dX1_dropAbove_23 (by first | exact zC_ut (by omega) | (rw [zC_ut (by omega)]; simp only [bx_uu, va_up_eq])) (fun H locs hP hS => ?_)
        refine lv_iinc (v := (nI (k + 1))) (lv' := [(2, .int (nI (k + 1))), (0, .ref (F i))]) hx hb dX1_dropAbove_24 hl (k := 1) rfl (zinc (by omega)) (by decide) rfl (fun ls hl => ?_)
        refine lv_goto (tgt := 8) hx hb dX1_dropAbove_27 (by decide) ?_
        exact ih8 (k + 1) _ (by omega) (fun j hj => by unfold vp_updL; split; (rw [if_pos (by omega)]); (rw [hf j hj]; by_cases h : m0 < j ∧ j < k; (rw [if_pos h, if_pos (by omega)]); (rw [if_neg h, if_neg (by omega)]))) (by omega) H _ hP hS ls (lv_sub hl [1, 0] rfl)
  exact L8 _ (m0 + 1) _ (by omega) (fun j _ => by rw [if_neg (by omega)]) (Nat.lt_succ_self _) H _ hP hS ls (lv_sub hl [1, 0] rfl)

set_option maxHeartbeats 4000000 in
set_option maxRecDepth 100000 in
theorem kX1_placeOf (l : Launch) (D : va_G) (cL cI cR : ClassId) (A : Nat → Prop) (F : Nat → Nat) (hF : zq_F A F 30) (T : Nat → Nat → Int64) (top : Nat → Nat) (Z : zZC) (i : Nat) (hi : i < 12) (k : Nat) (hk48 : k ≤ 48) (f : Nat → Int64) (hf : T i = f) (t : Nat) (ht0 : top i = t) (hi48 : t ≤ 48) : zCt l yX1_placeOf wsX1_placeOf 1 21 D cL cI cR A F 30 (zCE cL cR F T top Z) [.ref (F i), .int (nI k)] (fun v2 E2 => v2 = (some (.int (nI (zplace f k (t + 1))))) ∧ E2 = (zCE cL cR F T top Z)) := by
  refine zStart (cc := cX1_placeOf) (maxL := 8) (ret := (some .int)) (by decide +kernel) rfl (Nat.le_of_ble_eq_true rfl) ?_
  intro p e s m below meth c hx hb hr hml hlk hown hts hAm H hP hS ls hl
  have hown : s.vm.findClass RX1 = some m.cls := hown
  have hl : lv_has ls 8 [(0, .ref (F i)), (1, .int (nI k))] := hl
  have hinX1 : ∀ w ∈ u_ws RX1 TX1 2, w ∈ wsX1_placeOf := by decide +kernel
  subst hf; subst ht0
  refine lv_aload_n hx hb dX1_placeOf_0 rfl (lv_at hl 0 rfl) ?_
  refine lv_iload_n hx hb dX1_placeOf_1 rfl (lv_at hl 1 rfl) ?_
  refine zcallV (As := [.int (nI k)]) (rest := []) (q := i) (k := 1) hx hb hml hown hts (kX1_at l D cL cI cR A F hF T top Z i (by omega) k (by omega) ((T i) k) (by first | rfl | simp [va_up, *])) gX1_placeOf_X1_at rfl (by decide +kernel) ⟨Nat.le_of_ble_eq_true rfl, Nat.le_of_ble_eq_true rfl⟩ rfl (by omega) (zC_s (by omega)) rfl rfl hAm hP hS rfl hl.1 rfl (Nat.le_of_ble_eq_true rfl) dX1_placeOf_2 ⟨Nat.zero_le _, Nat.zero_le _⟩ (zkn (fun H locs hP hS => ?_))
  refine W.eq (g2 := F0 m 5 ls [.long ((T i) k)]) rfl ?_
  refine va_mabs_long hx hb (hml.trans hl.1.symm) hown (hts (.methodLink RX1 31 Lib.MathLoose.abs_long.x) (by decide +kernel)) (hts (.static Lib.MathLoose.abs_long.x) (by decide +kernel)) (hts (.initialized "java/lang/Math") (by decide +kernel)) (hts (.code Lib.MathLoose.abs_long.x Lib.MathLoose.abs_long.code 2 (some .long)) (by decide +kernel)) (Nat.le_of_ble_eq_true rfl) (Nat.le_of_ble_eq_true rfl) (Nat.zero_le _) (Nat.zero_le _) dX1_placeOf_5 ?_
  refine W.eq (g2 := F0 m 8 ls [.long (zabs ((T i) k))]) rfl ?_
  refine lv_lstore_n (lv' := [(2, .long (zabs ((T i) k))), (0, .ref (F i)), (1, .int (nI k))]) hx hb dX1_placeOf_8 rfl hl (by decide) rfl (fun ls hl => ?_)
  refine lv_iconst (v := nI 0) hx hb dX1_placeOf_9 (by decide +kernel) ?_
  refine lv_istore (lv' := [(4, .int (nI 0)), (2, .long (zabs ((T i) k))), (0, .ref (F i)), (1, .int (nI k))]) hx hb dX1_placeOf_10 hl (by decide) rfl (fun ls hl => ?_)
  refine lv_iconst (v := nI 0) hx hb dX1_placeOf_12 (by decide +kernel) ?_
  refine lv_istore (lv' := [(5, .int (nI 0)), (4, .int (nI 0)), (2, .long (zabs ((T i) k))), (0, .ref (F i)), (1, .int (nI k))]) hx hb dX1_placeOf_13 hl (by decide) rfl (fun ls hl => ?_)
  have L15 : ∀ (n : Nat) (o ct : Nat) (ho : o ≤ top i + 1) (ht : ct = zplace (T i) k o) (hct : ct ≤ o) (hn : top i + 1 - o < n) (H : Heap) (locs : List Loc), va_P D vwCl (zq_wd F 30 (zCE cL cR F T top Z)) H → va_S A s.heap H locs → ∀ (ls : Array Slot), lv_has ls 8 [(0, .ref (F i)), (1, .int (nI k)), (2, .long (zabs (T i k))), (4, .int (nI ct)), (5, .int (nI o))] → W p l e ({ frames := 1, cells := 0, slots := 0, locals := 21 }) s m ([.ref (F i), .int (nI k)] : List Value).toArray below meth c H locs 0 0 (zQ below D A F 30 [.ref (F i), .int (nI k)] s (fun v2 E2 => v2 = (some (.int (nI (zplace (T i) k (top i + 1))))) ∧ E2 = (zCE cL cR F T top Z))) (F0 m 15 ls []) := by
    intro n
    induction n with
    | zero =>
      intro o ct ho ht hct hn
      exact absurd hn (Nat.not_lt_zero _)
    | succ n ih15 =>
      intro o ct ho ht hct hn H locs hP hS ls hl
      refine lv_iload hx hb dX1_placeOf_15 (lv_at hl 4 rfl) ?_
      refine lv_aload_n hx hb dX1_placeOf_17 rfl (lv_at hl 0 rfl) ?_
      refine zget (q := i) (k := 1) (v := .int (nI (top i))) hx hb hts hinX1 hown hAm hP (by omega) (zC_s (by omega)) rfl (by decide) (hts (.fieldLink RX1 15 "CosineSeries$Series" "top" "I") (by decide +kernel)) (by first | rfl | simp [va_up, *]) dX1_placeOf_18 ?_
      refine zi_gt (tgt := 64) hx hb dX1_placeOf_21 (by decide) (by omega) (by omega) (fun c1 => ?_) (fun c1 => ?_)
      ·
        refine lv_iload hx hb dX1_placeOf_64 (lv_at hl 3 rfl) ?_
        exact zretI hx hb hr hlk hS hP dX1_placeOf_66 ⟨by rw [ht, show o = top i + 1 by omega], rfl⟩
      ·
        refine lv_aload_n hx hb dX1_placeOf_24 rfl (lv_at hl 0 rfl) ?_
        refine lv_iload hx hb dX1_placeOf_25 (lv_at hl 4 rfl) ?_
        refine zcallV (As := [.int (nI o)]) (rest := []) (q := i) (k := 1) hx hb hml hown hts (kX1_at l D cL cI cR A F hF T top Z i (by omega) o (by omega) ((T i) o) (by first | rfl | simp [va_up, *])) gX1_placeOf_X1_at rfl (by decide +kernel) ⟨Nat.le_of_ble_eq_true rfl, Nat.le_of_ble_eq_true rfl⟩ rfl (by omega) (zC_s (by omega)) rfl rfl hAm hP hS rfl hl.1 rfl (Nat.le_of_ble_eq_true rfl) dX1_placeOf_27 ⟨Nat.zero_le _, Nat.zero_le _⟩ (zkn (fun H locs hP hS => ?_))
        refine W.eq (g2 := F0 m 30 ls [.long ((T i) o)]) rfl ?_
        refine va_mabs_long hx hb (hml.trans hl.1.symm) hown (hts (.methodLink RX1 31 Lib.MathLoose.abs_long.x) (by decide +kernel)) (hts (.static Lib.MathLoose.abs_long.x) (by decide +kernel)) (hts (.initialized "java/lang/Math") (by decide +kernel)) (hts (.code Lib.MathLoose.abs_long.x Lib.MathLoose.abs_long.code 2 (some .long)) (by decide +kernel)) (Nat.le_of_ble_eq_true rfl) (Nat.le_of_ble_eq_true rfl) (Nat.zero_le _) (Nat.zero_le _) dX1_placeOf_30 ?_
        refine W.eq (g2 := F0 m 33 ls [.long (zabs ((T i) o))]) rfl ?_
        refine lv_lstore (lv' := [(6, .long (zabs ((T i) o))), (0, .ref (F i)), (1, .int (nI k)), (2, .long (zabs (T i k))), (4, .int (nI ct)), (5, .int (nI o))]) hx hb dX1_placeOf_33 hl (by decide) rfl (fun ls hl => ?_)
        refine lv_lload hx hb dX1_placeOf_35 (lv_at hl 0 rfl) ?_
        refine lv_lload_n hx hb dX1_placeOf_37 rfl (lv_at hl 3 rfl) ?_
        refine zl_gt (tgt := 55) hx hb dX1_placeOf_38 dX1_placeOf_39 (by decide) (fun c2 => ?_) (fun c2 => ?_)
        ·
          refine lv_iinc (v := (nI (ct + 1))) (lv' := [(4, .int (nI (ct + 1))), (6, .long (zabs ((T i) o))), (0, .ref (F i)), (1, .int (nI k)), (2, .long (zabs (T i k))), (5, .int (nI o))]) hx hb dX1_placeOf_55 hl (k := 4) rfl (zinc (by omega)) (by decide) rfl (fun ls hl => ?_)
          refine lv_iinc (v := (nI (o + 1))) (lv' := [(5, .int (nI (o + 1))), (4, .int (nI (ct + 1))), (6, .long (zabs ((T i) o))), (0, .ref (F i)), (1, .int (nI k)), (2, .long (zabs (T i k)))]) hx hb dX1_placeOf_58 hl (k := 5) rfl (zinc (by omega)) (by decide) rfl (fun ls hl => ?_)
          refine lv_goto (tgt := 15) hx hb dX1_placeOf_61 (by decide) ?_
          exact ih15 (o + 1) (ct + 1) (by omega) (by simp only [zplace]; rw [ht]; first | rw [if_pos (Or.inl (by assumption))] | rw [if_pos (Or.inr ⟨by assumption, by assumption⟩)] | (rw [if_neg (by rintro (h | h); exact absurd h (by assumption); first | exact absurd h.1 (by assumption) | omega), Nat.add_zero])) (by omega) (by omega) H _ hP hS ls (lv_sub hl [3, 4, 5, 1, 0] rfl)
        ·
          refine lv_lload hx hb dX1_placeOf_42 (lv_at hl 0 rfl) ?_
          refine lv_lload_n hx hb dX1_placeOf_44 rfl (lv_at hl 3 rfl) ?_
          refine zl_ne (tgt := 58) hx hb dX1_placeOf_45 dX1_placeOf_46 (by decide) (fun c3 => ?_) (fun c3 => ?_)
          ·
            refine lv_iinc (v := (nI (o + 1))) (lv' := [(5, .int (nI (o + 1))), (6, .long (zabs ((T i) o))), (0, .ref (F i)), (1, .int (nI k)), (2, .long (zabs (T i k))), (4, .int (nI ct))]) hx hb dX1_placeOf_58 hl (k := 5) rfl (zinc (by omega)) (by decide) rfl (fun ls hl => ?_)
            refine lv_goto (tgt := 15) hx hb dX1_placeOf_61 (by decide) ?_
            exact ih15 (o + 1) ct (by omega) (by simp only [zplace]; rw [ht]; first | rw [if_pos (Or.inl (by assumption))] | rw [if_pos (Or.inr ⟨by assumption, by assumption⟩)] | (rw [if_neg (by rintro (h | h); exact absurd h (by assumption); first | exact absurd h.1 (by assumption) | omega), Nat.add_zero])) (by omega) (by omega) H _ hP hS ls (lv_sub hl [2, 3, 4, 5, 0] rfl)
          ·
            refine lv_iload hx hb dX1_placeOf_49 (lv_at hl 5 rfl) ?_
            refine lv_iload_n hx hb dX1_placeOf_51 rfl (lv_at hl 2 rfl) ?_
            refine zi_ge (tgt := 58) hx hb dX1_placeOf_52 (by decide) (by omega) (by omega) (fun c4 => ?_) (fun c4 => ?_)
            ·
              refine lv_iinc (v := (nI (o + 1))) (lv' := [(5, .int (nI (o + 1))), (6, .long (zabs ((T i) o))), (0, .ref (F i)), (1, .int (nI k)), (2, .long (zabs (T i k))), (4, .int (nI ct))]) hx hb dX1_placeOf_58 hl (k := 5) rfl (zinc (by omega)) (by decide) rfl (fun ls hl => ?_)
              refine lv_goto (tgt := 15) hx hb dX1_placeOf_61 (by decide) ?_
              exact ih15 (o + 1) ct (by omega) (by simp only [zplace]; rw [ht]; first | rw [if_pos (Or.inl (by assumption))] | rw [if_pos (Or.inr ⟨by assumption, by assumption⟩)] | (rw [if_neg (by rintro (h | h); exact absurd h (by assumption); first | exact absurd h.1 (by assumption) | omega), Nat.add_zero])) (by omega) (by omega) H _ hP hS ls (lv_sub hl [2, 3, 4, 5, 0] rfl)
            ·
              refine lv_iinc (v := (nI (ct + 1))) (lv' := [(4, .int (nI (ct + 1))), (6, .long (zabs ((T i) o))), (0, .ref (F i)), (1, .int (nI k)), (2, .long (zabs (T i k))), (5, .int (nI o))]) hx hb dX1_placeOf_55 hl (k := 4) rfl (zinc (by omega)) (by decide) rfl (fun ls hl => ?_)
              refine lv_iinc (v := (nI (o + 1))) (lv' := [(5, .int (nI (o + 1))), (4, .int (nI (ct + 1))), (6, .long (zabs ((T i) o))), (0, .ref (F i)), (1, .int (nI k)), (2, .long (zabs (T i k)))]) hx hb dX1_placeOf_58 hl (k := 5) rfl (zinc (by omega)) (by decide) rfl (fun ls hl => ?_)
              refine lv_goto (tgt := 15) hx hb dX1_placeOf_61 (by decide) ?_
              exact ih15 (o + 1) (ct + 1) (by omega) (by simp only [zplace]; rw [ht]; first | rw [if_pos (Or.inl (by assumption))] | rw [if_pos (Or.inr ⟨by assumption, by assumption⟩)] | (rw [if_neg (by rintro (h | h); exact absurd h (by assumption); first | exact absurd h.1 (by assumption) | omega), Nat.add_zero])) (by omega) (by omega) H _ hP hS ls (lv_sub hl [3, 4, 5, 1, 0] rfl)
  exact L15 _ 0 0 (by omega) rfl (by omega) (Nat.lt_succ_self _) H _ hP hS ls (lv_sub hl [3, 4, 2, 1, 0] rfl)
end
section
/-! Series: the methods that make one anew -/
def zsum (fa fb : Int64) (f g : Nat → Int64) : Nat → Int64 := fun j => fa * f j + fb * g j
/-- the part of a product's coefficient k that the first m coefficients of b give with the coefficient i of a, on s -/
def zpin (a b : Nat → Int64) (k i : Nat) : Nat → Int64 → Int64
  | 0, s => s
  | m + 1, s => (zpin a b k i m s + (if i + m = k then a i * b m else 0)) + (if i - m + (m - i) = k then a i * b m else 0)
/-- the first r coefficients of a with all of b -/
def zpout (a b : Nat → Int64) (nb k : Nat) : Nat → Int64
  | 0 => 0
  | r + 1 => zpin a b k r (nb + 1) (zpout a b nb k r)
def zprod (a : Nat → Int64) (na : Nat) (b : Nat → Int64) (nb : Nat) : Nat → Int64 := fun k => zR (zpout a b nb k (na + 1)) 2097152
def zderF (c : Nat → Int64) : Nat → (Nat → Int64) → Nat → Int64
  | 0, f => f
  | k + 1, f => zderF c k (vp_updL f k (f (k + 2) + 2 * lN (k + 1) * c (k + 1)))
def zder (c : Nat → Int64) (n : Nat) : Nat → Int64 := vp_updL (zderF c n (fun _ => 0)) 0 (zR (zderF c n (fun _ => 0) 0) 2)
/-- a coefficient of an antiderivative -/
def ztm (c : Nat → Int64) (k : Nat) : Int64 := zR ((if k = 1 then 2 * c 0 else c (k - 1)) - c (k + 1)) (2 * lN k)
/-- the first m of them with their signs -/
def zsgn (c : Nat → Int64) : Nat → Int64
  | 0 => 0
  | m + 1 => zsgn c m + (if (m + 1) % 2 = 0 then ztm c (m + 1) else -ztm c (m + 1))
def zant (c : Nat → Int64) (n : Nat) : Nat → Int64 := fun j => if j = 0 then -zsgn c (n + 1) else if j ≤ n + 1 then ztm c j else 0
def zquoF (c : Nat → Int64) (r : Int64) : Nat → (Nat → Int64) → Nat → Int64
  | 0, f => f
  | 1, f => f
  | k + 2, f => zquoF c r (k + 1) (vp_updL f (k + 1) (2 * c (k + 2) + zR (2 * r * f (k + 2)) 1048576 - f (k + 3)))
def zquo (c : Nat → Int64) (n : Nat) (r : Int64) : Nat → Int64 := vp_updL (zquoF c r n (fun _ => 0)) 0 (c 1 + zR (r * zquoF c r n (fun _ => 0) 1) 1048576 - zR (zquoF c r n (fun _ => 0) 2) 2)
theorem zabsd {i j : Nat} (hi : i < 1073741824) (hj : j < 1073741824) : (if 0 ≤ nI i - nI j then nI i - nI j else 0 - (nI i - nI j)) = nI (i - j + (j - i)) := by
  have e := pk_sub_toInt hi hj
  by_cases h : j ≤ i
  · rw [if_pos (by rw [Int32.le_iff_toInt_le, e]; show (0 : Int) ≤ _; omega), pk_sub h, show i - j + (j - i) = i - j by omega]
  · rw [if_neg (by rw [Int32.le_iff_toInt_le, e]; show ¬ (0 : Int) ≤ _; omega), show i - j + (j - i) = j - i by omega, ← pk_sub (by omega)]
    apply Int32.toInt_inj.mp
    rw [Int32.toInt_sub, e, pk_sub_toInt hj hi, Int32.toInt_zero, show (0 : Int) - ((i : Int) - (j : Int)) = (j : Int) - (i : Int) by omega]
    apply Int.bmod_eq_of_le <;> omega
theorem zp_step (a b f : Nat → Int64) (i m k : Nat) (p : Int64) : vp_updL (vp_updL f (i + m) (f (i + m) + p)) (i - m + (m - i)) (vp_updL f (i + m) (f (i + m) + p) (i - m + (m - i)) + p) k = (f k + (if i + m = k then p else 0)) + (if i - m + (m - i) = k then p else 0) := by
  unfold vp_updL
  by_cases h1 : i + m = k
  · by_cases h2 : i - m + (m - i) = k
    · subst h1
      rw [if_pos h2.symm, h2]; simp
    · subst h1
      rw [if_neg (fun h => h2 h.symm)]; simp [h2]
  · by_cases h2 : i - m + (m - i) = k
    · subst h2
      have h3 : ¬ (i - m + (m - i) = i + m) := fun h => h1 h.symm
      simp [h1, h3]
    · have h3 : ¬ k = i - m + (m - i) := fun h => h2 h.symm
      have h4 : ¬ k = i + m := fun h => h1 h.symm
      simp [h1, h2, h3, h4]
theorem zl2k (k : Nat) : lN (2 * k) = 2 * lN k := by
  rw [show (2 : Int64) = lN 2 from rfl, lN_mul]
theorem zl2pos {k : Nat} (h0 : 1 ≤ k) (h : k < 1000) : 0 < 2 * lN k := by
  rw [← zl2k, show (0 : Int64) = lN 0 from rfl, lN_lt (by omega) (by omega)]
  omega
theorem zrem2 {k : Nat} (h : k < 1000) : nI k - nI k / nI 2 * nI 2 = nI (k % 2) := pk_rem (by omega) (by omega) (by omega)
theorem znI_ne {k : Nat} (h : 0 < k) (h2 : k < 2147483648) : ¬ nI k = 0 := nI_ne0 h h2

set_option maxHeartbeats 4000000 in
set_option maxRecDepth 100000 in
theorem kX1_becomeSum (l : Launch) (D : va_G) (cL cI cR : ClassId) (A : Nat → Prop) (F : Nat → Nat) (hF : zq_F A F 30) (T : Nat → Nat → Int64) (top : Nat → Nat) (Z : zZC) (i : Nat) (hi : i < 12) (a : Nat) (ha : a < 12) (hai : ¬ a = i) (b : Nat) (hb12 : b < 12) (hbi : ¬ b = i) (fa fb : Int32) (f g : Nat → Int64) (hf : T a = f) (hg : T b = g) (f2 : Nat → Int64) (hf2 : f2 = zsum fa.toInt64 fb.toInt64 f g) : zCt l yX1_becomeSum wsX1_becomeSum 1 21 D cL cI cR A F 30 (zCE cL cR F T top Z) [.ref (F i), .ref (F a), .int fa, .ref (F b), .int fb] (fun v2 E2 => v2 = none ∧ E2 = (zCE cL cR F (va_up T i f2) (va_up top i (ztop f2 48)) Z)) := by
  refine zStart (cc := cX1_becomeSum) (maxL := 6) (ret := none) (by decide +kernel) rfl (Nat.le_of_ble_eq_true rfl) ?_
  intro p e s m below meth c hx hb hr hml hlk hown hts hAm H hP hS ls hl
  have hown : s.vm.findClass RX1 = some m.cls := hown
  have hl : lv_has ls 6 [(0, .ref (F i)), (1, .ref (F a)), (2, .int fa), (3, .ref (F b)), (4, .int fb)] := hl
  have hinX1 : ∀ w ∈ u_ws RX1 TX1 2, w ∈ wsX1_becomeSum := by decide +kernel
  subst hf; subst hg
  refine lv_iconst (v := nI 0) hx hb dX1_becomeSum_0 (by decide +kernel) ?_
  refine lv_istore (lv' := [(5, .int (nI 0)), (0, .ref (F i)), (1, .ref (F a)), (2, .int fa), (3, .ref (F b)), (4, .int fb)]) hx hb dX1_becomeSum_1 hl (by decide) rfl (fun ls hl => ?_)
  have hP : va_P D vwCl (zq_wd F 30 (zCE cL cR F (va_up T i (T i)) top Z)) H := by rw [zup_self]; exact hP
  have L3 : ∀ (n : Nat) (k : Nat) (f : Nat → Int64) (hk : k ≤ 49) (hf : ∀ j, j < k → f j = f2 j) (hn : 49 - k < n) (H : Heap) (locs : List Loc), va_P D vwCl (zq_wd F 30 (zCE cL cR F (va_up T i f) top Z)) H → va_S A s.heap H locs → ∀ (ls : Array Slot), lv_has ls 6 [(0, .ref (F i)), (1, .ref (F a)), (2, .int fa), (3, .ref (F b)), (4, .int fb), (5, .int (nI k))] → W p l e ({ frames := 1, cells := 0, slots := 0, locals := 21 }) s m ([.ref (F i), .ref (F a), .int fa, .ref (F b), .int fb] : List Value).toArray below meth c H locs 0 0 (zQ below D A F 30 [.ref (F i), .ref (F a), .int fa, .ref (F b), .int fb] s (fun v2 E2 => v2 = none ∧ E2 = (zCE cL cR F (va_up T i f2) (va_up top i (ztop f2 48)) Z))) (F0 m 3 ls []) := by
    intro n
    induction n with
    | zero =>
      intro k f hk hf hn
      exact absurd hn (Nat.not_lt_zero _)
    | succ n ih3 =>
      intro k f hk hf hn H locs hP hS ls hl
      refine lv_iload hx hb dX1_becomeSum_3 (lv_at hl 5 rfl) ?_
      refine lv_aload_n hx hb dX1_becomeSum_5 rfl (lv_at hl 0 rfl) ?_
      refine zget (q := i) (k := 0) (v := .ref (F (i + 12))) hx hb hts hinX1 hown hAm hP (by omega) (zC_s (by omega)) rfl (by decide) (hts (.fieldLink RX1 9 "CosineSeries$Series" "terms" "[J") (by decide +kernel)) (by first | rfl | simp [va_up, *]) dX1_becomeSum_6 ?_
      refine zalen (N := 49) (q := (i + 12)) (t0 := 0) hx hb hAm hP (by omega) (zC_t (by omega)) rfl rfl dX1_becomeSum_9 ?_
      refine zi_ge (tgt := 46) hx hb dX1_becomeSum_10 (by decide) (by omega) (by omega) (fun c1 => ?_) (fun c1 => ?_)
      ·
        have hP : va_P D vwCl (zq_wd F 30 (zCE cL cR F (va_up T i f2) top Z)) H := zC_extT hP (zupx (fun j hj => hf j (by omega)))
        refine lv_aload_n hx hb dX1_becomeSum_46 rfl (lv_at hl 0 rfl) ?_
        refine zcallV (As := []) (rest := []) (q := i) (k := 0) hx hb hml hown hts (kX1_trim l D cL cI cR A F hF (va_up T i f2) top Z i (by omega) f2 (by first | rfl | simp [va_up, *]) (va_up top i (ztop f2 48)) (by first | rfl | simp only [bx_uu])) gX1_becomeSum_X1_trim rfl (by decide +kernel) ⟨Nat.le_of_ble_eq_true rfl, Nat.le_of_ble_eq_true rfl⟩ rfl (by omega) (zC_s (by omega)) rfl rfl hAm hP hS rfl hl.1 rfl (Nat.le_of_ble_eq_true rfl) dX1_becomeSum_47 ⟨Nat.zero_le _, Nat.zero_le _⟩ (zkn (fun H locs hP hS => ?_))
        refine W.eq (g2 := F0 m 50 ls []) rfl ?_
        exact zretV hx hb hr hlk hS hP dX1_becomeSum_50 ⟨rfl, rfl⟩
      ·
        refine lv_aload_n hx hb dX1_becomeSum_13 rfl (lv_at hl 0 rfl) ?_
        refine zget (q := i) (k := 0) (v := .ref (F (i + 12))) hx hb hts hinX1 hown hAm hP (by omega) (zC_s (by omega)) rfl (by decide) (hts (.fieldLink RX1 9 "CosineSeries$Series" "terms" "[J") (by decide +kernel)) (by first | rfl | simp [va_up, *]) dX1_becomeSum_14 ?_
        refine lv_iload hx hb dX1_becomeSum_17 (lv_at hl 5 rfl) ?_
        refine lv_iload_n hx hb dX1_becomeSum_19 rfl (lv_at hl 2 rfl) ?_
        refine lv_i2l (v := fa.toInt64) hx hb dX1_becomeSum_20 rfl ?_
        refine lv_aload_n hx hb dX1_becomeSum_21 rfl (lv_at hl 1 rfl) ?_
        refine lv_iload hx hb dX1_becomeSum_22 (lv_at hl 5 rfl) ?_
        refine zcallV (As := [.int (nI k)]) (rest := [.long fa.toInt64, .int (nI k), .ref (F (i + 12))]) (q := a) (k := 1) hx hb hml hown hts (kX1_at l D cL cI cR A F hF (va_up T i f) top Z a ha k (by omega) (T a k) (by simp [va_up, hai])) gX1_becomeSum_X1_at rfl (by decide +kernel) ⟨Nat.le_of_ble_eq_true rfl, Nat.le_of_ble_eq_true rfl⟩ rfl (by omega) (zC_s (by omega)) rfl rfl hAm hP hS rfl hl.1 rfl (Nat.le_of_ble_eq_true rfl) dX1_becomeSum_24 ⟨Nat.zero_le _, Nat.zero_le _⟩ (zkn (fun H locs hP hS => ?_))
        refine W.eq (g2 := F0 m 27 ls [.long (T a k), .long fa.toInt64, .int (nI k), .ref (F (i + 12))]) rfl ?_
        refine lv_lmul hx hb dX1_becomeSum_27 ?_
        refine lv_iload hx hb dX1_becomeSum_28 (lv_at hl 4 rfl) ?_
        refine lv_i2l (v := fb.toInt64) hx hb dX1_becomeSum_30 rfl ?_
        refine lv_aload_n hx hb dX1_becomeSum_31 rfl (lv_at hl 3 rfl) ?_
        refine lv_iload hx hb dX1_becomeSum_32 (lv_at hl 5 rfl) ?_
        refine zcallV (As := [.int (nI k)]) (rest := [.long fb.toInt64, .long (fa.toInt64 * (T a k)), .int (nI k), .ref (F (i + 12))]) (q := b) (k := 1) hx hb hml hown hts (kX1_at l D cL cI cR A F hF (va_up T i f) top Z b hb12 k (by omega) (T b k) (by simp [va_up, hbi])) gX1_becomeSum_X1_at rfl (by decide +kernel) ⟨Nat.le_of_ble_eq_true rfl, Nat.le_of_ble_eq_true rfl⟩ rfl (by omega) (zC_s (by omega)) rfl rfl hAm hP hS rfl hl.1 rfl (Nat.le_of_ble_eq_true rfl) dX1_becomeSum_34 ⟨Nat.zero_le _, Nat.zero_le _⟩ (zkn (fun H locs hP hS => ?_))
        refine W.eq (g2 := F0 m 37 ls [.long (T b k), .long fb.toInt64, .long (fa.toInt64 * (T a k)), .int (nI k), .ref (F (i + 12))]) rfl ?_
        refine lv_lmul hx hb dX1_becomeSum_37 ?_
        refine lv_ladd hx hb dX1_becomeSum_38 ?_
        refine zlast (q := (i + 12)) (k := k) (E' := (zCE cL cR F (va_up T i (vp_updL f k ((fa.toInt64 * (T a k)) + (fb.toInt64 * (T b k))))) top Z)) hx hb hAm hP hF hS (by omega) (zC_t (by omega)) (by omega) (by decide) dX1_becomeSum_39 (by first | exact zC_ut (by omega) | (rw [zC_ut (by omega)]; simp only [bx_uu, va_up_eq])) (fun H locs hP hS => ?_)
        refine lv_iinc (v := (nI (k + 1))) (lv' := [(5, .int (nI (k + 1))), (0, .ref (F i)), (1, .ref (F a)), (2, .int fa), (3, .ref (F b)), (4, .int fb)]) hx hb dX1_becomeSum_40 hl (k := 5) rfl (zinc (by omega)) (by decide) rfl (fun ls hl => ?_)
        refine lv_goto (tgt := 3) hx hb dX1_becomeSum_43 (by decide) ?_
        exact ih3 (k + 1) _ (by omega) (fun j hj => by unfold vp_updL; split; (rename_i h; rw [h, hf2]; rfl); exact hf j (by omega)) (by omega) H _ hP hS ls (lv_sub hl [1, 2, 3, 4, 5, 0] rfl)
  exact L3 _ 0 _ (by omega) (fun j hj => absurd hj (Nat.not_lt_zero _)) (Nat.lt_succ_self _) H _ hP hS ls (lv_sub hl [1, 2, 3, 4, 5, 0] rfl)

set_option maxHeartbeats 4000000 in
set_option maxRecDepth 100000 in
theorem kX1_becomeProduct (l : Launch) (D : va_G) (cL cI cR : ClassId) (A : Nat → Prop) (F : Nat → Nat) (hF : zq_F A F 30) (T : Nat → Nat → Int64) (top : Nat → Nat) (Z : zZC) (i : Nat) (hi : i < 12) (a : Nat) (ha : a < 12) (hai : ¬ a = i) (b : Nat) (hb12 : b < 12) (hbi : ¬ b = i) (hna : top a ≤ 24) (hnb : top b ≤ 24) (f2 : Nat → Int64) (hf2 : f2 = zprod (T a) (top a) (T b) (top b)) : zCt l yX1_becomeProduct wsX1_becomeProduct 2 52 D cL cI cR A F 30 (zCE cL cR F T top Z) [.ref (F i), .ref (F a), .ref (F b)] (fun v2 E2 => v2 = none ∧ E2 = (zCE cL cR F (va_up T i f2) (va_up top i (ztop f2 48)) Z)) := by
  refine zStart (cc := cX1_becomeProduct) (maxL := 8) (ret := none) (by decide +kernel) rfl (Nat.le_of_ble_eq_true rfl) ?_
  intro p e s m below meth c hx hb hr hml hlk hown hts hAm H hP hS ls hl
  have hown : s.vm.findClass RX1 = some m.cls := hown
  have hl : lv_has ls 8 [(0, .ref (F i)), (1, .ref (F a)), (2, .ref (F b))] := hl
  have hinX1 : ∀ w ∈ u_ws RX1 TX1 2, w ∈ wsX1_becomeProduct := by decide +kernel
  refine lv_aload_n hx hb dX1_becomeProduct_0 rfl (lv_at hl 0 rfl) ?_
  refine zcallV (As := []) (rest := []) (q := i) (k := 0) hx hb hml hown hts (kX1_clear l D cL cI cR A F hF T top Z i (by omega)) gX1_becomeProduct_X1_clear rfl (by decide +kernel) ⟨Nat.le_of_ble_eq_true rfl, Nat.le_of_ble_eq_true rfl⟩ rfl (by omega) (zC_s (by omega)) rfl rfl hAm hP hS rfl hl.1 rfl (Nat.le_of_ble_eq_true rfl) dX1_becomeProduct_1 ⟨Nat.zero_le _, Nat.zero_le _⟩ (zkn (fun H locs hP hS => ?_))
  refine W.eq (g2 := F0 m 4 ls []) rfl ?_
  refine lv_iconst (v := nI 0) hx hb dX1_becomeProduct_4 (by decide +kernel) ?_
  refine lv_istore_n (lv' := [(3, .int (nI 0)), (0, .ref (F i)), (1, .ref (F a)), (2, .ref (F b))]) hx hb dX1_becomeProduct_5 rfl hl (by decide) rfl (fun ls hl => ?_)
  have L6 : ∀ (n : Nat) (r : Nat) (f : Nat → Int64) (hr1 : r ≤ top a + 1) (hf : ∀ k, k < 49 → f k = zpout (T a) (T b) (top b) k r) (hn : top a + 1 - r < n) (H : Heap) (locs : List Loc), va_P D vwCl (zq_wd F 30 (zCE cL cR F (va_up T i f) (va_up top i 0) Z)) H → va_S A s.heap H locs → ∀ (ls : Array Slot), lv_has ls 8 [(0, .ref (F i)), (1, .ref (F a)), (2, .ref (F b)), (3, .int (nI r))] → W p l e ({ frames := 2, cells := 0, slots := 0, locals := 52 }) s m ([.ref (F i), .ref (F a), .ref (F b)] : List Value).toArray below meth c H locs 0 0 (zQ below D A F 30 [.ref (F i), .ref (F a), .ref (F b)] s (fun v2 E2 => v2 = none ∧ E2 = (zCE cL cR F (va_up T i f2) (va_up top i (ztop f2 48)) Z))) (F0 m 6 ls []) := by
    intro n
    induction n with
    | zero =>
      intro r f hr1 hf hn
      exact absurd hn (Nat.not_lt_zero _)
    | succ n ih6 =>
      intro r f hr1 hf hn H locs hP hS ls hl
      refine lv_iload_n hx hb dX1_becomeProduct_6 rfl (lv_at hl 3 rfl) ?_
      refine lv_aload_n hx hb dX1_becomeProduct_7 rfl (lv_at hl 1 rfl) ?_
      refine zget (q := a) (k := 1) (v := .int (nI (top a))) hx hb hts hinX1 hown hAm hP (by omega) (zC_s (by omega)) rfl (by decide) (hts (.fieldLink RX1 15 "CosineSeries$Series" "top" "I") (by decide +kernel)) (by first | rfl | simp [va_up, *]) dX1_becomeProduct_8 ?_
      refine zi_gt (tgt := 95) hx hb dX1_becomeProduct_11 (by decide) (by omega) (by omega) (fun c1 => ?_) (fun c1 => ?_)
      ·
        refine lv_iconst (v := nI 0) hx hb dX1_becomeProduct_95 (by decide +kernel) ?_
        refine lv_istore_n (lv' := [(3, .int (nI 0)), (0, .ref (F i)), (1, .ref (F a)), (2, .ref (F b))]) hx hb dX1_becomeProduct_96 rfl hl (by decide) rfl (fun ls hl => ?_)
        have L97 : ∀ (n : Nat) (k : Nat) (f3 : Nat → Int64) (hk : k ≤ 49) (hf3 : ∀ j, j < 49 → f3 j = if j < k then f2 j else f j) (hn : 49 - k < n) (H : Heap) (locs : List Loc), va_P D vwCl (zq_wd F 30 (zCE cL cR F (va_up T i f3) (va_up top i 0) Z)) H → va_S A s.heap H locs → ∀ (ls : Array Slot), lv_has ls 8 [(0, .ref (F i)), (3, .int (nI k))] → W p l e ({ frames := 2, cells := 0, slots := 0, locals := 52 }) s m ([.ref (F i), .ref (F a), .ref (F b)] : List Value).toArray below meth c H locs 0 0 (zQ below D A F 30 [.ref (F i), .ref (F a), .ref (F b)] s (fun v2 E2 => v2 = none ∧ E2 = (zCE cL cR F (va_up T i f2) (va_up top i (ztop f2 48)) Z))) (F0 m 97 ls []) := by
          intro n
          induction n with
          | zero =>
            intro k f3 hk hf3 hn
            exact absurd hn (Nat.not_lt_zero _)
          | succ n ih97 =>
            intro k f3 hk hf3 hn H locs hP hS ls hl
            refine lv_iload_n hx hb dX1_becomeProduct_97 rfl (lv_at hl 1 rfl) ?_
            refine lv_aload_n hx hb dX1_becomeProduct_98 rfl (lv_at hl 0 rfl) ?_
            refine zget (q := i) (k := 0) (v := .ref (F (i + 12))) hx hb hts hinX1 hown hAm hP (by omega) (zC_s (by omega)) rfl (by decide) (hts (.fieldLink RX1 9 "CosineSeries$Series" "terms" "[J") (by decide +kernel)) (by first | rfl | simp [va_up, *]) dX1_becomeProduct_99 ?_
            refine zalen (N := 49) (q := (i + 12)) (t0 := 0) hx hb hAm hP (by omega) (zC_t (by omega)) rfl rfl dX1_becomeProduct_102 ?_
            refine zi_ge (tgt := 130) hx hb dX1_becomeProduct_103 (by decide) (by omega) (by omega) (fun c2 => ?_) (fun c2 => ?_)
            ·
              have hP : va_P D vwCl (zq_wd F 30 (zCE cL cR F (va_up T i f2) (va_up top i 0) Z)) H := zC_extT hP (zupx (fun j hj => by rw [hf3 j hj, if_pos (by omega)]))
              refine lv_aload_n hx hb dX1_becomeProduct_130 rfl (lv_at hl 0 rfl) ?_
              refine zcallV (As := []) (rest := []) (q := i) (k := 0) hx hb hml hown hts (kX1_trim l D cL cI cR A F hF (va_up T i f2) (va_up top i 0) Z i (by omega) f2 (by first | rfl | simp [va_up, *]) (va_up top i (ztop f2 48)) (by first | rfl | simp only [bx_uu])) gX1_becomeProduct_X1_trim rfl (by decide +kernel) ⟨Nat.le_of_ble_eq_true rfl, Nat.le_of_ble_eq_true rfl⟩ rfl (by omega) (zC_s (by omega)) rfl rfl hAm hP hS rfl hl.1 rfl (Nat.le_of_ble_eq_true rfl) dX1_becomeProduct_131 ⟨Nat.zero_le _, Nat.zero_le _⟩ (zkn (fun H locs hP hS => ?_))
              refine W.eq (g2 := F0 m 134 ls []) rfl ?_
              exact zretV hx hb hr hlk hS hP dX1_becomeProduct_134 ⟨rfl, rfl⟩
            ·
              refine lv_aload_n hx hb dX1_becomeProduct_106 rfl (lv_at hl 0 rfl) ?_
              refine zget (q := i) (k := 0) (v := .ref (F (i + 12))) hx hb hts hinX1 hown hAm hP (by omega) (zC_s (by omega)) rfl (by decide) (hts (.fieldLink RX1 9 "CosineSeries$Series" "terms" "[J") (by decide +kernel)) (by first | rfl | simp [va_up, *]) dX1_becomeProduct_107 ?_
              refine lv_iload_n hx hb dX1_becomeProduct_110 rfl (lv_at hl 1 rfl) ?_
              refine lv_aload_n hx hb dX1_becomeProduct_111 rfl (lv_at hl 0 rfl) ?_
              refine zget (q := i) (k := 0) (v := .ref (F (i + 12))) hx hb hts hinX1 hown hAm hP (by omega) (zC_s (by omega)) rfl (by decide) (hts (.fieldLink RX1 9 "CosineSeries$Series" "terms" "[J") (by decide +kernel)) (by first | rfl | simp [va_up, *]) dX1_becomeProduct_112 ?_
              refine lv_iload_n hx hb dX1_becomeProduct_115 rfl (lv_at hl 1 rfl) ?_
              refine zlald (q := (i + 12)) (k := k) (v := (f3 k)) hx hb hAm hP (by omega) (zC_t (by omega)) (by omega) (by decide) (by first | rfl | simp [va_up, *]) dX1_becomeProduct_116 ?_
              refine lv_ldc2 hx hb hown (hts (.constantLong RX1 66 (2097152)) (by decide +kernel)) dX1_becomeProduct_117 ?_
              refine zcallN (As := [.long (f3 k), .long (2097152 : Int64)]) (rest := [.int (nI k), .ref (F (i + 12))]) (k := 2) hx hb hml hown hts (kX2_rounded l D cL cI cR A F 30 (zCE cL cR F (va_up T i f3) (va_up top i 0) Z) (f3 k) (2097152 : Int64) (by decide)) gX1_becomeProduct_X2_rounded_n45 rfl hAm.2.1 (hts (.initialized RX2) (by decide +kernel)) (hts (.static yX2_rounded) (by decide +kernel)) (by decide +kernel) ⟨Nat.le_of_ble_eq_true rfl, Nat.le_of_ble_eq_true rfl⟩ hAm hP hS rfl hl.1 rfl (Nat.le_of_ble_eq_true rfl) dX1_becomeProduct_120 ⟨Nat.zero_le _, Nat.zero_le _⟩ (zkn (fun H locs hP hS => ?_))
              refine W.eq (g2 := F0 m 123 ls [.long (zR (f3 k) (2097152 : Int64)), .int (nI k), .ref (F (i + 12))]) rfl ?_
              refine zlast (q := (i + 12)) (k := k) (E' := (zCE cL cR F (va_up T i (vp_updL f3 k (zR (f3 k) (2097152 : Int64)))) (va_up top i 0) Z)) hx hb hAm hP hF hS (by omega) (zC_t (by omega)) (by omega) (by decide) dX1_becomeProduct_123 (by first | exact zC_ut (by omega) | (rw [zC_ut (by omega)]; simp only [bx_uu, va_up_eq])) (fun H locs hP hS => ?_)
              refine lv_iinc (v := (nI (k + 1))) (lv' := [(3, .int (nI (k + 1))), (0, .ref (F i))]) hx hb dX1_becomeProduct_124 hl (k := 1) rfl (zinc (by omega)) (by decide) rfl (fun ls hl => ?_)
              refine lv_goto (tgt := 97) hx hb dX1_becomeProduct_127 (by decide) ?_
              exact ih97 (k + 1) _ (by omega) (fun j hj => by unfold vp_updL; split; (rename_i h; rw [if_pos (by omega), h, hf3 k (by omega), if_neg (by omega), hf k (by omega), hf2, show r = top a + 1 by omega]; rfl); (rw [hf3 j hj]; by_cases h : j < k; (rw [if_pos h, if_pos (by omega)]); (rw [if_neg h, if_neg (by omega)]))) (by omega) H _ hP hS ls (lv_sub hl [1, 0] rfl)
        exact L97 _ 0 _ (by omega) (fun j _ => by rw [if_neg (by omega)]) (Nat.lt_succ_self _) H _ hP hS ls (lv_sub hl [1, 0] rfl)
      ·
        refine lv_iconst (v := nI 0) hx hb dX1_becomeProduct_14 (by decide +kernel) ?_
        refine lv_istore (lv' := [(4, .int (nI 0)), (0, .ref (F i)), (1, .ref (F a)), (2, .ref (F b)), (3, .int (nI r))]) hx hb dX1_becomeProduct_15 hl (by decide) rfl (fun ls hl => ?_)
        have L17 : ∀ (n : Nat) (q : Nat) (f : Nat → Int64) (hq : q ≤ top b + 1) (hf : ∀ k, k < 49 → f k = zpin (T a) (T b) k r q (zpout (T a) (T b) (top b) k r)) (hn : top b + 1 - q < n) (H : Heap) (locs : List Loc), va_P D vwCl (zq_wd F 30 (zCE cL cR F (va_up T i f) (va_up top i 0) Z)) H → va_S A s.heap H locs → ∀ (ls : Array Slot), lv_has ls 8 [(0, .ref (F i)), (1, .ref (F a)), (2, .ref (F b)), (3, .int (nI r)), (4, .int (nI q))] → W p l e ({ frames := 2, cells := 0, slots := 0, locals := 52 }) s m ([.ref (F i), .ref (F a), .ref (F b)] : List Value).toArray below meth c H locs 0 0 (zQ below D A F 30 [.ref (F i), .ref (F a), .ref (F b)] s (fun v2 E2 => v2 = none ∧ E2 = (zCE cL cR F (va_up T i f2) (va_up top i (ztop f2 48)) Z))) (F0 m 17 ls []) := by
          intro n
          induction n with
          | zero =>
            intro q f hq hf hn
            exact absurd hn (Nat.not_lt_zero _)
          | succ n ih17 =>
            intro q f hq hf hn H locs hP hS ls hl
            refine lv_iload hx hb dX1_becomeProduct_17 (lv_at hl 4 rfl) ?_
            refine lv_aload_n hx hb dX1_becomeProduct_19 rfl (lv_at hl 2 rfl) ?_
            refine zget (q := b) (k := 1) (v := .int (nI (top b))) hx hb hts hinX1 hown hAm hP (by omega) (zC_s (by omega)) rfl (by decide) (hts (.fieldLink RX1 15 "CosineSeries$Series" "top" "I") (by decide +kernel)) (by first | rfl | simp [va_up, *]) dX1_becomeProduct_20 ?_
            refine zi_gt (tgt := 89) hx hb dX1_becomeProduct_23 (by decide) (by omega) (by omega) (fun c3 => ?_) (fun c3 => ?_)
            ·
              refine lv_iinc (v := (nI (r + 1))) (lv' := [(3, .int (nI (r + 1))), (0, .ref (F i)), (1, .ref (F a)), (2, .ref (F b)), (4, .int (nI q))]) hx hb dX1_becomeProduct_89 hl (k := 3) rfl (zinc (by omega)) (by decide) rfl (fun ls hl => ?_)
              refine lv_goto (tgt := 6) hx hb dX1_becomeProduct_92 (by decide) ?_
              exact ih6 (r + 1) _ (by omega) (fun k hk => by rw [hf k hk, show q = top b + 1 by omega]; rfl) (by omega) H _ hP hS ls (lv_sub hl [1, 2, 3, 0] rfl)
            ·
              refine lv_aload_n hx hb dX1_becomeProduct_26 rfl (lv_at hl 1 rfl) ?_
              refine lv_iload_n hx hb dX1_becomeProduct_27 rfl (lv_at hl 3 rfl) ?_
              refine zcallV (As := [.int (nI r)]) (rest := []) (q := a) (k := 1) hx hb hml hown hts (kX1_at l D cL cI cR A F hF (va_up T i f) (va_up top i 0) Z a ha r (by omega) (T a r) (by simp [va_up, hai])) gX1_becomeProduct_X1_at rfl (by decide +kernel) ⟨Nat.le_of_ble_eq_true rfl, Nat.le_of_ble_eq_true rfl⟩ rfl (by omega) (zC_s (by omega)) rfl rfl hAm hP hS rfl hl.1 rfl (Nat.le_of_ble_eq_true rfl) dX1_becomeProduct_28 ⟨Nat.zero_le _, Nat.zero_le _⟩ (zkn (fun H locs hP hS => ?_))
              refine W.eq (g2 := F0 m 31 ls [.long (T a r)]) rfl ?_
              refine lv_aload_n hx hb dX1_becomeProduct_31 rfl (lv_at hl 2 rfl) ?_
              refine lv_iload hx hb dX1_becomeProduct_32 (lv_at hl 4 rfl) ?_
              refine zcallV (As := [.int (nI q)]) (rest := [.long (T a r)]) (q := b) (k := 1) hx hb hml hown hts (kX1_at l D cL cI cR A F hF (va_up T i f) (va_up top i 0) Z b hb12 q (by omega) (T b q) (by simp [va_up, hbi])) gX1_becomeProduct_X1_at rfl (by decide +kernel) ⟨Nat.le_of_ble_eq_true rfl, Nat.le_of_ble_eq_true rfl⟩ rfl (by omega) (zC_s (by omega)) rfl rfl hAm hP hS rfl hl.1 rfl (Nat.le_of_ble_eq_true rfl) dX1_becomeProduct_34 ⟨Nat.zero_le _, Nat.zero_le _⟩ (zkn (fun H locs hP hS => ?_))
              refine W.eq (g2 := F0 m 37 ls [.long (T b q), .long (T a r)]) rfl ?_
              refine lv_lmul hx hb dX1_becomeProduct_37 ?_
              refine lv_lstore (lv' := [(5, .long ((T a r) * (T b q))), (0, .ref (F i)), (1, .ref (F a)), (2, .ref (F b)), (3, .int (nI r)), (4, .int (nI q))]) hx hb dX1_becomeProduct_38 hl (by decide) rfl (fun ls hl => ?_)
              refine lv_aload_n hx hb dX1_becomeProduct_40 rfl (lv_at hl 1 rfl) ?_
              refine lv_iload_n hx hb dX1_becomeProduct_41 rfl (lv_at hl 4 rfl) ?_
              refine lv_iload hx hb dX1_becomeProduct_42 (lv_at hl 5 rfl) ?_
              refine ziadd (d := (r + q)) hx hb (by omega) dX1_becomeProduct_44 ?_
              refine lv_aload_n hx hb dX1_becomeProduct_45 rfl (lv_at hl 1 rfl) ?_
              refine lv_iload_n hx hb dX1_becomeProduct_46 rfl (lv_at hl 4 rfl) ?_
              refine lv_iload hx hb dX1_becomeProduct_47 (lv_at hl 5 rfl) ?_
              refine ziadd (d := (r + q)) hx hb (by omega) dX1_becomeProduct_49 ?_
              refine zcallV (As := [.int (nI (r + q))]) (rest := [.int (nI (r + q)), .ref (F i)]) (q := i) (k := 1) hx hb hml hown hts (kX1_at l D cL cI cR A F hF (va_up T i f) (va_up top i 0) Z i (by omega) (r + q) (by omega) (f (r + q)) (by first | rfl | simp [va_up, *])) gX1_becomeProduct_X1_at rfl (by decide +kernel) ⟨Nat.le_of_ble_eq_true rfl, Nat.le_of_ble_eq_true rfl⟩ rfl (by omega) (zC_s (by omega)) rfl rfl hAm hP hS rfl hl.1 rfl (Nat.le_of_ble_eq_true rfl) dX1_becomeProduct_50 ⟨Nat.zero_le _, Nat.zero_le _⟩ (zkn (fun H locs hP hS => ?_))
              refine W.eq (g2 := F0 m 53 ls [.long (f (r + q)), .int (nI (r + q)), .ref (F i)]) rfl ?_
              refine lv_lload hx hb dX1_becomeProduct_53 (lv_at hl 0 rfl) ?_
              refine lv_ladd hx hb dX1_becomeProduct_55 ?_
              refine zcallV (As := [.int (nI (r + q)), .long ((f (r + q)) + ((T a r) * (T b q)))]) (rest := []) (q := i) (k := 2) hx hb hml hown hts (kX1_put l D cL cI cR A F hF (va_up T i f) (va_up top i 0) Z i (by omega) (r + q) (by omega) ((f (r + q)) + ((T a r) * (T b q))) (va_up T i (vp_updL f (r + q) ((f (r + q)) + ((T a r) * (T b q))))) (by first | rfl | simp only [bx_uu, va_up_eq])) gX1_becomeProduct_X1_put rfl (by decide +kernel) ⟨Nat.le_of_ble_eq_true rfl, Nat.le_of_ble_eq_true rfl⟩ rfl (by omega) (zC_s (by omega)) rfl rfl hAm hP hS rfl hl.1 rfl (Nat.le_of_ble_eq_true rfl) dX1_becomeProduct_56 ⟨Nat.zero_le _, Nat.zero_le _⟩ (zkn (fun H locs hP hS => ?_))
              refine W.eq (g2 := F0 m 59 ls []) rfl ?_
              refine lv_iload_n hx hb dX1_becomeProduct_59 rfl (lv_at hl 4 rfl) ?_
              refine lv_iload hx hb dX1_becomeProduct_60 (lv_at hl 5 rfl) ?_
              refine lv_isub hx hb dX1_becomeProduct_62 ?_
              refine va_mabs hx hb (hml.trans hl.1.symm) hown (hts (.methodLink RX1 63 Lib.Math.abs.name) (by decide +kernel)) (hts (.static Lib.Math.abs.name) (by decide +kernel)) (hts (.initialized "java/lang/Math") (by decide +kernel)) (hts (.code Lib.Math.abs.name Lib.Math.abs.code 1 (some .int)) (by decide +kernel)) (Nat.le_of_ble_eq_true rfl) (Nat.le_of_ble_eq_true rfl) (Nat.zero_le _) (Nat.zero_le _) dX1_becomeProduct_63 ?_
              refine W.eq (g2 := F0 m 66 ls [.int (nI (r - q + (q - r)))]) (by rw [zabsd (by omega) (by omega)]) ?_
              refine lv_istore (lv' := [(7, .int (nI (r - q + (q - r)))), (5, .long ((T a r) * (T b q))), (0, .ref (F i)), (1, .ref (F a)), (2, .ref (F b)), (3, .int (nI r)), (4, .int (nI q))]) hx hb dX1_becomeProduct_66 hl (by decide) rfl (fun ls hl => ?_)
              refine lv_aload_n hx hb dX1_becomeProduct_68 rfl (lv_at hl 2 rfl) ?_
              refine lv_iload hx hb dX1_becomeProduct_69 (lv_at hl 0 rfl) ?_
              refine lv_aload_n hx hb dX1_becomeProduct_71 rfl (lv_at hl 2 rfl) ?_
              refine lv_iload hx hb dX1_becomeProduct_72 (lv_at hl 0 rfl) ?_
              refine zcallV (As := [.int (nI (r - q + (q - r)))]) (rest := [.int (nI (r - q + (q - r))), .ref (F i)]) (q := i) (k := 1) hx hb hml hown hts (kX1_at l D cL cI cR A F hF (va_up T i (vp_updL f (r + q) ((f (r + q)) + ((T a r) * (T b q))))) (va_up top i 0) Z i (by omega) (r - q + (q - r)) (by omega) ((vp_updL f (r + q) ((f (r + q)) + ((T a r) * (T b q)))) (r - q + (q - r))) (by first | rfl | simp [va_up, *])) gX1_becomeProduct_X1_at rfl (by decide +kernel) ⟨Nat.le_of_ble_eq_true rfl, Nat.le_of_ble_eq_true rfl⟩ rfl (by omega) (zC_s (by omega)) rfl rfl hAm hP hS rfl hl.1 rfl (Nat.le_of_ble_eq_true rfl) dX1_becomeProduct_74 ⟨Nat.zero_le _, Nat.zero_le _⟩ (zkn (fun H locs hP hS => ?_))
              refine W.eq (g2 := F0 m 77 ls [.long ((vp_updL f (r + q) ((f (r + q)) + ((T a r) * (T b q)))) (r - q + (q - r))), .int (nI (r - q + (q - r))), .ref (F i)]) rfl ?_
              refine lv_lload hx hb dX1_becomeProduct_77 (lv_at hl 1 rfl) ?_
              refine lv_ladd hx hb dX1_becomeProduct_79 ?_
              refine zcallV (As := [.int (nI (r - q + (q - r))), .long (((vp_updL f (r + q) ((f (r + q)) + ((T a r) * (T b q)))) (r - q + (q - r))) + ((T a r) * (T b q)))]) (rest := []) (q := i) (k := 2) hx hb hml hown hts (kX1_put l D cL cI cR A F hF (va_up T i (vp_updL f (r + q) ((f (r + q)) + ((T a r) * (T b q))))) (va_up top i 0) Z i (by omega) (r - q + (q - r)) (by omega) (((vp_updL f (r + q) ((f (r + q)) + ((T a r) * (T b q)))) (r - q + (q - r))) + ((T a r) * (T b q))) (va_up T i (vp_updL (vp_updL f (r + q) ((f (r + q)) + ((T a r) * (T b q)))) (r - q + (q - r)) (((vp_updL f (r + q) ((f (r + q)) + ((T a r) * (T b q)))) (r - q + (q - r))) + ((T a r) * (T b q))))) (by first | rfl | simp only [bx_uu, va_up_eq])) gX1_becomeProduct_X1_put rfl (by decide +kernel) ⟨Nat.le_of_ble_eq_true rfl, Nat.le_of_ble_eq_true rfl⟩ rfl (by omega) (zC_s (by omega)) rfl rfl hAm hP hS rfl hl.1 rfl (Nat.le_of_ble_eq_true rfl) dX1_becomeProduct_80 ⟨Nat.zero_le _, Nat.zero_le _⟩ (zkn (fun H locs hP hS => ?_))
              refine W.eq (g2 := F0 m 83 ls []) rfl ?_
              refine lv_iinc (v := (nI (q + 1))) (lv' := [(4, .int (nI (q + 1))), (7, .int (nI (r - q + (q - r)))), (5, .long ((T a r) * (T b q))), (0, .ref (F i)), (1, .ref (F a)), (2, .ref (F b)), (3, .int (nI r))]) hx hb dX1_becomeProduct_83 hl (k := 6) rfl (zinc (by omega)) (by decide) rfl (fun ls hl => ?_)
              refine lv_goto (tgt := 17) hx hb dX1_becomeProduct_86 (by decide) ?_
              exact ih17 (q + 1) _ (by omega) (fun k hk => by rw [zp_step (T a) (T b), hf k hk]; rfl) (by omega) H _ hP hS ls (lv_sub hl [3, 4, 5, 6, 0] rfl)
        exact L17 _ 0 _ (by omega) (fun k hk => hf k hk) (Nat.lt_succ_self _) H _ hP hS ls (lv_sub hl [1, 2, 3, 4, 0] rfl)
  exact L6 _ 0 _ (by omega) (fun k _ => rfl) (Nat.lt_succ_self _) H _ hP hS ls (lv_sub hl [1, 2, 3, 0] rfl)

set_option maxHeartbeats 4000000 in
set_option maxRecDepth 100000 in
theorem kX1_becomeDerivative (l : Launch) (D : va_G) (cL cI cR : ClassId) (A : Nat → Prop) (F : Nat → Nat) (hF : zq_F A F 30) (T : Nat → Nat → Int64) (top : Nat → Nat) (Z : zZC) (i : Nat) (hi : i < 12) (a : Nat) (ha : a < 12) (hai : ¬ a = i) (hna : top a ≤ 24) (f2 : Nat → Int64) (hf2 : f2 = zder (T a) (top a)) : zCt l yX1_becomeDerivative wsX1_becomeDerivative 2 52 D cL cI cR A F 30 (zCE cL cR F T top Z) [.ref (F i), .ref (F a)] (fun v2 E2 => v2 = none ∧ E2 = (zCE cL cR F (va_up T i f2) (va_up top i (ztop f2 48)) Z)) := by
  refine zStart (cc := cX1_becomeDerivative) (maxL := 3) (ret := none) (by decide +kernel) rfl (Nat.le_of_ble_eq_true rfl) ?_
  intro p e s m below meth c hx hb hr hml hlk hown hts hAm H hP hS ls hl
  have hown : s.vm.findClass RX1 = some m.cls := hown
  have hl : lv_has ls 3 [(0, .ref (F i)), (1, .ref (F a))] := hl
  have hinX1 : ∀ w ∈ u_ws RX1 TX1 2, w ∈ wsX1_becomeDerivative := by decide +kernel
  refine lv_aload_n hx hb dX1_becomeDerivative_0 rfl (lv_at hl 0 rfl) ?_
  refine zcallV (As := []) (rest := []) (q := i) (k := 0) hx hb hml hown hts (kX1_clear l D cL cI cR A F hF T top Z i (by omega)) gX1_becomeDerivative_X1_clear rfl (by decide +kernel) ⟨Nat.le_of_ble_eq_true rfl, Nat.le_of_ble_eq_true rfl⟩ rfl (by omega) (zC_s (by omega)) rfl rfl hAm hP hS rfl hl.1 rfl (Nat.le_of_ble_eq_true rfl) dX1_becomeDerivative_1 ⟨Nat.zero_le _, Nat.zero_le _⟩ (zkn (fun H locs hP hS => ?_))
  refine W.eq (g2 := F0 m 4 ls []) rfl ?_
  refine lv_aload_n hx hb dX1_becomeDerivative_4 rfl (lv_at hl 1 rfl) ?_
  refine zget (q := a) (k := 1) (v := .int (nI (top a))) hx hb hts hinX1 hown hAm hP (by omega) (zC_s (by omega)) rfl (by decide) (hts (.fieldLink RX1 15 "CosineSeries$Series" "top" "I") (by decide +kernel)) (by first | rfl | simp [va_up, *]) dX1_becomeDerivative_5 ?_
  refine lv_istore_n (lv' := [(2, .int (nI (top a))), (0, .ref (F i)), (1, .ref (F a))]) hx hb dX1_becomeDerivative_8 rfl hl (by decide) rfl (fun ls hl => ?_)
  have L9 : ∀ (n : Nat) (k : Nat) (f : Nat → Int64) (hk : k ≤ 24) (hf : zderF (T a) k f = zderF (T a) (top a) (fun _ => 0)) (hn : k < n) (H : Heap) (locs : List Loc), va_P D vwCl (zq_wd F 30 (zCE cL cR F (va_up T i f) (va_up top i 0) Z)) H → va_S A s.heap H locs → ∀ (ls : Array Slot), lv_has ls 3 [(0, .ref (F i)), (1, .ref (F a)), (2, .int (nI k))] → W p l e ({ frames := 2, cells := 0, slots := 0, locals := 52 }) s m ([.ref (F i), .ref (F a)] : List Value).toArray below meth c H locs 0 0 (zQ below D A F 30 [.ref (F i), .ref (F a)] s (fun v2 E2 => v2 = none ∧ E2 = (zCE cL cR F (va_up T i f2) (va_up top i (ztop f2 48)) Z))) (F0 m 9 ls []) := by
    intro n
    induction n with
    | zero =>
      intro k f hk hf hn
      exact absurd hn (Nat.not_lt_zero _)
    | succ n ih9 =>
      intro k f hk hf hn H locs hP hS ls hl
      refine lv_iload_n hx hb dX1_becomeDerivative_9 rfl (lv_at hl 2 rfl) ?_
      refine lv_iconst (v := nI 1) hx hb dX1_becomeDerivative_10 (by decide +kernel) ?_
      refine zi_lt (tgt := 45) hx hb dX1_becomeDerivative_11 (by decide) (by omega) (by omega) (fun c1 => ?_) (fun c1 => ?_)
      ·
        have hk0 : k = 0 := by omega
        rw [hk0] at hf
        refine lv_aload_n hx hb dX1_becomeDerivative_45 rfl (lv_at hl 0 rfl) ?_
        refine lv_iconst (v := nI 0) hx hb dX1_becomeDerivative_46 (by decide +kernel) ?_
        refine lv_aload_n hx hb dX1_becomeDerivative_47 rfl (lv_at hl 0 rfl) ?_
        refine lv_iconst (v := nI 0) hx hb dX1_becomeDerivative_48 (by decide +kernel) ?_
        refine zcallV (As := [.int (nI 0)]) (rest := [.int (nI 0), .ref (F i)]) (q := i) (k := 1) hx hb hml hown hts (kX1_at l D cL cI cR A F hF (va_up T i f) (va_up top i 0) Z i (by omega) 0 (by omega) (f 0) (by first | rfl | simp [va_up, *])) gX1_becomeDerivative_X1_at rfl (by decide +kernel) ⟨Nat.le_of_ble_eq_true rfl, Nat.le_of_ble_eq_true rfl⟩ rfl (by omega) (zC_s (by omega)) rfl rfl hAm hP hS rfl hl.1 rfl (Nat.le_of_ble_eq_true rfl) dX1_becomeDerivative_49 ⟨Nat.zero_le _, Nat.zero_le _⟩ (zkn (fun H locs hP hS => ?_))
        refine W.eq (g2 := F0 m 52 ls [.long (f 0), .int (nI 0), .ref (F i)]) rfl ?_
        refine lv_ldc2 hx hb hown (hts (.constantLong RX1 41 (2)) (by decide +kernel)) dX1_becomeDerivative_52 ?_
        refine zcallN (As := [.long (f 0), .long (2 : Int64)]) (rest := [.int (nI 0), .ref (F i)]) (k := 2) hx hb hml hown hts (kX2_rounded l D cL cI cR A F 30 (zCE cL cR F (va_up T i f) (va_up top i 0) Z) (f 0) (2 : Int64) (by decide)) gX1_becomeDerivative_X2_rounded_n45 rfl hAm.2.1 (hts (.initialized RX2) (by decide +kernel)) (hts (.static yX2_rounded) (by decide +kernel)) (by decide +kernel) ⟨Nat.le_of_ble_eq_true rfl, Nat.le_of_ble_eq_true rfl⟩ hAm hP hS rfl hl.1 rfl (Nat.le_of_ble_eq_true rfl) dX1_becomeDerivative_55 ⟨Nat.zero_le _, Nat.zero_le _⟩ (zkn (fun H locs hP hS => ?_))
        refine W.eq (g2 := F0 m 58 ls [.long (zR (f 0) (2 : Int64)), .int (nI 0), .ref (F i)]) rfl ?_
        refine zcallV (As := [.int (nI 0), .long (zR (f 0) (2 : Int64))]) (rest := []) (q := i) (k := 2) hx hb hml hown hts (kX1_put l D cL cI cR A F hF (va_up T i f) (va_up top i 0) Z i (by omega) 0 (by omega) (zR (f 0) (2 : Int64)) (va_up T i (vp_updL f 0 (zR (f 0) (2 : Int64)))) (by first | rfl | simp only [bx_uu, va_up_eq])) gX1_becomeDerivative_X1_put rfl (by decide +kernel) ⟨Nat.le_of_ble_eq_true rfl, Nat.le_of_ble_eq_true rfl⟩ rfl (by omega) (zC_s (by omega)) rfl rfl hAm hP hS rfl hl.1 rfl (Nat.le_of_ble_eq_true rfl) dX1_becomeDerivative_58 ⟨Nat.zero_le _, Nat.zero_le _⟩ (zkn (fun H locs hP hS => ?_))
        refine W.eq (g2 := F0 m 61 ls []) rfl ?_
        have hP : va_P D vwCl (zq_wd F 30 (zCE cL cR F (va_up T i f2) (va_up top i 0) Z)) H := by rw [hf2]; unfold zder; rw [← hf]; exact hP
        refine lv_aload_n hx hb dX1_becomeDerivative_61 rfl (lv_at hl 0 rfl) ?_
        refine zcallV (As := []) (rest := []) (q := i) (k := 0) hx hb hml hown hts (kX1_trim l D cL cI cR A F hF (va_up T i f2) (va_up top i 0) Z i (by omega) f2 (by first | rfl | simp [va_up, *]) (va_up top i (ztop f2 48)) (by first | rfl | simp only [bx_uu])) gX1_becomeDerivative_X1_trim rfl (by decide +kernel) ⟨Nat.le_of_ble_eq_true rfl, Nat.le_of_ble_eq_true rfl⟩ rfl (by omega) (zC_s (by omega)) rfl rfl hAm hP hS rfl hl.1 rfl (Nat.le_of_ble_eq_true rfl) dX1_becomeDerivative_62 ⟨Nat.zero_le _, Nat.zero_le _⟩ (zkn (fun H locs hP hS => ?_))
        refine W.eq (g2 := F0 m 65 ls []) rfl ?_
        exact zretV hx hb hr hlk hS hP dX1_becomeDerivative_65 ⟨rfl, rfl⟩
      ·
        obtain ⟨k, rfl⟩ : ∃ j, k = j + 1 := ⟨k - 1, by omega⟩
        have hl : lv_has ls 3 [(0, .ref (F i)), (1, .ref (F a)), (2, .int (nI (k + 1)))] := by exact hl
        refine lv_aload_n hx hb dX1_becomeDerivative_14 rfl (lv_at hl 0 rfl) ?_
        refine lv_iload_n hx hb dX1_becomeDerivative_15 rfl (lv_at hl 2 rfl) ?_
        refine lv_iconst (v := nI 1) hx hb dX1_becomeDerivative_16 (by decide +kernel) ?_
        refine zisub (d := k) hx hb (by omega) dX1_becomeDerivative_17 ?_
        refine lv_aload_n hx hb dX1_becomeDerivative_18 rfl (lv_at hl 0 rfl) ?_
        refine lv_iload_n hx hb dX1_becomeDerivative_19 rfl (lv_at hl 2 rfl) ?_
        refine lv_iconst (v := nI 1) hx hb dX1_becomeDerivative_20 (by decide +kernel) ?_
        refine ziadd (d := (k + 2)) hx hb (by omega) dX1_becomeDerivative_21 ?_
        refine zcallV (As := [.int (nI (k + 2))]) (rest := [.int (nI k), .ref (F i)]) (q := i) (k := 1) hx hb hml hown hts (kX1_at l D cL cI cR A F hF (va_up T i f) (va_up top i 0) Z i (by omega) (k + 2) (by omega) (f (k + 2)) (by first | rfl | simp [va_up, *])) gX1_becomeDerivative_X1_at rfl (by decide +kernel) ⟨Nat.le_of_ble_eq_true rfl, Nat.le_of_ble_eq_true rfl⟩ rfl (by omega) (zC_s (by omega)) rfl rfl hAm hP hS rfl hl.1 rfl (Nat.le_of_ble_eq_true rfl) dX1_becomeDerivative_22 ⟨Nat.zero_le _, Nat.zero_le _⟩ (zkn (fun H locs hP hS => ?_))
        refine W.eq (g2 := F0 m 25 ls [.long (f (k + 2)), .int (nI k), .ref (F i)]) rfl ?_
        refine lv_iconst (v := nI 2) hx hb dX1_becomeDerivative_25 (by decide +kernel) ?_
        refine lv_iload_n hx hb dX1_becomeDerivative_26 rfl (lv_at hl 2 rfl) ?_
        refine zimul (d := (2 * k + 2)) hx hb (by omega) dX1_becomeDerivative_27 ?_
        refine zi2l hx hb (by omega) dX1_becomeDerivative_28 ?_
        refine lv_aload_n hx hb dX1_becomeDerivative_29 rfl (lv_at hl 1 rfl) ?_
        refine lv_iload_n hx hb dX1_becomeDerivative_30 rfl (lv_at hl 2 rfl) ?_
        refine zcallV (As := [.int (nI (k + 1))]) (rest := [.long (lN (2 * k + 2)), .long (f (k + 2)), .int (nI k), .ref (F i)]) (q := a) (k := 1) hx hb hml hown hts (kX1_at l D cL cI cR A F hF (va_up T i f) (va_up top i 0) Z a ha (k + 1) (by omega) (T a (k + 1)) (by simp [va_up, hai])) gX1_becomeDerivative_X1_at rfl (by decide +kernel) ⟨Nat.le_of_ble_eq_true rfl, Nat.le_of_ble_eq_true rfl⟩ rfl (by omega) (zC_s (by omega)) rfl rfl hAm hP hS rfl hl.1 rfl (Nat.le_of_ble_eq_true rfl) dX1_becomeDerivative_31 ⟨Nat.zero_le _, Nat.zero_le _⟩ (zkn (fun H locs hP hS => ?_))
        refine W.eq (g2 := F0 m 34 ls [.long (T a (k + 1)), .long (lN (2 * k + 2)), .long (f (k + 2)), .int (nI k), .ref (F i)]) rfl ?_
        refine lv_lmul hx hb dX1_becomeDerivative_34 ?_
        refine lv_ladd hx hb dX1_becomeDerivative_35 ?_
        refine zcallV (As := [.int (nI k), .long ((f (k + 2)) + ((lN (2 * k + 2)) * (T a (k + 1))))]) (rest := []) (q := i) (k := 2) hx hb hml hown hts (kX1_put l D cL cI cR A F hF (va_up T i f) (va_up top i 0) Z i (by omega) k (by omega) ((f (k + 2)) + ((lN (2 * k + 2)) * (T a (k + 1)))) (va_up T i (vp_updL f k ((f (k + 2)) + ((lN (2 * k + 2)) * (T a (k + 1)))))) (by first | rfl | simp only [bx_uu, va_up_eq])) gX1_becomeDerivative_X1_put rfl (by decide +kernel) ⟨Nat.le_of_ble_eq_true rfl, Nat.le_of_ble_eq_true rfl⟩ rfl (by omega) (zC_s (by omega)) rfl rfl hAm hP hS rfl hl.1 rfl (Nat.le_of_ble_eq_true rfl) dX1_becomeDerivative_36 ⟨Nat.zero_le _, Nat.zero_le _⟩ (zkn (fun H locs hP hS => ?_))
        refine W.eq (g2 := F0 m 39 ls []) rfl ?_
        refine lv_iinc (v := (nI k)) (lv' := [(2, .int (nI k)), (0, .ref (F i)), (1, .ref (F a))]) hx hb dX1_becomeDerivative_39 hl (k := 2) rfl (zinc (by omega)) (by decide) rfl (fun ls hl => ?_)
        refine lv_goto (tgt := 9) hx hb dX1_becomeDerivative_42 (by decide) ?_
        exact ih9 k _ (by omega) (by rw [← hf, show 2 * k + 2 = 2 * (k + 1) by omega, zl2k]; rfl) (by omega) H _ hP hS ls (lv_sub hl [1, 2, 0] rfl)
  exact L9 _ (top a) _ (by omega) rfl (Nat.lt_succ_self _) H _ hP hS ls (lv_sub hl [1, 2, 0] rfl)

set_option maxHeartbeats 4000000 in
set_option maxRecDepth 100000 in
theorem kX1_becomeAntiderivative (l : Launch) (D : va_G) (cL cI cR : ClassId) (A : Nat → Prop) (F : Nat → Nat) (hF : zq_F A F 30) (T : Nat → Nat → Int64) (top : Nat → Nat) (Z : zZC) (i : Nat) (hi : i < 12) (a : Nat) (ha : a < 12) (hai : ¬ a = i) (hna : top a ≤ 24) (f2 : Nat → Int64) (hf2 : f2 = zant (T a) (top a)) : zCt l yX1_becomeAntiderivative wsX1_becomeAntiderivative 2 52 D cL cI cR A F 30 (zCE cL cR F T top Z) [.ref (F i), .ref (F a)] (fun v2 E2 => v2 = none ∧ E2 = (zCE cL cR F (va_up T i f2) (va_up top i (ztop f2 48)) Z)) := by
  refine zStart (cc := cX1_becomeAntiderivative) (maxL := 9) (ret := none) (by decide +kernel) rfl (Nat.le_of_ble_eq_true rfl) ?_
  intro p e s m below meth c hx hb hr hml hlk hown hts hAm H hP hS ls hl
  have hown : s.vm.findClass RX1 = some m.cls := hown
  have hl : lv_has ls 9 [(0, .ref (F i)), (1, .ref (F a))] := hl
  have hinX1 : ∀ w ∈ u_ws RX1 TX1 2, w ∈ wsX1_becomeAntiderivative := by decide +kernel
  refine lv_aload_n hx hb dX1_becomeAntiderivative_0 rfl (lv_at hl 0 rfl) ?_
  refine zcallV (As := []) (rest := []) (q := i) (k := 0) hx hb hml hown hts (kX1_clear l D cL cI cR A F hF T top Z i (by omega)) gX1_becomeAntiderivative_X1_clear rfl (by decide +kernel) ⟨Nat.le_of_ble_eq_true rfl, Nat.le_of_ble_eq_true rfl⟩ rfl (by omega) (zC_s (by omega)) rfl rfl hAm hP hS rfl hl.1 rfl (Nat.le_of_ble_eq_true rfl) dX1_becomeAntiderivative_1 ⟨Nat.zero_le _, Nat.zero_le _⟩ (zkn (fun H locs hP hS => ?_))
  refine W.eq (g2 := F0 m 4 ls []) rfl ?_
  refine lv_lconst (v := (0 : Int64)) hx hb dX1_becomeAntiderivative_4 (by decide +kernel) ?_
  refine lv_lstore_n (lv' := [(2, .long (0 : Int64)), (0, .ref (F i)), (1, .ref (F a))]) hx hb dX1_becomeAntiderivative_5 rfl hl (by decide) rfl (fun ls hl => ?_)
  refine lv_iconst (v := nI 1) hx hb dX1_becomeAntiderivative_6 (by decide +kernel) ?_
  refine lv_istore (lv' := [(4, .int (nI 1)), (2, .long (0 : Int64)), (0, .ref (F i)), (1, .ref (F a))]) hx hb dX1_becomeAntiderivative_7 hl (by decide) rfl (fun ls hl => ?_)
  have L9 : ∀ (n : Nat) (m1 : Nat) (f : Nat → Int64) (u : Int64) (hm1 : m1 ≤ top a + 1) (hf : ∀ j, j < 49 → f j = if 1 ≤ j ∧ j ≤ m1 then ztm (T a) j else 0) (hu : u = zsgn (T a) m1) (hn : top a + 1 - m1 < n) (H : Heap) (locs : List Loc), va_P D vwCl (zq_wd F 30 (zCE cL cR F (va_up T i f) (va_up top i 0) Z)) H → va_S A s.heap H locs → ∀ (ls : Array Slot), lv_has ls 9 [(0, .ref (F i)), (1, .ref (F a)), (2, .long u), (4, .int (nI (m1 + 1)))] → W p l e ({ frames := 2, cells := 0, slots := 0, locals := 52 }) s m ([.ref (F i), .ref (F a)] : List Value).toArray below meth c H locs 0 0 (zQ below D A F 30 [.ref (F i), .ref (F a)] s (fun v2 E2 => v2 = none ∧ E2 = (zCE cL cR F (va_up T i f2) (va_up top i (ztop f2 48)) Z))) (F0 m 9 ls []) := by
    intro n
    induction n with
    | zero =>
      intro m1 f u hm1 hf hu hn
      exact absurd hn (Nat.not_lt_zero _)
    | succ n ih9 =>
      intro m1 f u hm1 hf hu hn H locs hP hS ls hl
      refine lv_iload hx hb dX1_becomeAntiderivative_9 (lv_at hl 3 rfl) ?_
      refine lv_aload_n hx hb dX1_becomeAntiderivative_11 rfl (lv_at hl 1 rfl) ?_
      refine zget (q := a) (k := 1) (v := .int (nI (top a))) hx hb hts hinX1 hown hAm hP (by omega) (zC_s (by omega)) rfl (by decide) (hts (.fieldLink RX1 15 "CosineSeries$Series" "top" "I") (by decide +kernel)) (by first | rfl | simp [va_up, *]) dX1_becomeAntiderivative_12 ?_
      refine lv_iconst (v := nI 1) hx hb dX1_becomeAntiderivative_15 (by decide +kernel) ?_
      refine ziadd (d := ((top a) + 1)) hx hb (by omega) dX1_becomeAntiderivative_16 ?_
      refine zi_gt (tgt := 103) hx hb dX1_becomeAntiderivative_17 (by decide) (by omega) (by omega) (fun c1 => ?_) (fun c1 => ?_)
      ·
        have hmt : m1 = top a + 1 := by omega
        refine lv_aload_n hx hb dX1_becomeAntiderivative_103 rfl (lv_at hl 0 rfl) ?_
        refine lv_iconst (v := nI 0) hx hb dX1_becomeAntiderivative_104 (by decide +kernel) ?_
        refine lv_lload_n hx hb dX1_becomeAntiderivative_105 rfl (lv_at hl 2 rfl) ?_
        refine lv_lneg hx hb dX1_becomeAntiderivative_106 ?_
        refine zcallV (As := [.int (nI 0), .long (-u)]) (rest := []) (q := i) (k := 2) hx hb hml hown hts (kX1_put l D cL cI cR A F hF (va_up T i f) (va_up top i 0) Z i (by omega) 0 (by omega) (-u) (va_up T i (vp_updL f 0 (-u))) (by first | rfl | simp only [bx_uu, va_up_eq])) gX1_becomeAntiderivative_X1_put rfl (by decide +kernel) ⟨Nat.le_of_ble_eq_true rfl, Nat.le_of_ble_eq_true rfl⟩ rfl (by omega) (zC_s (by omega)) rfl rfl hAm hP hS rfl hl.1 rfl (Nat.le_of_ble_eq_true rfl) dX1_becomeAntiderivative_107 ⟨Nat.zero_le _, Nat.zero_le _⟩ (zkn (fun H locs hP hS => ?_))
        refine W.eq (g2 := F0 m 110 ls []) rfl ?_
        have hP : va_P D vwCl (zq_wd F 30 (zCE cL cR F (va_up T i f2) (va_up top i 0) Z)) H := zC_extT hP (zupx (fun j hj => by rw [hf2]; unfold vp_updL zant; by_cases h0 : j = 0; (rw [if_pos h0, if_pos h0, hu, hmt]); (rw [if_neg h0, if_neg h0, hf j hj, hmt]; by_cases h : j ≤ top a + 1; (rw [if_pos (by omega), if_pos h]); (rw [if_neg (by omega), if_neg h]))))
        refine lv_aload_n hx hb dX1_becomeAntiderivative_110 rfl (lv_at hl 0 rfl) ?_
        refine zcallV (As := []) (rest := []) (q := i) (k := 0) hx hb hml hown hts (kX1_trim l D cL cI cR A F hF (va_up T i f2) (va_up top i 0) Z i (by omega) f2 (by first | rfl | simp [va_up, *]) (va_up top i (ztop f2 48)) (by first | rfl | simp only [bx_uu])) gX1_becomeAntiderivative_X1_trim rfl (by decide +kernel) ⟨Nat.le_of_ble_eq_true rfl, Nat.le_of_ble_eq_true rfl⟩ rfl (by omega) (zC_s (by omega)) rfl rfl hAm hP hS rfl hl.1 rfl (Nat.le_of_ble_eq_true rfl) dX1_becomeAntiderivative_111 ⟨Nat.zero_le _, Nat.zero_le _⟩ (zkn (fun H locs hP hS => ?_))
        refine W.eq (g2 := F0 m 114 ls []) rfl ?_
        exact zretV hx hb hr hlk hS hP dX1_becomeAntiderivative_114 ⟨rfl, rfl⟩
      ·
        refine lv_iload hx hb dX1_becomeAntiderivative_20 (lv_at hl 3 rfl) ?_
        refine lv_iconst (v := nI 1) hx hb dX1_becomeAntiderivative_22 (by decide +kernel) ?_
        refine zi_ne (tgt := 38) hx hb dX1_becomeAntiderivative_23 (by decide) (by omega) (by omega) (fun c2 => ?_) (fun c2 => ?_)
        ·
          have hbe : T a m1 = (if m1 + 1 = 1 then 2 * T a 0 else T a (m1 + 1 - 1)) := by rw [if_neg (by omega)]; rfl
          refine lv_aload_n hx hb dX1_becomeAntiderivative_38 rfl (lv_at hl 1 rfl) ?_
          refine lv_iload hx hb dX1_becomeAntiderivative_39 (lv_at hl 3 rfl) ?_
          refine lv_iconst (v := nI 1) hx hb dX1_becomeAntiderivative_41 (by decide +kernel) ?_
          refine zisub (d := m1) hx hb (by omega) dX1_becomeAntiderivative_42 ?_
          refine zcallV (As := [.int (nI m1)]) (rest := []) (q := a) (k := 1) hx hb hml hown hts (kX1_at l D cL cI cR A F hF (va_up T i f) (va_up top i 0) Z a ha m1 (by omega) (T a m1) (by simp [va_up, hai])) gX1_becomeAntiderivative_X1_at rfl (by decide +kernel) ⟨Nat.le_of_ble_eq_true rfl, Nat.le_of_ble_eq_true rfl⟩ rfl (by omega) (zC_s (by omega)) rfl rfl hAm hP hS rfl hl.1 rfl (Nat.le_of_ble_eq_true rfl) dX1_becomeAntiderivative_43 ⟨Nat.zero_le _, Nat.zero_le _⟩ (zkn (fun H locs hP hS => ?_))
          refine W.eq (g2 := F0 m 46 ls [.long (T a m1)]) rfl ?_
          refine W.eq (g2 := F0 m 46 ls [.long (if m1 + 1 = 1 then 2 * T a 0 else T a (m1 + 1 - 1))]) (by rw [← hbe]) ?_
          refine lv_lstore (lv' := [(5, .long (if m1 + 1 = 1 then 2 * T a 0 else T a (m1 + 1 - 1))), (0, .ref (F i)), (1, .ref (F a)), (2, .long u), (4, .int (nI (m1 + 1)))]) hx hb dX1_becomeAntiderivative_46 hl (by decide) rfl (fun ls hl => ?_)
          refine lv_lload hx hb dX1_becomeAntiderivative_48 (lv_at hl 0 rfl) ?_
          refine lv_aload_n hx hb dX1_becomeAntiderivative_50 rfl (lv_at hl 2 rfl) ?_
          refine lv_iload hx hb dX1_becomeAntiderivative_51 (lv_at hl 4 rfl) ?_
          refine lv_iconst (v := nI 1) hx hb dX1_becomeAntiderivative_53 (by decide +kernel) ?_
          refine ziadd (d := (m1 + 2)) hx hb (by omega) dX1_becomeAntiderivative_54 ?_
          refine zcallV (As := [.int (nI (m1 + 2))]) (rest := [.long (if m1 + 1 = 1 then 2 * T a 0 else T a (m1 + 1 - 1))]) (q := a) (k := 1) hx hb hml hown hts (kX1_at l D cL cI cR A F hF (va_up T i f) (va_up top i 0) Z a ha (m1 + 2) (by omega) (T a (m1 + 1 + 1)) (by simp [va_up, hai])) gX1_becomeAntiderivative_X1_at rfl (by decide +kernel) ⟨Nat.le_of_ble_eq_true rfl, Nat.le_of_ble_eq_true rfl⟩ rfl (by omega) (zC_s (by omega)) rfl rfl hAm hP hS rfl hl.1 rfl (Nat.le_of_ble_eq_true rfl) dX1_becomeAntiderivative_55 ⟨Nat.zero_le _, Nat.zero_le _⟩ (zkn (fun H locs hP hS => ?_))
          refine W.eq (g2 := F0 m 58 ls [.long (T a (m1 + 1 + 1)), .long (if m1 + 1 = 1 then 2 * T a 0 else T a (m1 + 1 - 1))]) rfl ?_
          refine lv_lsub hx hb dX1_becomeAntiderivative_58 ?_
          refine lv_ldc2 hx hb hown (hts (.constantLong RX1 41 (2)) (by decide +kernel)) dX1_becomeAntiderivative_59 ?_
          refine lv_iload hx hb dX1_becomeAntiderivative_62 (lv_at hl 4 rfl) ?_
          refine zi2l hx hb (by omega) dX1_becomeAntiderivative_64 ?_
          refine lv_lmul hx hb dX1_becomeAntiderivative_65 ?_
          obtain ⟨z0, hz0⟩ : ∃ z0 : Int64, z0 = ztm (T a) (m1 + 1) := ⟨_, rfl⟩
          have htm := hz0
          refine zcallN (As := [.long ((if m1 + 1 = 1 then 2 * T a 0 else T a (m1 + 1 - 1)) - (T a (m1 + 1 + 1))), .long ((2 : Int64) * (lN (m1 + 1)))]) (rest := []) (k := 2) hx hb hml hown hts (kX2_rounded l D cL cI cR A F 30 (zCE cL cR F (va_up T i f) (va_up top i 0) Z) ((if m1 + 1 = 1 then 2 * T a 0 else T a (m1 + 1 - 1)) - T a (m1 + 1 + 1)) (2 * lN (m1 + 1)) (zl2pos (by omega) (by omega))) gX1_becomeAntiderivative_X2_rounded_n45 rfl hAm.2.1 (hts (.initialized RX2) (by decide +kernel)) (hts (.static yX2_rounded) (by decide +kernel)) (by decide +kernel) ⟨Nat.le_of_ble_eq_true rfl, Nat.le_of_ble_eq_true rfl⟩ hAm hP hS rfl hl.1 rfl (Nat.le_of_ble_eq_true rfl) dX1_becomeAntiderivative_66 ⟨Nat.zero_le _, Nat.zero_le _⟩ (zkn (fun H locs hP hS => ?_))
          refine W.eq (g2 := F0 m 69 ls [.long (ztm (T a) (m1 + 1))]) rfl ?_
          refine lv_lstore (lv' := [(7, .long (ztm (T a) (m1 + 1))), (5, .long (if m1 + 1 = 1 then 2 * T a 0 else T a (m1 + 1 - 1))), (0, .ref (F i)), (1, .ref (F a)), (2, .long u), (4, .int (nI (m1 + 1)))]) hx hb dX1_becomeAntiderivative_69 hl (by decide) rfl (fun ls hl => ?_)
          have hl : lv_has ls 9 [(7, .long z0), (5, .long (if m1 + 1 = 1 then 2 * T a 0 else T a (m1 + 1 - 1))), (0, .ref (F i)), (1, .ref (F a)), (2, .long u), (4, .int (nI (m1 + 1)))] := by rw [hz0]; exact hl
          refine lv_aload_n hx hb dX1_becomeAntiderivative_71 rfl (lv_at hl 2 rfl) ?_
          refine lv_iload hx hb dX1_becomeAntiderivative_72 (lv_at hl 5 rfl) ?_
          refine lv_lload hx hb dX1_becomeAntiderivative_74 (lv_at hl 0 rfl) ?_
          refine zcallV (As := [.int (nI (m1 + 1)), .long z0]) (rest := []) (q := i) (k := 2) hx hb hml hown hts (kX1_put l D cL cI cR A F hF (va_up T i f) (va_up top i 0) Z i (by omega) (m1 + 1) (by omega) z0 (va_up T i (vp_updL f (m1 + 1) z0)) (by first | rfl | simp only [bx_uu, va_up_eq])) gX1_becomeAntiderivative_X1_put rfl (by decide +kernel) ⟨Nat.le_of_ble_eq_true rfl, Nat.le_of_ble_eq_true rfl⟩ rfl (by omega) (zC_s (by omega)) rfl rfl hAm hP hS rfl hl.1 rfl (Nat.le_of_ble_eq_true rfl) dX1_becomeAntiderivative_76 ⟨Nat.zero_le _, Nat.zero_le _⟩ (zkn (fun H locs hP hS => ?_))
          refine W.eq (g2 := F0 m 79 ls []) rfl ?_
          refine lv_lload_n hx hb dX1_becomeAntiderivative_79 rfl (lv_at hl 4 rfl) ?_
          refine lv_iload hx hb dX1_becomeAntiderivative_80 (lv_at hl 5 rfl) ?_
          refine lv_iconst (v := nI 2) hx hb dX1_becomeAntiderivative_82 (by decide +kernel) ?_
          refine lv_irem hx hb dX1_becomeAntiderivative_83 (znI_ne (by omega) (by omega)) ?_
          refine W.eq (g2 := F0 m 84 ls [.int (nI ((m1 + 1) % 2)), .long u]) (by rw [zrem2 (by omega)]) ?_
          refine zf_ne (tgt := 92) hx hb dX1_becomeAntiderivative_84 (by decide) (by omega) (fun c3 => ?_) (fun c3 => ?_)
          ·
            refine lv_lload hx hb dX1_becomeAntiderivative_92 (lv_at hl 0 rfl) ?_
            refine lv_lneg hx hb dX1_becomeAntiderivative_94 ?_
            refine lv_ladd hx hb dX1_becomeAntiderivative_95 ?_
            refine lv_lstore_n (lv' := [(2, .long (u + (-z0))), (7, .long z0), (5, .long (if m1 + 1 = 1 then 2 * T a 0 else T a (m1 + 1 - 1))), (0, .ref (F i)), (1, .ref (F a)), (4, .int (nI (m1 + 1)))]) hx hb dX1_becomeAntiderivative_96 rfl hl (by decide) rfl (fun ls hl => ?_)
            refine lv_iinc (v := (nI (m1 + 2))) (lv' := [(4, .int (nI (m1 + 2))), (2, .long (u + (-z0))), (7, .long z0), (5, .long (if m1 + 1 = 1 then 2 * T a 0 else T a (m1 + 1 - 1))), (0, .ref (F i)), (1, .ref (F a))]) hx hb dX1_becomeAntiderivative_97 hl (k := 5) rfl (zinc (by omega)) (by decide) rfl (fun ls hl => ?_)
            refine lv_goto (tgt := 9) hx hb dX1_becomeAntiderivative_100 (by decide) ?_
            exact ih9 (m1 + 1) _ (u + (-z0)) (by omega) (fun j hj => by unfold vp_updL; split; (rename_i h; rw [h, if_pos (by omega), ← htm]); (rw [hf j hj]; by_cases h : 1 ≤ j ∧ j ≤ m1; (rw [if_pos h, if_pos (by omega)]); (rw [if_neg h, if_neg (by omega)]))) (by simp only [zsgn]; rw [hu, ← htm]; first | rw [if_pos (by omega)] | rw [if_neg (by omega)]) (by omega) H _ hP hS ls (lv_sub hl [4, 5, 1, 0] rfl)
          ·
            refine lv_lload hx hb dX1_becomeAntiderivative_87 (lv_at hl 0 rfl) ?_
            refine lv_goto (tgt := 95) hx hb dX1_becomeAntiderivative_89 (by decide) ?_
            refine lv_ladd hx hb dX1_becomeAntiderivative_95 ?_
            refine lv_lstore_n (lv' := [(2, .long (u + z0)), (7, .long z0), (5, .long (if m1 + 1 = 1 then 2 * T a 0 else T a (m1 + 1 - 1))), (0, .ref (F i)), (1, .ref (F a)), (4, .int (nI (m1 + 1)))]) hx hb dX1_becomeAntiderivative_96 rfl hl (by decide) rfl (fun ls hl => ?_)
            refine lv_iinc (v := (nI (m1 + 2))) (lv' := [(4, .int (nI (m1 + 2))), (2, .long (u + z0)), (7, .long z0), (5, .long (if m1 + 1 = 1 then 2 * T a 0 else T a (m1 + 1 - 1))), (0, .ref (F i)), (1, .ref (F a))]) hx hb dX1_becomeAntiderivative_97 hl (k := 5) rfl (zinc (by omega)) (by decide) rfl (fun ls hl => ?_)
            refine lv_goto (tgt := 9) hx hb dX1_becomeAntiderivative_100 (by decide) ?_
            exact ih9 (m1 + 1) _ (u + z0) (by omega) (fun j hj => by unfold vp_updL; split; (rename_i h; rw [h, if_pos (by omega), ← htm]); (rw [hf j hj]; by_cases h : 1 ≤ j ∧ j ≤ m1; (rw [if_pos h, if_pos (by omega)]); (rw [if_neg h, if_neg (by omega)]))) (by simp only [zsgn]; rw [hu, ← htm]; first | rw [if_pos (by omega)] | rw [if_neg (by omega)]) (by omega) H _ hP hS ls (lv_sub hl [4, 5, 1, 0] rfl)
        ·
          have hbe : 2 * T a 0 = (if m1 + 1 = 1 then 2 * T a 0 else T a (m1 + 1 - 1)) := by rw [if_pos (by omega)]
          refine lv_ldc2 hx hb hown (hts (.constantLong RX1 41 (2)) (by decide +kernel)) dX1_becomeAntiderivative_26 ?_
          refine lv_aload_n hx hb dX1_becomeAntiderivative_29 rfl (lv_at hl 1 rfl) ?_
          refine lv_iconst (v := nI 0) hx hb dX1_becomeAntiderivative_30 (by decide +kernel) ?_
          refine zcallV (As := [.int (nI 0)]) (rest := [.long (2 : Int64)]) (q := a) (k := 1) hx hb hml hown hts (kX1_at l D cL cI cR A F hF (va_up T i f) (va_up top i 0) Z a ha 0 (by omega) (T a 0) (by simp [va_up, hai])) gX1_becomeAntiderivative_X1_at rfl (by decide +kernel) ⟨Nat.le_of_ble_eq_true rfl, Nat.le_of_ble_eq_true rfl⟩ rfl (by omega) (zC_s (by omega)) rfl rfl hAm hP hS rfl hl.1 rfl (Nat.le_of_ble_eq_true rfl) dX1_becomeAntiderivative_31 ⟨Nat.zero_le _, Nat.zero_le _⟩ (zkn (fun H locs hP hS => ?_))
          refine W.eq (g2 := F0 m 34 ls [.long (T a 0), .long (2 : Int64)]) rfl ?_
          refine lv_lmul hx hb dX1_becomeAntiderivative_34 ?_
          refine lv_goto (tgt := 46) hx hb dX1_becomeAntiderivative_35 (by decide) ?_
          refine W.eq (g2 := F0 m 46 ls [.long (if m1 + 1 = 1 then 2 * T a 0 else T a (m1 + 1 - 1))]) (by rw [← hbe]) ?_
          refine lv_lstore (lv' := [(5, .long (if m1 + 1 = 1 then 2 * T a 0 else T a (m1 + 1 - 1))), (0, .ref (F i)), (1, .ref (F a)), (2, .long u), (4, .int (nI (m1 + 1)))]) hx hb dX1_becomeAntiderivative_46 hl (by decide) rfl (fun ls hl => ?_)
          refine lv_lload hx hb dX1_becomeAntiderivative_48 (lv_at hl 0 rfl) ?_
          refine lv_aload_n hx hb dX1_becomeAntiderivative_50 rfl (lv_at hl 2 rfl) ?_
          refine lv_iload hx hb dX1_becomeAntiderivative_51 (lv_at hl 4 rfl) ?_
          refine lv_iconst (v := nI 1) hx hb dX1_becomeAntiderivative_53 (by decide +kernel) ?_
          refine ziadd (d := (m1 + 2)) hx hb (by omega) dX1_becomeAntiderivative_54 ?_
          refine zcallV (As := [.int (nI (m1 + 2))]) (rest := [.long (if m1 + 1 = 1 then 2 * T a 0 else T a (m1 + 1 - 1))]) (q := a) (k := 1) hx hb hml hown hts (kX1_at l D cL cI cR A F hF (va_up T i f) (va_up top i 0) Z a ha (m1 + 2) (by omega) (T a (m1 + 1 + 1)) (by simp [va_up, hai])) gX1_becomeAntiderivative_X1_at rfl (by decide +kernel) ⟨Nat.le_of_ble_eq_true rfl, Nat.le_of_ble_eq_true rfl⟩ rfl (by omega) (zC_s (by omega)) rfl rfl hAm hP hS rfl hl.1 rfl (Nat.le_of_ble_eq_true rfl) dX1_becomeAntiderivative_55 ⟨Nat.zero_le _, Nat.zero_le _⟩ (zkn (fun H locs hP hS => ?_))
          refine W.eq (g2 := F0 m 58 ls [.long (T a (m1 + 1 + 1)), .long (if m1 + 1 = 1 then 2 * T a 0 else T a (m1 + 1 - 1))]) rfl ?_
          refine lv_lsub hx hb dX1_becomeAntiderivative_58 ?_
          refine lv_ldc2 hx hb hown (hts (.constantLong RX1 41 (2)) (by decide +kernel)) dX1_becomeAntiderivative_59 ?_
          refine lv_iload hx hb dX1_becomeAntiderivative_62 (lv_at hl 4 rfl) ?_
          refine zi2l hx hb (by omega) dX1_becomeAntiderivative_64 ?_
          refine lv_lmul hx hb dX1_becomeAntiderivative_65 ?_
          obtain ⟨z0, hz0⟩ : ∃ z0 : Int64, z0 = ztm (T a) (m1 + 1) := ⟨_, rfl⟩
          have htm := hz0
          refine zcallN (As := [.long ((if m1 + 1 = 1 then 2 * T a 0 else T a (m1 + 1 - 1)) - (T a (m1 + 1 + 1))), .long ((2 : Int64) * (lN (m1 + 1)))]) (rest := []) (k := 2) hx hb hml hown hts (kX2_rounded l D cL cI cR A F 30 (zCE cL cR F (va_up T i f) (va_up top i 0) Z) ((if m1 + 1 = 1 then 2 * T a 0 else T a (m1 + 1 - 1)) - T a (m1 + 1 + 1)) (2 * lN (m1 + 1)) (zl2pos (by omega) (by omega))) gX1_becomeAntiderivative_X2_rounded_n45 rfl hAm.2.1 (hts (.initialized RX2) (by decide +kernel)) (hts (.static yX2_rounded) (by decide +kernel)) (by decide +kernel) ⟨Nat.le_of_ble_eq_true rfl, Nat.le_of_ble_eq_true rfl⟩ hAm hP hS rfl hl.1 rfl (Nat.le_of_ble_eq_true rfl) dX1_becomeAntiderivative_66 ⟨Nat.zero_le _, Nat.zero_le _⟩ (zkn (fun H locs hP hS => ?_))
          refine W.eq (g2 := F0 m 69 ls [.long (ztm (T a) (m1 + 1))]) rfl ?_
          refine lv_lstore (lv' := [(7, .long (ztm (T a) (m1 + 1))), (5, .long (if m1 + 1 = 1 then 2 * T a 0 else T a (m1 + 1 - 1))), (0, .ref (F i)), (1, .ref (F a)), (2, .long u), (4, .int (nI (m1 + 1)))]) hx hb dX1_becomeAntiderivative_69 hl (by decide) rfl (fun ls hl => ?_)
          have hl : lv_has ls 9 [(7, .long z0), (5, .long (if m1 + 1 = 1 then 2 * T a 0 else T a (m1 + 1 - 1))), (0, .ref (F i)), (1, .ref (F a)), (2, .long u), (4, .int (nI (m1 + 1)))] := by rw [hz0]; exact hl
          refine lv_aload_n hx hb dX1_becomeAntiderivative_71 rfl (lv_at hl 2 rfl) ?_
          refine lv_iload hx hb dX1_becomeAntiderivative_72 (lv_at hl 5 rfl) ?_
          refine lv_lload hx hb dX1_becomeAntiderivative_74 (lv_at hl 0 rfl) ?_
          refine zcallV (As := [.int (nI (m1 + 1)), .long z0]) (rest := []) (q := i) (k := 2) hx hb hml hown hts (kX1_put l D cL cI cR A F hF (va_up T i f) (va_up top i 0) Z i (by omega) (m1 + 1) (by omega) z0 (va_up T i (vp_updL f (m1 + 1) z0)) (by first | rfl | simp only [bx_uu, va_up_eq])) gX1_becomeAntiderivative_X1_put rfl (by decide +kernel) ⟨Nat.le_of_ble_eq_true rfl, Nat.le_of_ble_eq_true rfl⟩ rfl (by omega) (zC_s (by omega)) rfl rfl hAm hP hS rfl hl.1 rfl (Nat.le_of_ble_eq_true rfl) dX1_becomeAntiderivative_76 ⟨Nat.zero_le _, Nat.zero_le _⟩ (zkn (fun H locs hP hS => ?_))
          refine W.eq (g2 := F0 m 79 ls []) rfl ?_
          refine lv_lload_n hx hb dX1_becomeAntiderivative_79 rfl (lv_at hl 4 rfl) ?_
          refine lv_iload hx hb dX1_becomeAntiderivative_80 (lv_at hl 5 rfl) ?_
          refine lv_iconst (v := nI 2) hx hb dX1_becomeAntiderivative_82 (by decide +kernel) ?_
          refine lv_irem hx hb dX1_becomeAntiderivative_83 (znI_ne (by omega) (by omega)) ?_
          refine W.eq (g2 := F0 m 84 ls [.int (nI ((m1 + 1) % 2)), .long u]) (by rw [zrem2 (by omega)]) ?_
          refine zf_ne (tgt := 92) hx hb dX1_becomeAntiderivative_84 (by decide) (by omega) (fun c4 => ?_) (fun c4 => ?_)
          ·
            refine lv_lload hx hb dX1_becomeAntiderivative_92 (lv_at hl 0 rfl) ?_
            refine lv_lneg hx hb dX1_becomeAntiderivative_94 ?_
            refine lv_ladd hx hb dX1_becomeAntiderivative_95 ?_
            refine lv_lstore_n (lv' := [(2, .long (u + (-z0))), (7, .long z0), (5, .long (if m1 + 1 = 1 then 2 * T a 0 else T a (m1 + 1 - 1))), (0, .ref (F i)), (1, .ref (F a)), (4, .int (nI (m1 + 1)))]) hx hb dX1_becomeAntiderivative_96 rfl hl (by decide) rfl (fun ls hl => ?_)
            refine lv_iinc (v := (nI (m1 + 2))) (lv' := [(4, .int (nI (m1 + 2))), (2, .long (u + (-z0))), (7, .long z0), (5, .long (if m1 + 1 = 1 then 2 * T a 0 else T a (m1 + 1 - 1))), (0, .ref (F i)), (1, .ref (F a))]) hx hb dX1_becomeAntiderivative_97 hl (k := 5) rfl (zinc (by omega)) (by decide) rfl (fun ls hl => ?_)
            refine lv_goto (tgt := 9) hx hb dX1_becomeAntiderivative_100 (by decide) ?_
            exact ih9 (m1 + 1) _ (u + (-z0)) (by omega) (fun j hj => by unfold vp_updL; split; (rename_i h; rw [h, if_pos (by omega), ← htm]); (rw [hf j hj]; by_cases h : 1 ≤ j ∧ j ≤ m1; (rw [if_pos h, if_pos (by omega)]); (rw [if_neg h, if_neg (by omega)]))) (by simp only [zsgn]; rw [hu, ← htm]; first | rw [if_pos (by omega)] | rw [if_neg (by omega)]) (by omega) H _ hP hS ls (lv_sub hl [4, 5, 1, 0] rfl)
          ·
            refine lv_lload hx hb dX1_becomeAntiderivative_87 (lv_at hl 0 rfl) ?_
            refine lv_goto (tgt := 95) hx hb dX1_becomeAntiderivative_89 (by decide) ?_
            refine lv_ladd hx hb dX1_becomeAntiderivative_95 ?_
            refine lv_lstore_n (lv' := [(2, .long (u + z0)), (7, .long z0), (5, .long (if m1 + 1 = 1 then 2 * T a 0 else T a (m1 + 1 - 1))), (0, .ref (F i)), (1, .ref (F a)), (4, .int (nI (m1 + 1)))]) hx hb dX1_becomeAntiderivative_96 rfl hl (by decide) rfl (fun ls hl => ?_)
            refine lv_iinc (v := (nI (m1 + 2))) (lv' := [(4, .int (nI (m1 + 2))), (2, .long (u + z0)), (7, .long z0), (5, .long (if m1 + 1 = 1 then 2 * T a 0 else T a (m1 + 1 - 1))), (0, .ref (F i)), (1, .ref (F a))]) hx hb dX1_becomeAntiderivative_97 hl (k := 5) rfl (zinc (by omega)) (by decide) rfl (fun ls hl => ?_)
            refine lv_goto (tgt := 9) hx hb dX1_becomeAntiderivative_100 (by decide) ?_
            exact ih9 (m1 + 1) _ (u + z0) (by omega) (fun j hj => by unfold vp_updL; split; (rename_i h; rw [h, if_pos (by omega), ← htm]); (rw [hf j hj]; by_cases h : 1 ≤ j ∧ j ≤ m1; (rw [if_pos h, if_pos (by omega)]); (rw [if_neg h, if_neg (by omega)]))) (by simp only [zsgn]; rw [hu, ← htm]; first | rw [if_pos (by omega)] | rw [if_neg (by omega)]) (by omega) H _ hP hS ls (lv_sub hl [4, 5, 1, 0] rfl)
  exact L9 _ 0 _ 0 (by omega) (fun j _ => by rw [if_neg (by omega)]) rfl (Nat.lt_succ_self _) H _ hP hS ls (lv_sub hl [2, 3, 1, 0] rfl)

set_option maxHeartbeats 4000000 in
set_option maxRecDepth 100000 in
theorem kX1_becomeQuotient (l : Launch) (D : va_G) (cL cI cR : ClassId) (A : Nat → Prop) (F : Nat → Nat) (hF : zq_F A F 30) (T : Nat → Nat → Int64) (top : Nat → Nat) (Z : zZC) (i : Nat) (hi : i < 12) (a : Nat) (ha : a < 12) (hai : ¬ a = i) (hna : top a ≤ 24) (r0 : Int64) (f2 : Nat → Int64) (hf2 : f2 = zquo (T a) (top a) r0) : zCt l yX1_becomeQuotient wsX1_becomeQuotient 2 52 D cL cI cR A F 30 (zCE cL cR F T top Z) [.ref (F i), .ref (F a), .long r0] (fun v2 E2 => v2 = none ∧ E2 = (zCE cL cR F (va_up T i f2) (va_up top i (ztop f2 48)) Z)) := by
  refine zStart (cc := cX1_becomeQuotient) (maxL := 5) (ret := none) (by decide +kernel) rfl (Nat.le_of_ble_eq_true rfl) ?_
  intro p e s m below meth c hx hb hr hml hlk hown hts hAm H hP hS ls hl
  have hown : s.vm.findClass RX1 = some m.cls := hown
  have hl : lv_has ls 5 [(0, .ref (F i)), (1, .ref (F a)), (2, .long r0)] := hl
  have hinX1 : ∀ w ∈ u_ws RX1 TX1 2, w ∈ wsX1_becomeQuotient := by decide +kernel
  refine lv_aload_n hx hb dX1_becomeQuotient_0 rfl (lv_at hl 0 rfl) ?_
  refine zcallV (As := []) (rest := []) (q := i) (k := 0) hx hb hml hown hts (kX1_clear l D cL cI cR A F hF T top Z i (by omega)) gX1_becomeQuotient_X1_clear rfl (by decide +kernel) ⟨Nat.le_of_ble_eq_true rfl, Nat.le_of_ble_eq_true rfl⟩ rfl (by omega) (zC_s (by omega)) rfl rfl hAm hP hS rfl hl.1 rfl (Nat.le_of_ble_eq_true rfl) dX1_becomeQuotient_1 ⟨Nat.zero_le _, Nat.zero_le _⟩ (zkn (fun H locs hP hS => ?_))
  refine W.eq (g2 := F0 m 4 ls []) rfl ?_
  refine lv_aload_n hx hb dX1_becomeQuotient_4 rfl (lv_at hl 1 rfl) ?_
  refine zget (q := a) (k := 1) (v := .int (nI (top a))) hx hb hts hinX1 hown hAm hP (by omega) (zC_s (by omega)) rfl (by decide) (hts (.fieldLink RX1 15 "CosineSeries$Series" "top" "I") (by decide +kernel)) (by first | rfl | simp [va_up, *]) dX1_becomeQuotient_5 ?_
  refine lv_istore (lv' := [(4, .int (nI (top a))), (0, .ref (F i)), (1, .ref (F a)), (2, .long r0)]) hx hb dX1_becomeQuotient_8 hl (by decide) rfl (fun ls hl => ?_)
  have L10 : ∀ (n : Nat) (k : Nat) (f : Nat → Int64) (hk : k ≤ 24) (hf : zquoF (T a) r0 k f = zquoF (T a) r0 (top a) (fun _ => 0)) (hn : k < n) (H : Heap) (locs : List Loc), va_P D vwCl (zq_wd F 30 (zCE cL cR F (va_up T i f) (va_up top i 0) Z)) H → va_S A s.heap H locs → ∀ (ls : Array Slot), lv_has ls 5 [(0, .ref (F i)), (1, .ref (F a)), (2, .long r0), (4, .int (nI k))] → W p l e ({ frames := 2, cells := 0, slots := 0, locals := 52 }) s m ([.ref (F i), .ref (F a), .long r0] : List Value).toArray below meth c H locs 0 0 (zQ below D A F 30 [.ref (F i), .ref (F a), .long r0] s (fun v2 E2 => v2 = none ∧ E2 = (zCE cL cR F (va_up T i f2) (va_up top i (ztop f2 48)) Z))) (F0 m 10 ls []) := by
    intro n
    induction n with
    | zero =>
      intro k f hk hf hn
      exact absurd hn (Nat.not_lt_zero _)
    | succ n ih10 =>
      intro k f hk hf hn H locs hP hS ls hl
      refine lv_iload hx hb dX1_becomeQuotient_10 (lv_at hl 3 rfl) ?_
      refine lv_iconst (v := nI 2) hx hb dX1_becomeQuotient_12 (by decide +kernel) ?_
      refine zi_lt (tgt := 68) hx hb dX1_becomeQuotient_13 (by decide) (by omega) (by omega) (fun c1 => ?_) (fun c1 => ?_)
      ·
        have hf1 : zquoF (T a) r0 k f = f := by
          have h2 : k = 0 ∨ k = 1 := by omega
          rcases h2 with h2 | h2 <;> rw [h2] <;> rfl
        rw [hf1] at hf
        refine lv_aload_n hx hb dX1_becomeQuotient_68 rfl (lv_at hl 0 rfl) ?_
        refine lv_iconst (v := nI 0) hx hb dX1_becomeQuotient_69 (by decide +kernel) ?_
        refine lv_aload_n hx hb dX1_becomeQuotient_70 rfl (lv_at hl 1 rfl) ?_
        refine lv_iconst (v := nI 1) hx hb dX1_becomeQuotient_71 (by decide +kernel) ?_
        refine zcallV (As := [.int (nI 1)]) (rest := [.int (nI 0), .ref (F i)]) (q := a) (k := 1) hx hb hml hown hts (kX1_at l D cL cI cR A F hF (va_up T i f) (va_up top i 0) Z a ha 1 (by omega) (T a 1) (by simp [va_up, hai])) gX1_becomeQuotient_X1_at rfl (by decide +kernel) ⟨Nat.le_of_ble_eq_true rfl, Nat.le_of_ble_eq_true rfl⟩ rfl (by omega) (zC_s (by omega)) rfl rfl hAm hP hS rfl hl.1 rfl (Nat.le_of_ble_eq_true rfl) dX1_becomeQuotient_72 ⟨Nat.zero_le _, Nat.zero_le _⟩ (zkn (fun H locs hP hS => ?_))
        refine W.eq (g2 := F0 m 75 ls [.long (T a 1), .int (nI 0), .ref (F i)]) rfl ?_
        refine lv_lload_n hx hb dX1_becomeQuotient_75 rfl (lv_at hl 2 rfl) ?_
        refine lv_aload_n hx hb dX1_becomeQuotient_76 rfl (lv_at hl 0 rfl) ?_
        refine lv_iconst (v := nI 1) hx hb dX1_becomeQuotient_77 (by decide +kernel) ?_
        refine zcallV (As := [.int (nI 1)]) (rest := [.long r0, .long (T a 1), .int (nI 0), .ref (F i)]) (q := i) (k := 1) hx hb hml hown hts (kX1_at l D cL cI cR A F hF (va_up T i f) (va_up top i 0) Z i (by omega) 1 (by omega) (f 1) (by first | rfl | simp [va_up, *])) gX1_becomeQuotient_X1_at rfl (by decide +kernel) ⟨Nat.le_of_ble_eq_true rfl, Nat.le_of_ble_eq_true rfl⟩ rfl (by omega) (zC_s (by omega)) rfl rfl hAm hP hS rfl hl.1 rfl (Nat.le_of_ble_eq_true rfl) dX1_becomeQuotient_78 ⟨Nat.zero_le _, Nat.zero_le _⟩ (zkn (fun H locs hP hS => ?_))
        refine W.eq (g2 := F0 m 81 ls [.long (f 1), .long r0, .long (T a 1), .int (nI 0), .ref (F i)]) rfl ?_
        refine lv_lmul hx hb dX1_becomeQuotient_81 ?_
        refine lv_ldc2 hx hb hown (hts (.constantLong RX1 43 (1048576)) (by decide +kernel)) dX1_becomeQuotient_82 ?_
        refine zcallN (As := [.long (r0 * (f 1)), .long (1048576 : Int64)]) (rest := [.long (T a 1), .int (nI 0), .ref (F i)]) (k := 2) hx hb hml hown hts (kX2_rounded l D cL cI cR A F 30 (zCE cL cR F (va_up T i f) (va_up top i 0) Z) (r0 * (f 1)) (1048576 : Int64) (by decide)) gX1_becomeQuotient_X2_rounded_n45 rfl hAm.2.1 (hts (.initialized RX2) (by decide +kernel)) (hts (.static yX2_rounded) (by decide +kernel)) (by decide +kernel) ⟨Nat.le_of_ble_eq_true rfl, Nat.le_of_ble_eq_true rfl⟩ hAm hP hS rfl hl.1 rfl (Nat.le_of_ble_eq_true rfl) dX1_becomeQuotient_85 ⟨Nat.zero_le _, Nat.zero_le _⟩ (zkn (fun H locs hP hS => ?_))
        refine W.eq (g2 := F0 m 88 ls [.long (zR (r0 * (f 1)) (1048576 : Int64)), .long (T a 1), .int (nI 0), .ref (F i)]) rfl ?_
        refine lv_ladd hx hb dX1_becomeQuotient_88 ?_
        refine lv_aload_n hx hb dX1_becomeQuotient_89 rfl (lv_at hl 0 rfl) ?_
        refine lv_iconst (v := nI 2) hx hb dX1_becomeQuotient_90 (by decide +kernel) ?_
        refine zcallV (As := [.int (nI 2)]) (rest := [.long ((T a 1) + (zR (r0 * (f 1)) (1048576 : Int64))), .int (nI 0), .ref (F i)]) (q := i) (k := 1) hx hb hml hown hts (kX1_at l D cL cI cR A F hF (va_up T i f) (va_up top i 0) Z i (by omega) 2 (by omega) (f 2) (by first | rfl | simp [va_up, *])) gX1_becomeQuotient_X1_at rfl (by decide +kernel) ⟨Nat.le_of_ble_eq_true rfl, Nat.le_of_ble_eq_true rfl⟩ rfl (by omega) (zC_s (by omega)) rfl rfl hAm hP hS rfl hl.1 rfl (Nat.le_of_ble_eq_true rfl) dX1_becomeQuotient_91 ⟨Nat.zero_le _, Nat.zero_le _⟩ (zkn (fun H locs hP hS => ?_))
        refine W.eq (g2 := F0 m 94 ls [.long (f 2), .long ((T a 1) + (zR (r0 * (f 1)) (1048576 : Int64))), .int (nI 0), .ref (F i)]) rfl ?_
        refine lv_ldc2 hx hb hown (hts (.constantLong RX1 41 (2)) (by decide +kernel)) dX1_becomeQuotient_94 ?_
        refine zcallN (As := [.long (f 2), .long (2 : Int64)]) (rest := [.long ((T a 1) + (zR (r0 * (f 1)) (1048576 : Int64))), .int (nI 0), .ref (F i)]) (k := 2) hx hb hml hown hts (kX2_rounded l D cL cI cR A F 30 (zCE cL cR F (va_up T i f) (va_up top i 0) Z) (f 2) (2 : Int64) (by decide)) gX1_becomeQuotient_X2_rounded_n45 rfl hAm.2.1 (hts (.initialized RX2) (by decide +kernel)) (hts (.static yX2_rounded) (by decide +kernel)) (by decide +kernel) ⟨Nat.le_of_ble_eq_true rfl, Nat.le_of_ble_eq_true rfl⟩ hAm hP hS rfl hl.1 rfl (Nat.le_of_ble_eq_true rfl) dX1_becomeQuotient_97 ⟨Nat.zero_le _, Nat.zero_le _⟩ (zkn (fun H locs hP hS => ?_))
        refine W.eq (g2 := F0 m 100 ls [.long (zR (f 2) (2 : Int64)), .long ((T a 1) + (zR (r0 * (f 1)) (1048576 : Int64))), .int (nI 0), .ref (F i)]) rfl ?_
        refine lv_lsub hx hb dX1_becomeQuotient_100 ?_
        refine zcallV (As := [.int (nI 0), .long (((T a 1) + (zR (r0 * (f 1)) (1048576 : Int64))) - (zR (f 2) (2 : Int64)))]) (rest := []) (q := i) (k := 2) hx hb hml hown hts (kX1_put l D cL cI cR A F hF (va_up T i f) (va_up top i 0) Z i (by omega) 0 (by omega) (((T a 1) + (zR (r0 * (f 1)) (1048576 : Int64))) - (zR (f 2) (2 : Int64))) (va_up T i (vp_updL f 0 (((T a 1) + (zR (r0 * (f 1)) (1048576 : Int64))) - (zR (f 2) (2 : Int64))))) (by first | rfl | simp only [bx_uu, va_up_eq])) gX1_becomeQuotient_X1_put rfl (by decide +kernel) ⟨Nat.le_of_ble_eq_true rfl, Nat.le_of_ble_eq_true rfl⟩ rfl (by omega) (zC_s (by omega)) rfl rfl hAm hP hS rfl hl.1 rfl (Nat.le_of_ble_eq_true rfl) dX1_becomeQuotient_101 ⟨Nat.zero_le _, Nat.zero_le _⟩ (zkn (fun H locs hP hS => ?_))
        refine W.eq (g2 := F0 m 104 ls []) rfl ?_
        have hP : va_P D vwCl (zq_wd F 30 (zCE cL cR F (va_up T i f2) (va_up top i 0) Z)) H := by rw [hf2]; unfold zquo; rw [← hf]; exact hP
        refine lv_aload_n hx hb dX1_becomeQuotient_104 rfl (lv_at hl 0 rfl) ?_
        refine zcallV (As := []) (rest := []) (q := i) (k := 0) hx hb hml hown hts (kX1_trim l D cL cI cR A F hF (va_up T i f2) (va_up top i 0) Z i (by omega) f2 (by first | rfl | simp [va_up, *]) (va_up top i (ztop f2 48)) (by first | rfl | simp only [bx_uu])) gX1_becomeQuotient_X1_trim rfl (by decide +kernel) ⟨Nat.le_of_ble_eq_true rfl, Nat.le_of_ble_eq_true rfl⟩ rfl (by omega) (zC_s (by omega)) rfl rfl hAm hP hS rfl hl.1 rfl (Nat.le_of_ble_eq_true rfl) dX1_becomeQuotient_105 ⟨Nat.zero_le _, Nat.zero_le _⟩ (zkn (fun H locs hP hS => ?_))
        refine W.eq (g2 := F0 m 108 ls []) rfl ?_
        exact zretV hx hb hr hlk hS hP dX1_becomeQuotient_108 ⟨rfl, rfl⟩
      ·
        obtain ⟨k, rfl⟩ : ∃ j, k = j + 2 := ⟨k - 2, by omega⟩
        have hl : lv_has ls 5 [(0, .ref (F i)), (1, .ref (F a)), (2, .long r0), (4, .int (nI (k + 2)))] := by exact hl
        refine lv_aload_n hx hb dX1_becomeQuotient_16 rfl (lv_at hl 0 rfl) ?_
        refine lv_iload hx hb dX1_becomeQuotient_17 (lv_at hl 3 rfl) ?_
        refine lv_iconst (v := nI 1) hx hb dX1_becomeQuotient_19 (by decide +kernel) ?_
        refine zisub (d := (k + 1)) hx hb (by omega) dX1_becomeQuotient_20 ?_
        refine lv_ldc2 hx hb hown (hts (.constantLong RX1 41 (2)) (by decide +kernel)) dX1_becomeQuotient_21 ?_
        refine lv_aload_n hx hb dX1_becomeQuotient_24 rfl (lv_at hl 1 rfl) ?_
        refine lv_iload hx hb dX1_becomeQuotient_25 (lv_at hl 3 rfl) ?_
        refine zcallV (As := [.int (nI (k + 2))]) (rest := [.long (2 : Int64), .int (nI (k + 1)), .ref (F i)]) (q := a) (k := 1) hx hb hml hown hts (kX1_at l D cL cI cR A F hF (va_up T i f) (va_up top i 0) Z a ha (k + 2) (by omega) (T a (k + 2)) (by simp [va_up, hai])) gX1_becomeQuotient_X1_at rfl (by decide +kernel) ⟨Nat.le_of_ble_eq_true rfl, Nat.le_of_ble_eq_true rfl⟩ rfl (by omega) (zC_s (by omega)) rfl rfl hAm hP hS rfl hl.1 rfl (Nat.le_of_ble_eq_true rfl) dX1_becomeQuotient_27 ⟨Nat.zero_le _, Nat.zero_le _⟩ (zkn (fun H locs hP hS => ?_))
        refine W.eq (g2 := F0 m 30 ls [.long (T a (k + 2)), .long (2 : Int64), .int (nI (k + 1)), .ref (F i)]) rfl ?_
        refine lv_lmul hx hb dX1_becomeQuotient_30 ?_
        refine lv_ldc2 hx hb hown (hts (.constantLong RX1 41 (2)) (by decide +kernel)) dX1_becomeQuotient_31 ?_
        refine lv_lload_n hx hb dX1_becomeQuotient_34 rfl (lv_at hl 2 rfl) ?_
        refine lv_lmul hx hb dX1_becomeQuotient_35 ?_
        refine lv_aload_n hx hb dX1_becomeQuotient_36 rfl (lv_at hl 0 rfl) ?_
        refine lv_iload hx hb dX1_becomeQuotient_37 (lv_at hl 3 rfl) ?_
        refine zcallV (As := [.int (nI (k + 2))]) (rest := [.long ((2 : Int64) * r0), .long ((2 : Int64) * (T a (k + 2))), .int (nI (k + 1)), .ref (F i)]) (q := i) (k := 1) hx hb hml hown hts (kX1_at l D cL cI cR A F hF (va_up T i f) (va_up top i 0) Z i (by omega) (k + 2) (by omega) (f (k + 2)) (by first | rfl | simp [va_up, *])) gX1_becomeQuotient_X1_at rfl (by decide +kernel) ⟨Nat.le_of_ble_eq_true rfl, Nat.le_of_ble_eq_true rfl⟩ rfl (by omega) (zC_s (by omega)) rfl rfl hAm hP hS rfl hl.1 rfl (Nat.le_of_ble_eq_true rfl) dX1_becomeQuotient_39 ⟨Nat.zero_le _, Nat.zero_le _⟩ (zkn (fun H locs hP hS => ?_))
        refine W.eq (g2 := F0 m 42 ls [.long (f (k + 2)), .long ((2 : Int64) * r0), .long ((2 : Int64) * (T a (k + 2))), .int (nI (k + 1)), .ref (F i)]) rfl ?_
        refine lv_lmul hx hb dX1_becomeQuotient_42 ?_
        refine lv_ldc2 hx hb hown (hts (.constantLong RX1 43 (1048576)) (by decide +kernel)) dX1_becomeQuotient_43 ?_
        refine zcallN (As := [.long (((2 : Int64) * r0) * (f (k + 2))), .long (1048576 : Int64)]) (rest := [.long ((2 : Int64) * (T a (k + 2))), .int (nI (k + 1)), .ref (F i)]) (k := 2) hx hb hml hown hts (kX2_rounded l D cL cI cR A F 30 (zCE cL cR F (va_up T i f) (va_up top i 0) Z) (((2 : Int64) * r0) * (f (k + 2))) (1048576 : Int64) (by decide)) gX1_becomeQuotient_X2_rounded_n45 rfl hAm.2.1 (hts (.initialized RX2) (by decide +kernel)) (hts (.static yX2_rounded) (by decide +kernel)) (by decide +kernel) ⟨Nat.le_of_ble_eq_true rfl, Nat.le_of_ble_eq_true rfl⟩ hAm hP hS rfl hl.1 rfl (Nat.le_of_ble_eq_true rfl) dX1_becomeQuotient_46 ⟨Nat.zero_le _, Nat.zero_le _⟩ (zkn (fun H locs hP hS => ?_))
        refine W.eq (g2 := F0 m 49 ls [.long (zR (((2 : Int64) * r0) * (f (k + 2))) (1048576 : Int64)), .long ((2 : Int64) * (T a (k + 2))), .int (nI (k + 1)), .ref (F i)]) rfl ?_
        refine lv_ladd hx hb dX1_becomeQuotient_49 ?_
        refine lv_aload_n hx hb dX1_becomeQuotient_50 rfl (lv_at hl 0 rfl) ?_
        refine lv_iload hx hb dX1_becomeQuotient_51 (lv_at hl 3 rfl) ?_
        refine lv_iconst (v := nI 1) hx hb dX1_becomeQuotient_53 (by decide +kernel) ?_
        refine ziadd (d := (k + 3)) hx hb (by omega) dX1_becomeQuotient_54 ?_
        refine zcallV (As := [.int (nI (k + 3))]) (rest := [.long (((2 : Int64) * (T a (k + 2))) + (zR (((2 : Int64) * r0) * (f (k + 2))) (1048576 : Int64))), .int (nI (k + 1)), .ref (F i)]) (q := i) (k := 1) hx hb hml hown hts (kX1_at l D cL cI cR A F hF (va_up T i f) (va_up top i 0) Z i (by omega) (k + 3) (by omega) (f (k + 3)) (by first | rfl | simp [va_up, *])) gX1_becomeQuotient_X1_at rfl (by decide +kernel) ⟨Nat.le_of_ble_eq_true rfl, Nat.le_of_ble_eq_true rfl⟩ rfl (by omega) (zC_s (by omega)) rfl rfl hAm hP hS rfl hl.1 rfl (Nat.le_of_ble_eq_true rfl) dX1_becomeQuotient_55 ⟨Nat.zero_le _, Nat.zero_le _⟩ (zkn (fun H locs hP hS => ?_))
        refine W.eq (g2 := F0 m 58 ls [.long (f (k + 3)), .long (((2 : Int64) * (T a (k + 2))) + (zR (((2 : Int64) * r0) * (f (k + 2))) (1048576 : Int64))), .int (nI (k + 1)), .ref (F i)]) rfl ?_
        refine lv_lsub hx hb dX1_becomeQuotient_58 ?_
        refine zcallV (As := [.int (nI (k + 1)), .long ((((2 : Int64) * (T a (k + 2))) + (zR (((2 : Int64) * r0) * (f (k + 2))) (1048576 : Int64))) - (f (k + 3)))]) (rest := []) (q := i) (k := 2) hx hb hml hown hts (kX1_put l D cL cI cR A F hF (va_up T i f) (va_up top i 0) Z i (by omega) (k + 1) (by omega) ((((2 : Int64) * (T a (k + 2))) + (zR (((2 : Int64) * r0) * (f (k + 2))) (1048576 : Int64))) - (f (k + 3))) (va_up T i (vp_updL f (k + 1) ((((2 : Int64) * (T a (k + 2))) + (zR (((2 : Int64) * r0) * (f (k + 2))) (1048576 : Int64))) - (f (k + 3))))) (by first | rfl | simp only [bx_uu, va_up_eq])) gX1_becomeQuotient_X1_put rfl (by decide +kernel) ⟨Nat.le_of_ble_eq_true rfl, Nat.le_of_ble_eq_true rfl⟩ rfl (by omega) (zC_s (by omega)) rfl rfl hAm hP hS rfl hl.1 rfl (Nat.le_of_ble_eq_true rfl) dX1_becomeQuotient_59 ⟨Nat.zero_le _, Nat.zero_le _⟩ (zkn (fun H locs hP hS => ?_))
        refine W.eq (g2 := F0 m 62 ls []) rfl ?_
        refine lv_iinc (v := (nI (k + 1))) (lv' := [(4, .int (nI (k + 1))), (0, .ref (F i)), (1, .ref (F a)), (2, .long r0)]) hx hb dX1_becomeQuotient_62 hl (k := 3) rfl (zinc (by omega)) (by decide) rfl (fun ls hl => ?_)
        refine lv_goto (tgt := 10) hx hb dX1_becomeQuotient_65 (by decide) ?_
        exact ih10 (k + 1) _ (by omega) (by rw [← hf]; rfl) (by omega) H _ hP hS ls (lv_sub hl [1, 2, 3, 0] rfl)
  exact L10 _ (top a) _ (by omega) rfl (Nat.lt_succ_self _) H _ hP hS ls (lv_sub hl [1, 2, 3, 0] rfl)
end
section
/-! RootSearch -/
def zstp (c : Nat → Int64) : Nat → Int64
  | 0 => 0
  | m + 1 => zstp c m + lN ((m + 1) * (m + 1)) * zabs (c (m + 1))
/-- is the interval from a to b free of roots -/
def zfr (c : Nat → Int64) (n : Nat) (a b : Int64) : Bool := decide (zR (zstp c n * zmax (b - zfl (a + b) 2) (zfl (a + b) 2 - a)) 1048576 + 8 * lN (n + 1) < zabs (zval c n (zfl (a + b) 2)))
def znear (fs : List Int64) (a : Int64) : Bool := match fs with
  | [] => false
  | r :: _ => decide (a - 16 ≤ r)
/-- the search: the intervals still to be looked at, the roots (the latest first), how many were looked at -/
def zsea (fr : Int64 → Int64 → Bool) : Nat → List (Int64 × Int64) → List Int64 → Nat → List Int64 × Nat
  | 0, _, fs, lo => (fs, lo)
  | _ + 1, [], fs, lo => (fs, lo)
  | u + 1, (a, b) :: l, fs, lo =>
    if fs.length < 24 ∧ lo < 2000 then
      if fr a b = true then zsea fr u l fs (lo + 1)
      else if 16 < b - a then zsea fr u ((a, zfl (a + b) 2) :: (zfl (a + b) 2, b) :: l) fs (lo + 1)
      else if znear fs a = true then zsea fr u l fs (lo + 1) else zsea fr u l (zfl (a + b) 2 :: fs) (lo + 1)
    else (fs, lo)
def zroots (c : Nat → Int64) (n : Nat) : List Int64 × Nat := zsea (zfr c n) 2001 [(-1048576, 1048576)] [] 0
/-- the roots lie in a row -/
def zrts (rt : Nat → Int64) : List Int64 → Prop
  | [] => True
  | x :: l => rt l.length = x ∧ zrts rt l
theorem zrts_up {rt : Nat → Int64} {k : Nat} {x : Int64} : ∀ (l : List Int64), l.length ≤ k → zrts rt l → zrts (vp_updL rt k x) l := by
  intro l
  induction l with
  | nil => intro _ _; trivial
  | cons y l ih =>
    intro h1 h2
    rw [List.length_cons] at h1
    refine ⟨?_, ih (by omega) h2.2⟩
    unfold vp_updL
    rw [if_neg (by omega)]
    exact h2.1
/-- the class' way to hold the intervals: each begins where the one before it ends -/
def zadj (en : Nat → Int64) : Nat → Int64 → List (Int64 × Int64)
  | 0, _ => []
  | k + 1, a => (a, en k) :: zadj en k (en k)
theorem zadj_len (en : Nat → Int64) : ∀ (k : Nat) (a : Int64), (zadj en k a).length = k := by
  intro k
  induction k with
  | zero => intro a; rfl
  | succ k ih => intro a; unfold zadj; rw [List.length_cons, ih]
theorem zadj_up (en : Nat → Int64) (j : Nat) (x : Int64) : ∀ (k : Nat) (a : Int64), k ≤ j → zadj (vp_updL en j x) k a = zadj en k a := by
  intro k
  induction k with
  | zero => intro a _; rfl
  | succ k ih =>
    intro a h
    have e : vp_updL en j x k = en k := by unfold vp_updL; rw [if_neg (by omega)]
    unfold zadj
    rw [e, ih _ (by omega)]
/-- intervals within the whole, narrower the higher they lie -/
def zok : List (Int64 × Int64) → Prop
  | [] => True
  | (a, b) :: l => (-1048576 ≤ a.toInt ∧ a.toInt ≤ b.toInt ∧ b.toInt ≤ 1048576) ∧ b.toInt - a.toInt ≤ 2 ^ (21 - l.length) ∧ l.length ≤ 17 ∧ zok l
theorem zfl_int {v d : Int64} (hd : 0 < d) : (zfl v d).toInt = v.toInt / d.toInt := by
  have hd' : 0 < d.toInt := by
    rw [Int64.lt_iff_toInt_lt] at hd
    exact hd
  have hv1 := Int64.le_toInt v
  have hv2 := Int64.toInt_lt v
  have h := zint_tdiv v.toInt d.toInt hd'
  have e1 : (v / d).toInt = v.toInt.tdiv d.toInt := by
    rw [Int64.toInt_div]
    apply Int.bmod_eq_of_le <;> omega
  have e2 := zdiv_int (v := v) hd
  unfold zfl
  have hsg : d.toInt.sign = 1 := Int.sign_eq_one_of_pos hd'
  have e3 := Int.tdiv_eq_ediv (a := v.toInt) (b := d.toInt)
  by_cases hc : v < v / d * d
  · rw [if_pos hc]
    rw [Int64.lt_iff_toInt_lt, e2] at hc
    have hneg : v.toInt < 0 := by omega
    have hnd : ¬ (0 ≤ v.toInt ∨ d.toInt ∣ v.toInt) := by
      rintro (q | q)
      · omega
      · rw [Int.tdiv_mul_cancel q] at hc; omega
    rw [if_neg hnd, hsg] at e3
    rw [Int64.toInt_sub, e1]
    have h1 : (1 : Int64).toInt = 1 := rfl
    rw [h1, show v.toInt / d.toInt = v.toInt.tdiv d.toInt - 1 by omega]
    have hq : v.toInt.tdiv d.toInt ≤ 0 := (h.2 hneg).2.1
    have hq3 := (h.2 hneg).1
    have hq2 : v.toInt ≠ v.toInt.tdiv d.toInt ∨ v.toInt.tdiv d.toInt - 1 ≥ -9223372036854775808 := by
      rcases Int.lt_or_le (-9223372036854775808) (v.toInt.tdiv d.toInt) with q | q
      · exact Or.inr (by omega)
      · refine Or.inl (fun q2 => ?_)
        have hmin : v.toInt = -9223372036854775808 := by omega
        have hx : v.toInt.tdiv d.toInt * d.toInt ≤ v.toInt.tdiv d.toInt * 1 := Int.mul_le_mul_of_nonpos_left (by omega) (by omega)
        omega
    apply Int.bmod_eq_of_le
    · rcases hq2 with q | q
      · omega
      · omega
    · omega
  · rw [if_neg hc, e1]
    rw [Int64.lt_iff_toInt_lt, e2] at hc
    rw [e3, if_pos]
    · omega
    · rcases Int.lt_or_le v.toInt 0 with q | q
      · have := (h.2 q).2.2.1
        exact Or.inr ⟨v.toInt.tdiv d.toInt, by rw [Int.mul_comm]; omega⟩
      · exact Or.inl q
theorem zok_mid {a b : Int64} (h1 : -1048576 ≤ a.toInt) (h2 : a.toInt ≤ b.toInt) (h3 : b.toInt ≤ 1048576) : (zfl (a + b) 2).toInt = (a.toInt + b.toInt) / 2 ∧ (b - a).toInt = b.toInt - a.toInt := by
  have h4 : (2 : Int64).toInt = 2 := rfl
  rw [zfl_int (by decide), h4, Int64.toInt_add, Int64.toInt_sub]
  constructor
  · congr 1
    apply Int.bmod_eq_of_le <;> omega
  · apply Int.bmod_eq_of_le <;> omega
theorem zok_split {a b : Int64} {l : List (Int64 × Int64)} (h : zok ((a, b) :: l)) (hw : 16 < b - a) : zok ((a, zfl (a + b) 2) :: (zfl (a + b) 2, b) :: l) ∧ l.length < 17 := by
  obtain ⟨⟨h1, h2, h3⟩, h4, h5, h6⟩ := h
  obtain ⟨e1, e2⟩ := zok_mid h1 h2 h3
  rw [Int64.lt_iff_toInt_lt, e2] at hw
  have h16 : (16 : Int64).toInt = 16 := rfl
  rw [h16] at hw
  have hl : l.length < 17 := by
    rcases Nat.lt_or_ge l.length 17 with q | q
    · exact q
    · have : l.length = 17 := by omega
      rw [this] at h4
      have e : (2 : Int) ^ (21 - 17) = 16 := rfl
      rw [e] at h4
      omega
  have hp : (2 : Int) ^ (21 - l.length) = 2 ^ (21 - (l.length + 1)) * 2 := by
    rw [show 21 - l.length = 21 - (l.length + 1) + 1 by omega, Int.pow_succ]
  have hp2 : (0 : Int) < 2 ^ (21 - (l.length + 1)) := Int.pow_pos (by decide)
  refine ⟨⟨⟨h1, by omega, by omega⟩, ?_, ?_, ⟨⟨by omega, by omega, h3⟩, ?_, by omega, h6⟩⟩, hl⟩
  · rw [List.length_cons, e1]; omega
  · rw [List.length_cons]; omega
  · rw [e1, hp]; omega
theorem zok_0 : zok [(-1048576, 1048576)] := by
  refine ⟨⟨by decide, by decide, by decide⟩, by decide, by decide, trivial⟩
theorem zsq {m : Nat} (h : m ≤ 48) : (m + 1) * (m + 1) < 2147483648 := by
  have := Nat.mul_le_mul (show m + 1 ≤ 49 by omega) (show m + 1 ≤ 49 by omega)
  omega

set_option maxHeartbeats 4000000 in
set_option maxRecDepth 100000 in
theorem kX0_count (l : Launch) (D : va_G) (cL cI cR : ClassId) (A : Nat → Prop) (F : Nat → Nat) (hF : zq_F A F 30) (T : Nat → Nat → Int64) (top : Nat → Nat) (pv rt en : Nat → Int64) (w co lo : Nat) : zCt l yX0_count wsX0_count 0 0 D cL cI cR A F 30 (zCE cL cR F T top (pv, rt, en, w, co, lo)) [.ref (F 27)] (fun v2 E2 => v2 = (some (.int (nI co))) ∧ E2 = (zCE cL cR F T top (pv, rt, en, w, co, lo))) := by
  refine zStart (cc := cX0_count) (maxL := 1) (ret := (some .int)) (by decide +kernel) rfl (Nat.le_of_ble_eq_true rfl) ?_
  intro p e s m below meth c hx hb hr hml hlk hown hts hAm H hP hS ls hl
  have hown : s.vm.findClass RX0 = some m.cls := hown
  have hl : lv_has ls 1 [(0, .ref (F 27))] := hl
  have hinX0 : ∀ w ∈ u_ws RX0 TX0 5, w ∈ wsX0_count := by decide +kernel
  refine lv_aload_n hx hb dX0_count_0 rfl (lv_at hl 0 rfl) ?_
  refine zget (q := 27) (k := 3) (v := .int (nI co)) hx hb hts hinX0 hown hAm hP (by omega) (zC_se) rfl (by decide) (hts (.fieldLink RX0 18 "CosineSeries$RootSearch" "count" "I") (by decide +kernel)) (by first | rfl | simp [va_up, *]) dX0_count_1 ?_
  exact zretI hx hb hr hlk hS hP dX0_count_4 ⟨rfl, rfl⟩

set_option maxHeartbeats 4000000 in
set_option maxRecDepth 100000 in
theorem kX0_lookedAt (l : Launch) (D : va_G) (cL cI cR : ClassId) (A : Nat → Prop) (F : Nat → Nat) (hF : zq_F A F 30) (T : Nat → Nat → Int64) (top : Nat → Nat) (pv rt en : Nat → Int64) (w co lo : Nat) : zCt l yX0_lookedAt wsX0_lookedAt 0 0 D cL cI cR A F 30 (zCE cL cR F T top (pv, rt, en, w, co, lo)) [.ref (F 27)] (fun v2 E2 => v2 = (some (.int (nI lo))) ∧ E2 = (zCE cL cR F T top (pv, rt, en, w, co, lo))) := by
  refine zStart (cc := cX0_lookedAt) (maxL := 1) (ret := (some .int)) (by decide +kernel) rfl (Nat.le_of_ble_eq_true rfl) ?_
  intro p e s m below meth c hx hb hr hml hlk hown hts hAm H hP hS ls hl
  have hown : s.vm.findClass RX0 = some m.cls := hown
  have hl : lv_has ls 1 [(0, .ref (F 27))] := hl
  have hinX0 : ∀ w ∈ u_ws RX0 TX0 5, w ∈ wsX0_lookedAt := by decide +kernel
  refine lv_aload_n hx hb dX0_lookedAt_0 rfl (lv_at hl 0 rfl) ?_
  refine zget (q := 27) (k := 4) (v := .int (nI lo)) hx hb hts hinX0 hown hAm hP (by omega) (zC_se) rfl (by decide) (hts (.fieldLink RX0 22 "CosineSeries$RootSearch" "lookedAt" "I") (by decide +kernel)) (by first | rfl | simp [va_up, *]) dX0_lookedAt_1 ?_
  exact zretI hx hb hr hlk hS hP dX0_lookedAt_4 ⟨rfl, rfl⟩

set_option maxHeartbeats 4000000 in
set_option maxRecDepth 100000 in
theorem kX0_found (l : Launch) (D : va_G) (cL cI cR : ClassId) (A : Nat → Prop) (F : Nat → Nat) (hF : zq_F A F 30) (T : Nat → Nat → Int64) (top : Nat → Nat) (pv rt en : Nat → Int64) (w co lo : Nat) (j : Nat) (hj : j < 24) : zCt l yX0_found wsX0_found 0 0 D cL cI cR A F 30 (zCE cL cR F T top (pv, rt, en, w, co, lo)) [.ref (F 27), .int (nI j)] (fun v2 E2 => v2 = (some (.long (rt j))) ∧ E2 = (zCE cL cR F T top (pv, rt, en, w, co, lo))) := by
  refine zStart (cc := cX0_found) (maxL := 2) (ret := (some .long)) (by decide +kernel) rfl (Nat.le_of_ble_eq_true rfl) ?_
  intro p e s m below meth c hx hb hr hml hlk hown hts hAm H hP hS ls hl
  have hown : s.vm.findClass RX0 = some m.cls := hown
  have hl : lv_has ls 2 [(0, .ref (F 27)), (1, .int (nI j))] := hl
  have hinX0 : ∀ w ∈ u_ws RX0 TX0 5, w ∈ wsX0_found := by decide +kernel
  refine lv_iload_n hx hb dX0_found_0 rfl (lv_at hl 1 rfl) ?_
  refine zf_lt (tgt := 22) hx hb dX0_found_1 (by decide) (by omega) ?_
  refine lv_iload_n hx hb dX0_found_4 rfl (lv_at hl 1 rfl) ?_
  refine lv_aload_n hx hb dX0_found_5 rfl (lv_at hl 0 rfl) ?_
  refine zget (q := 27) (k := 0) (v := .ref (F 28)) hx hb hts hinX0 hown hAm hP (by omega) (zC_se) rfl (by decide) (hts (.fieldLink RX0 11 "CosineSeries$RootSearch" "roots" "[J") (by decide +kernel)) (by first | rfl | simp [va_up, *]) dX0_found_6 ?_
  refine zalen (N := 24) (q := 28) (t0 := 0) hx hb hAm hP (by omega) (zC_rt) rfl rfl dX0_found_9 ?_
  refine zi_ge (tgt := 22) hx hb dX0_found_10 (by decide) (by omega) (by omega) (fun c1 => ?_) (fun c1 => ?_)
  ·
    exfalso; omega
  ·
    refine lv_aload_n hx hb dX0_found_13 rfl (lv_at hl 0 rfl) ?_
    refine zget (q := 27) (k := 0) (v := .ref (F 28)) hx hb hts hinX0 hown hAm hP (by omega) (zC_se) rfl (by decide) (hts (.fieldLink RX0 11 "CosineSeries$RootSearch" "roots" "[J") (by decide +kernel)) (by first | rfl | simp [va_up, *]) dX0_found_14 ?_
    refine lv_iload_n hx hb dX0_found_17 rfl (lv_at hl 1 rfl) ?_
    refine zlald (q := 28) (k := j) (v := (rt j)) hx hb hAm hP (by omega) (zC_rt) (by omega) (by decide) (by first | rfl | simp [va_up, *]) dX0_found_18 ?_
    refine lv_goto (tgt := 23) hx hb dX0_found_19 (by decide) ?_
    exact zretL hx hb hr hlk hS hP dX0_found_23 ⟨rfl, rfl⟩

set_option maxHeartbeats 4000000 in
set_option maxRecDepth 100000 in
theorem kX0_push (l : Launch) (D : va_G) (cL cI cR : ClassId) (A : Nat → Prop) (F : Nat → Nat) (hF : zq_F A F 30) (T : Nat → Nat → Int64) (top : Nat → Nat) (pv rt en : Nat → Int64) (w co lo : Nat) (hw : w < 32) (x : Int64) : zCt l yX0_push wsX0_push 0 0 D cL cI cR A F 30 (zCE cL cR F T top (pv, rt, en, w, co, lo)) [.ref (F 27), .long x] (fun v2 E2 => v2 = none ∧ E2 = (zCE cL cR F T top (pv, rt, (vp_updL en w x), (w + 1), co, lo))) := by
  refine zStart (cc := cX0_push) (maxL := 3) (ret := none) (by decide +kernel) rfl (Nat.le_of_ble_eq_true rfl) ?_
  intro p e s m below meth c hx hb hr hml hlk hown hts hAm H hP hS ls hl
  have hown : s.vm.findClass RX0 = some m.cls := hown
  have hl : lv_has ls 3 [(0, .ref (F 27)), (1, .long x)] := hl
  have hinX0 : ∀ w ∈ u_ws RX0 TX0 5, w ∈ wsX0_push := by decide +kernel
  refine lv_aload_n hx hb dX0_push_0 rfl (lv_at hl 0 rfl) ?_
  refine zget (q := 27) (k := 2) (v := .int (nI w)) hx hb hts hinX0 hown hAm hP (by omega) (zC_se) rfl (by decide) (hts (.fieldLink RX0 29 "CosineSeries$RootSearch" "waiting" "I") (by decide +kernel)) (by first | rfl | simp [va_up, *]) dX0_push_1 ?_
  refine zf_lt (tgt := 39) hx hb dX0_push_4 (by decide) (by omega) ?_
  refine lv_aload_n hx hb dX0_push_7 rfl (lv_at hl 0 rfl) ?_
  refine zget (q := 27) (k := 2) (v := .int (nI w)) hx hb hts hinX0 hown hAm hP (by omega) (zC_se) rfl (by decide) (hts (.fieldLink RX0 29 "CosineSeries$RootSearch" "waiting" "I") (by decide +kernel)) (by first | rfl | simp [va_up, *]) dX0_push_8 ?_
  refine lv_aload_n hx hb dX0_push_11 rfl (lv_at hl 0 rfl) ?_
  refine zget (q := 27) (k := 1) (v := .ref (F 29)) hx hb hts hinX0 hown hAm hP (by omega) (zC_se) rfl (by decide) (hts (.fieldLink RX0 15 "CosineSeries$RootSearch" "ends" "[J") (by decide +kernel)) (by first | rfl | simp [va_up, *]) dX0_push_12 ?_
  refine zalen (N := 32) (q := 29) (t0 := 0) hx hb hAm hP (by omega) (zC_en) rfl rfl dX0_push_15 ?_
  refine zi_ge (tgt := 39) hx hb dX0_push_16 (by decide) (by omega) (by omega) (fun c1 => ?_) (fun c1 => ?_)
  ·
    exfalso; omega
  ·
    refine lv_aload_n hx hb dX0_push_19 rfl (lv_at hl 0 rfl) ?_
    refine zget (q := 27) (k := 1) (v := .ref (F 29)) hx hb hts hinX0 hown hAm hP (by omega) (zC_se) rfl (by decide) (hts (.fieldLink RX0 15 "CosineSeries$RootSearch" "ends" "[J") (by decide +kernel)) (by first | rfl | simp [va_up, *]) dX0_push_20 ?_
    refine lv_aload_n hx hb dX0_push_23 rfl (lv_at hl 0 rfl) ?_
    refine zget (q := 27) (k := 2) (v := .int (nI w)) hx hb hts hinX0 hown hAm hP (by omega) (zC_se) rfl (by decide) (hts (.fieldLink RX0 29 "CosineSeries$RootSearch" "waiting" "I") (by decide +kernel)) (by first | rfl | simp [va_up, *]) dX0_push_24 ?_
    refine lv_lload_n hx hb dX0_push_27 rfl (lv_at hl 1 rfl) ?_
    refine zlast (q := 29) (k := w) (E' := (zCE cL cR F T top (pv, rt, (vp_updL en w x), w, co, lo))) hx hb hAm hP hF hS (by omega) (zC_en) (by omega) (by decide) dX0_push_28 (zC_uen) (fun H locs hP hS => ?_)
    refine lv_aload_n hx hb dX0_push_29 rfl (lv_at hl 0 rfl) ?_
    refine lv_dup hx hb dX0_push_30 rfl ?_
    refine zget (q := 27) (k := 2) (v := .int (nI w)) hx hb hts hinX0 hown hAm hP (by omega) (zC_se) rfl (by decide) (hts (.fieldLink RX0 29 "CosineSeries$RootSearch" "waiting" "I") (by decide +kernel)) (by first | rfl | simp [va_up, *]) dX0_push_31 ?_
    refine lv_iconst (v := nI 1) hx hb dX0_push_34 (by decide +kernel) ?_
    refine ziadd (d := (w + 1)) hx hb (by omega) dX0_push_35 ?_
    refine zput (q := 27) (k := 2) (ty := .int) (E' := (zCE cL cR F T top (pv, rt, (vp_updL en w x), (w + 1), co, lo))) hx hb hts hinX0 tyX0 tyX0_ok nmX0 hown hAm hP hF hS (by omega) (zC_se) rfl (by decide) (hts (.fieldLink RX0 29 "CosineSeries$RootSearch" "waiting" "I") (by decide +kernel)) rfl rfl rfl rfl (Nat.le_of_ble_eq_true rfl) dX0_push_36 (zC_use) (fun H locs hP hS => ?_)
    exact zretV hx hb hr hlk hS hP dX0_push_39 ⟨rfl, rfl⟩

set_option maxHeartbeats 4000000 in
set_option maxRecDepth 100000 in
theorem kX0_nextEnd (l : Launch) (D : va_G) (cL cI cR : ClassId) (A : Nat → Prop) (F : Nat → Nat) (hF : zq_F A F 30) (T : Nat → Nat → Int64) (top : Nat → Nat) (pv rt en : Nat → Int64) (k co lo : Nat) (hk : k < 32) : zCt l yX0_nextEnd wsX0_nextEnd 0 0 D cL cI cR A F 30 (zCE cL cR F T top (pv, rt, en, (k + 1), co, lo)) [.ref (F 27)] (fun v2 E2 => v2 = (some (.long (en k))) ∧ E2 = (zCE cL cR F T top (pv, rt, en, (k + 1), co, lo))) := by
  refine zStart (cc := cX0_nextEnd) (maxL := 2) (ret := (some .long)) (by decide +kernel) rfl (Nat.le_of_ble_eq_true rfl) ?_
  intro p e s m below meth c hx hb hr hml hlk hown hts hAm H hP hS ls hl
  have hown : s.vm.findClass RX0 = some m.cls := hown
  have hl : lv_has ls 2 [(0, .ref (F 27))] := hl
  have hinX0 : ∀ w ∈ u_ws RX0 TX0 5, w ∈ wsX0_nextEnd := by decide +kernel
  refine lv_aload_n hx hb dX0_nextEnd_0 rfl (lv_at hl 0 rfl) ?_
  refine zget (q := 27) (k := 2) (v := .int (nI (k + 1))) hx hb hts hinX0 hown hAm hP (by omega) (zC_se) rfl (by decide) (hts (.fieldLink RX0 29 "CosineSeries$RootSearch" "waiting" "I") (by decide +kernel)) (by first | rfl | simp [va_up, *]) dX0_nextEnd_1 ?_
  refine lv_iconst (v := nI 1) hx hb dX0_nextEnd_4 (by decide +kernel) ?_
  refine zisub (d := k) hx hb (by omega) dX0_nextEnd_5 ?_
  refine lv_istore_n (lv' := [(1, .int (nI k)), (0, .ref (F 27))]) hx hb dX0_nextEnd_6 rfl hl (by decide) rfl (fun ls hl => ?_)
  refine lv_iload_n hx hb dX0_nextEnd_7 rfl (lv_at hl 0 rfl) ?_
  refine zf_lt (tgt := 29) hx hb dX0_nextEnd_8 (by decide) (by omega) ?_
  refine lv_iload_n hx hb dX0_nextEnd_11 rfl (lv_at hl 0 rfl) ?_
  refine lv_aload_n hx hb dX0_nextEnd_12 rfl (lv_at hl 1 rfl) ?_
  refine zget (q := 27) (k := 1) (v := .ref (F 29)) hx hb hts hinX0 hown hAm hP (by omega) (zC_se) rfl (by decide) (hts (.fieldLink RX0 15 "CosineSeries$RootSearch" "ends" "[J") (by decide +kernel)) (by first | rfl | simp [va_up, *]) dX0_nextEnd_13 ?_
  refine zalen (N := 32) (q := 29) (t0 := 0) hx hb hAm hP (by omega) (zC_en) rfl rfl dX0_nextEnd_16 ?_
  refine zi_ge (tgt := 29) hx hb dX0_nextEnd_17 (by decide) (by omega) (by omega) (fun c1 => ?_) (fun c1 => ?_)
  ·
    exfalso; omega
  ·
    refine lv_aload_n hx hb dX0_nextEnd_20 rfl (lv_at hl 1 rfl) ?_
    refine zget (q := 27) (k := 1) (v := .ref (F 29)) hx hb hts hinX0 hown hAm hP (by omega) (zC_se) rfl (by decide) (hts (.fieldLink RX0 15 "CosineSeries$RootSearch" "ends" "[J") (by decide +kernel)) (by first | rfl | simp [va_up, *]) dX0_nextEnd_21 ?_
    refine lv_iload_n hx hb dX0_nextEnd_24 rfl (lv_at hl 0 rfl) ?_
    refine zlald (q := 29) (k := k) (v := (en k)) hx hb hAm hP (by omega) (zC_en) (by omega) (by decide) (by first | rfl | simp [va_up, *]) dX0_nextEnd_25 ?_
    refine lv_goto (tgt := 30) hx hb dX0_nextEnd_26 (by decide) ?_
    exact zretL hx hb hr hlk hS hP dX0_nextEnd_30 ⟨rfl, rfl⟩

set_option maxHeartbeats 4000000 in
set_option maxRecDepth 100000 in
theorem kX0_note_skip (l : Launch) (D : va_G) (cL cI cR : ClassId) (A : Nat → Prop) (F : Nat → Nat) (hF : zq_F A F 30) (T : Nat → Nat → Int64) (top : Nat → Nat) (pv rt en : Nat → Int64) (w co lo : Nat) (m0 a0 : Int64) (hco : 0 < co ∧ co ≤ 24) (hs : a0 - 16 ≤ rt (co - 1)) : zCt l yX0_note wsX0_note 1 21 D cL cI cR A F 30 (zCE cL cR F T top (pv, rt, en, w, co, lo)) [.ref (F 27), .long m0, .long a0] (fun v2 E2 => v2 = none ∧ E2 = (zCE cL cR F T top (pv, rt, en, w, co, lo))) := by
  refine zStart (cc := cX0_note) (maxL := 5) (ret := none) (by decide +kernel) rfl (Nat.le_of_ble_eq_true rfl) ?_
  intro p e s m below meth c hx hb hr hml hlk hown hts hAm H hP hS ls hl
  have hown : s.vm.findClass RX0 = some m.cls := hown
  have hl : lv_has ls 5 [(0, .ref (F 27)), (1, .long m0), (3, .long a0)] := hl
  have hinX0 : ∀ w ∈ u_ws RX0 TX0 5, w ∈ wsX0_note := by decide +kernel
  refine lv_aload_n hx hb dX0_note_0 rfl (lv_at hl 0 rfl) ?_
  refine zget (q := 27) (k := 3) (v := .int (nI co)) hx hb hts hinX0 hown hAm hP (by omega) (zC_se) rfl (by decide) (hts (.fieldLink RX0 18 "CosineSeries$RootSearch" "count" "I") (by decide +kernel)) (by first | rfl | simp [va_up, *]) dX0_note_1 ?_
  refine zf_le (tgt := 27) hx hb dX0_note_4 (by decide) (by omega) (fun c1 => ?_) (fun c1 => ?_)
  ·
    exfalso; omega
  ·
    refine lv_aload_n hx hb dX0_note_7 rfl (lv_at hl 0 rfl) ?_
    refine lv_aload_n hx hb dX0_note_8 rfl (lv_at hl 0 rfl) ?_
    refine zget (q := 27) (k := 3) (v := .int (nI co)) hx hb hts hinX0 hown hAm hP (by omega) (zC_se) rfl (by decide) (hts (.fieldLink RX0 18 "CosineSeries$RootSearch" "count" "I") (by decide +kernel)) (by first | rfl | simp [va_up, *]) dX0_note_9 ?_
    refine lv_iconst (v := nI 1) hx hb dX0_note_12 (by decide +kernel) ?_
    refine zisub (d := (co - 1)) hx hb (by omega) dX0_note_13 ?_
    refine zcallV (As := [.int (nI (co - 1))]) (rest := []) (q := 27) (k := 1) hx hb hml hown hts (kX0_found l D cL cI cR A F hF T top pv rt en w co lo (co - 1) (by omega)) gX0_note_X0_found rfl (by decide +kernel) ⟨Nat.le_of_ble_eq_true rfl, Nat.le_of_ble_eq_true rfl⟩ rfl (by omega) (zC_se) rfl rfl hAm hP hS rfl hl.1 rfl (Nat.le_of_ble_eq_true rfl) dX0_note_14 ⟨Nat.zero_le _, Nat.zero_le _⟩ (zkn (fun H locs hP hS => ?_))
    refine W.eq (g2 := F0 m 17 ls [.long (rt (co - 1))]) rfl ?_
    refine lv_lload_n hx hb dX0_note_17 rfl (lv_at hl 2 rfl) ?_
    refine lv_ldc2 hx hb hown (hts (.constantLong RX0 58 (16)) (by decide +kernel)) dX0_note_18 ?_
    refine lv_lsub hx hb dX0_note_21 ?_
    refine zl_lt (tgt := 27) hx hb dX0_note_22 dX0_note_23 (by decide) (fun c2 => ?_) (fun c2 => ?_)
    ·
      exact absurd hs (Int64.not_le.mpr c2)
    ·
      exact zretV hx hb hr hlk hS hP dX0_note_26 ⟨rfl, rfl⟩

set_option maxHeartbeats 4000000 in
set_option maxRecDepth 100000 in
theorem kX0_note_add (l : Launch) (D : va_G) (cL cI cR : ClassId) (A : Nat → Prop) (F : Nat → Nat) (hF : zq_F A F 30) (T : Nat → Nat → Int64) (top : Nat → Nat) (pv rt en : Nat → Int64) (w co lo : Nat) (m0 a0 : Int64) (hco : co < 24) (hs : co = 0 ∨ rt (co - 1) < a0 - 16) : zCt l yX0_note wsX0_note 1 21 D cL cI cR A F 30 (zCE cL cR F T top (pv, rt, en, w, co, lo)) [.ref (F 27), .long m0, .long a0] (fun v2 E2 => v2 = none ∧ E2 = (zCE cL cR F T top (pv, (vp_updL rt co m0), en, w, (co + 1), lo))) := by
  refine zStart (cc := cX0_note) (maxL := 5) (ret := none) (by decide +kernel) rfl (Nat.le_of_ble_eq_true rfl) ?_
  intro p e s m below meth c hx hb hr hml hlk hown hts hAm H hP hS ls hl
  have hown : s.vm.findClass RX0 = some m.cls := hown
  have hl : lv_has ls 5 [(0, .ref (F 27)), (1, .long m0), (3, .long a0)] := hl
  have hinX0 : ∀ w ∈ u_ws RX0 TX0 5, w ∈ wsX0_note := by decide +kernel
  refine lv_aload_n hx hb dX0_note_0 rfl (lv_at hl 0 rfl) ?_
  refine zget (q := 27) (k := 3) (v := .int (nI co)) hx hb hts hinX0 hown hAm hP (by omega) (zC_se) rfl (by decide) (hts (.fieldLink RX0 18 "CosineSeries$RootSearch" "count" "I") (by decide +kernel)) (by first | rfl | simp [va_up, *]) dX0_note_1 ?_
  refine zf_le (tgt := 27) hx hb dX0_note_4 (by decide) (by omega) (fun c1 => ?_) (fun c1 => ?_)
  ·
    refine lv_aload_n hx hb dX0_note_27 rfl (lv_at hl 0 rfl) ?_
    refine zget (q := 27) (k := 3) (v := .int (nI co)) hx hb hts hinX0 hown hAm hP (by omega) (zC_se) rfl (by decide) (hts (.fieldLink RX0 18 "CosineSeries$RootSearch" "count" "I") (by decide +kernel)) (by first | rfl | simp [va_up, *]) dX0_note_28 ?_
    refine zf_lt (tgt := 66) hx hb dX0_note_31 (by decide) (by omega) ?_
    refine lv_aload_n hx hb dX0_note_34 rfl (lv_at hl 0 rfl) ?_
    refine zget (q := 27) (k := 3) (v := .int (nI co)) hx hb hts hinX0 hown hAm hP (by omega) (zC_se) rfl (by decide) (hts (.fieldLink RX0 18 "CosineSeries$RootSearch" "count" "I") (by decide +kernel)) (by first | rfl | simp [va_up, *]) dX0_note_35 ?_
    refine lv_aload_n hx hb dX0_note_38 rfl (lv_at hl 0 rfl) ?_
    refine zget (q := 27) (k := 0) (v := .ref (F 28)) hx hb hts hinX0 hown hAm hP (by omega) (zC_se) rfl (by decide) (hts (.fieldLink RX0 11 "CosineSeries$RootSearch" "roots" "[J") (by decide +kernel)) (by first | rfl | simp [va_up, *]) dX0_note_39 ?_
    refine zalen (N := 24) (q := 28) (t0 := 0) hx hb hAm hP (by omega) (zC_rt) rfl rfl dX0_note_42 ?_
    refine zi_ge (tgt := 66) hx hb dX0_note_43 (by decide) (by omega) (by omega) (fun c2 => ?_) (fun c2 => ?_)
    ·
      exfalso; omega
    ·
      refine lv_aload_n hx hb dX0_note_46 rfl (lv_at hl 0 rfl) ?_
      refine zget (q := 27) (k := 0) (v := .ref (F 28)) hx hb hts hinX0 hown hAm hP (by omega) (zC_se) rfl (by decide) (hts (.fieldLink RX0 11 "CosineSeries$RootSearch" "roots" "[J") (by decide +kernel)) (by first | rfl | simp [va_up, *]) dX0_note_47 ?_
      refine lv_aload_n hx hb dX0_note_50 rfl (lv_at hl 0 rfl) ?_
      refine zget (q := 27) (k := 3) (v := .int (nI co)) hx hb hts hinX0 hown hAm hP (by omega) (zC_se) rfl (by decide) (hts (.fieldLink RX0 18 "CosineSeries$RootSearch" "count" "I") (by decide +kernel)) (by first | rfl | simp [va_up, *]) dX0_note_51 ?_
      refine lv_lload_n hx hb dX0_note_54 rfl (lv_at hl 1 rfl) ?_
      refine zlast (q := 28) (k := co) (E' := (zCE cL cR F T top (pv, (vp_updL rt co m0), en, w, co, lo))) hx hb hAm hP hF hS (by omega) (zC_rt) (by omega) (by decide) dX0_note_55 (zC_urt) (fun H locs hP hS => ?_)
      refine lv_aload_n hx hb dX0_note_56 rfl (lv_at hl 0 rfl) ?_
      refine lv_dup hx hb dX0_note_57 rfl ?_
      refine zget (q := 27) (k := 3) (v := .int (nI co)) hx hb hts hinX0 hown hAm hP (by omega) (zC_se) rfl (by decide) (hts (.fieldLink RX0 18 "CosineSeries$RootSearch" "count" "I") (by decide +kernel)) (by first | rfl | simp [va_up, *]) dX0_note_58 ?_
      refine lv_iconst (v := nI 1) hx hb dX0_note_61 (by decide +kernel) ?_
      refine ziadd (d := (co + 1)) hx hb (by omega) dX0_note_62 ?_
      refine zput (q := 27) (k := 3) (ty := .int) (E' := (zCE cL cR F T top (pv, (vp_updL rt co m0), en, w, (co + 1), lo))) hx hb hts hinX0 tyX0 tyX0_ok nmX0 hown hAm hP hF hS (by omega) (zC_se) rfl (by decide) (hts (.fieldLink RX0 18 "CosineSeries$RootSearch" "count" "I") (by decide +kernel)) rfl rfl rfl rfl (Nat.le_of_ble_eq_true rfl) dX0_note_63 (zC_use) (fun H locs hP hS => ?_)
      exact zretV hx hb hr hlk hS hP dX0_note_66 ⟨rfl, rfl⟩
  ·
    refine lv_aload_n hx hb dX0_note_7 rfl (lv_at hl 0 rfl) ?_
    refine lv_aload_n hx hb dX0_note_8 rfl (lv_at hl 0 rfl) ?_
    refine zget (q := 27) (k := 3) (v := .int (nI co)) hx hb hts hinX0 hown hAm hP (by omega) (zC_se) rfl (by decide) (hts (.fieldLink RX0 18 "CosineSeries$RootSearch" "count" "I") (by decide +kernel)) (by first | rfl | simp [va_up, *]) dX0_note_9 ?_
    refine lv_iconst (v := nI 1) hx hb dX0_note_12 (by decide +kernel) ?_
    refine zisub (d := (co - 1)) hx hb (by omega) dX0_note_13 ?_
    refine zcallV (As := [.int (nI (co - 1))]) (rest := []) (q := 27) (k := 1) hx hb hml hown hts (kX0_found l D cL cI cR A F hF T top pv rt en w co lo (co - 1) (by omega)) gX0_note_X0_found rfl (by decide +kernel) ⟨Nat.le_of_ble_eq_true rfl, Nat.le_of_ble_eq_true rfl⟩ rfl (by omega) (zC_se) rfl rfl hAm hP hS rfl hl.1 rfl (Nat.le_of_ble_eq_true rfl) dX0_note_14 ⟨Nat.zero_le _, Nat.zero_le _⟩ (zkn (fun H locs hP hS => ?_))
    refine W.eq (g2 := F0 m 17 ls [.long (rt (co - 1))]) rfl ?_
    refine lv_lload_n hx hb dX0_note_17 rfl (lv_at hl 2 rfl) ?_
    refine lv_ldc2 hx hb hown (hts (.constantLong RX0 58 (16)) (by decide +kernel)) dX0_note_18 ?_
    refine lv_lsub hx hb dX0_note_21 ?_
    refine zl_lt (tgt := 27) hx hb dX0_note_22 dX0_note_23 (by decide) (fun c3 => ?_) (fun c3 => ?_)
    ·
      refine lv_aload_n hx hb dX0_note_27 rfl (lv_at hl 0 rfl) ?_
      refine zget (q := 27) (k := 3) (v := .int (nI co)) hx hb hts hinX0 hown hAm hP (by omega) (zC_se) rfl (by decide) (hts (.fieldLink RX0 18 "CosineSeries$RootSearch" "count" "I") (by decide +kernel)) (by first | rfl | simp [va_up, *]) dX0_note_28 ?_
      refine zf_lt (tgt := 66) hx hb dX0_note_31 (by decide) (by omega) ?_
      refine lv_aload_n hx hb dX0_note_34 rfl (lv_at hl 0 rfl) ?_
      refine zget (q := 27) (k := 3) (v := .int (nI co)) hx hb hts hinX0 hown hAm hP (by omega) (zC_se) rfl (by decide) (hts (.fieldLink RX0 18 "CosineSeries$RootSearch" "count" "I") (by decide +kernel)) (by first | rfl | simp [va_up, *]) dX0_note_35 ?_
      refine lv_aload_n hx hb dX0_note_38 rfl (lv_at hl 0 rfl) ?_
      refine zget (q := 27) (k := 0) (v := .ref (F 28)) hx hb hts hinX0 hown hAm hP (by omega) (zC_se) rfl (by decide) (hts (.fieldLink RX0 11 "CosineSeries$RootSearch" "roots" "[J") (by decide +kernel)) (by first | rfl | simp [va_up, *]) dX0_note_39 ?_
      refine zalen (N := 24) (q := 28) (t0 := 0) hx hb hAm hP (by omega) (zC_rt) rfl rfl dX0_note_42 ?_
      refine zi_ge (tgt := 66) hx hb dX0_note_43 (by decide) (by omega) (by omega) (fun c4 => ?_) (fun c4 => ?_)
      ·
        exfalso; omega
      ·
        refine lv_aload_n hx hb dX0_note_46 rfl (lv_at hl 0 rfl) ?_
        refine zget (q := 27) (k := 0) (v := .ref (F 28)) hx hb hts hinX0 hown hAm hP (by omega) (zC_se) rfl (by decide) (hts (.fieldLink RX0 11 "CosineSeries$RootSearch" "roots" "[J") (by decide +kernel)) (by first | rfl | simp [va_up, *]) dX0_note_47 ?_
        refine lv_aload_n hx hb dX0_note_50 rfl (lv_at hl 0 rfl) ?_
        refine zget (q := 27) (k := 3) (v := .int (nI co)) hx hb hts hinX0 hown hAm hP (by omega) (zC_se) rfl (by decide) (hts (.fieldLink RX0 18 "CosineSeries$RootSearch" "count" "I") (by decide +kernel)) (by first | rfl | simp [va_up, *]) dX0_note_51 ?_
        refine lv_lload_n hx hb dX0_note_54 rfl (lv_at hl 1 rfl) ?_
        refine zlast (q := 28) (k := co) (E' := (zCE cL cR F T top (pv, (vp_updL rt co m0), en, w, co, lo))) hx hb hAm hP hF hS (by omega) (zC_rt) (by omega) (by decide) dX0_note_55 (zC_urt) (fun H locs hP hS => ?_)
        refine lv_aload_n hx hb dX0_note_56 rfl (lv_at hl 0 rfl) ?_
        refine lv_dup hx hb dX0_note_57 rfl ?_
        refine zget (q := 27) (k := 3) (v := .int (nI co)) hx hb hts hinX0 hown hAm hP (by omega) (zC_se) rfl (by decide) (hts (.fieldLink RX0 18 "CosineSeries$RootSearch" "count" "I") (by decide +kernel)) (by first | rfl | simp [va_up, *]) dX0_note_58 ?_
        refine lv_iconst (v := nI 1) hx hb dX0_note_61 (by decide +kernel) ?_
        refine ziadd (d := (co + 1)) hx hb (by omega) dX0_note_62 ?_
        refine zput (q := 27) (k := 3) (ty := .int) (E' := (zCE cL cR F T top (pv, (vp_updL rt co m0), en, w, (co + 1), lo))) hx hb hts hinX0 tyX0 tyX0_ok nmX0 hown hAm hP hF hS (by omega) (zC_se) rfl (by decide) (hts (.fieldLink RX0 18 "CosineSeries$RootSearch" "count" "I") (by decide +kernel)) rfl rfl rfl rfl (Nat.le_of_ble_eq_true rfl) dX0_note_63 (zC_use) (fun H locs hP hS => ?_)
        exact zretV hx hb hr hlk hS hP dX0_note_66 ⟨rfl, rfl⟩
    ·
      exact absurd (hs.resolve_left (by omega)) c3

set_option maxHeartbeats 4000000 in
set_option maxRecDepth 100000 in
theorem kX0_steepnessOf (l : Launch) (D : va_G) (cL cI cR : ClassId) (A : Nat → Prop) (F : Nat → Nat) (hF : zq_F A F 30) (T : Nat → Nat → Int64) (top : Nat → Nat) (pv rt en : Nat → Int64) (w co lo : Nat) (i : Nat) (hi : i < 12) (h48 : top i ≤ 48) : zCt l yX0_steepnessOf wsX0_steepnessOf 1 21 D cL cI cR A F 30 (zCE cL cR F T top (pv, rt, en, w, co, lo)) [.ref (F i)] (fun v2 E2 => v2 = (some (.long (zstp (T i) (top i)))) ∧ E2 = (zCE cL cR F T top (pv, rt, en, w, co, lo))) := by
  refine zStart (cc := cX0_steepnessOf) (maxL := 4) (ret := (some .long)) (by decide +kernel) rfl (Nat.le_of_ble_eq_true rfl) ?_
  intro p e s m below meth c hx hb hr hml hlk hown hts hAm H hP hS ls hl
  have hown : s.vm.findClass RX0 = some m.cls := hown
  have hl : lv_has ls 4 [(0, .ref (F i))] := hl
  refine lv_lconst (v := (0 : Int64)) hx hb dX0_steepnessOf_0 (by decide +kernel) ?_
  refine lv_lstore_n (lv' := [(1, .long (0 : Int64)), (0, .ref (F i))]) hx hb dX0_steepnessOf_1 rfl hl (by decide) rfl (fun ls hl => ?_)
  refine lv_iconst (v := nI 1) hx hb dX0_steepnessOf_2 (by decide +kernel) ?_
  refine lv_istore_n (lv' := [(3, .int (nI 1)), (1, .long (0 : Int64)), (0, .ref (F i))]) hx hb dX0_steepnessOf_3 rfl hl (by decide) rfl (fun ls hl => ?_)
  have L4 : ∀ (n : Nat) (m0 : Nat) (u : Int64) (hm : m0 ≤ top i) (hu : u = zstp (T i) m0) (hn : top i - m0 < n) (H : Heap) (locs : List Loc), va_P D vwCl (zq_wd F 30 (zCE cL cR F T top (pv, rt, en, w, co, lo))) H → va_S A s.heap H locs → ∀ (ls : Array Slot), lv_has ls 4 [(0, .ref (F i)), (1, .long u), (3, .int (nI (m0 + 1)))] → W p l e ({ frames := 1, cells := 0, slots := 0, locals := 21 }) s m ([.ref (F i)] : List Value).toArray below meth c H locs 0 0 (zQ below D A F 30 [.ref (F i)] s (fun v2 E2 => v2 = (some (.long (zstp (T i) (top i)))) ∧ E2 = (zCE cL cR F T top (pv, rt, en, w, co, lo)))) (F0 m 4 ls []) := by
    intro n
    induction n with
    | zero =>
      intro m0 u hm hu hn
      exact absurd hn (Nat.not_lt_zero _)
    | succ n ih4 =>
      intro m0 u hm hu hn H locs hP hS ls hl
      refine lv_iload_n hx hb dX0_steepnessOf_4 rfl (lv_at hl 2 rfl) ?_
      refine lv_aload_n hx hb dX0_steepnessOf_5 rfl (lv_at hl 0 rfl) ?_
      refine zcallV (As := []) (rest := [.int (nI (m0 + 1))]) (q := i) (k := 0) hx hb hml hown hts (kX1_top l D cL cI cR A F hF T top (pv, rt, en, w, co, lo) i (by omega) (top i) (by first | rfl | simp [va_up, *])) gX0_steepnessOf_X1_top rfl (by decide +kernel) ⟨Nat.le_of_ble_eq_true rfl, Nat.le_of_ble_eq_true rfl⟩ rfl (by omega) (zC_s (by omega)) rfl rfl hAm hP hS rfl hl.1 rfl (Nat.le_of_ble_eq_true rfl) dX0_steepnessOf_6 ⟨Nat.zero_le _, Nat.zero_le _⟩ (zkn (fun H locs hP hS => ?_))
      refine W.eq (g2 := F0 m 9 ls [.int (nI (top i)), .int (nI (m0 + 1))]) rfl ?_
      refine zi_gt (tgt := 34) hx hb dX0_steepnessOf_9 (by decide) (by omega) (by omega) (fun c1 => ?_) (fun c1 => ?_)
      ·
        refine lv_lload_n hx hb dX0_steepnessOf_34 rfl (lv_at hl 1 rfl) ?_
        exact zretL hx hb hr hlk hS hP dX0_steepnessOf_35 ⟨by rw [hu, show m0 = top i by omega], rfl⟩
      ·
        have hsq := zsq (m := m0) (by omega)
        refine lv_lload_n hx hb dX0_steepnessOf_12 rfl (lv_at hl 1 rfl) ?_
        refine lv_iload_n hx hb dX0_steepnessOf_13 rfl (lv_at hl 2 rfl) ?_
        refine lv_iload_n hx hb dX0_steepnessOf_14 rfl (lv_at hl 2 rfl) ?_
        refine zimul (d := ((m0 + 1) * (m0 + 1))) hx hb rfl dX0_steepnessOf_15 ?_
        refine zi2l hx hb (by omega) dX0_steepnessOf_16 ?_
        refine lv_aload_n hx hb dX0_steepnessOf_17 rfl (lv_at hl 0 rfl) ?_
        refine lv_iload_n hx hb dX0_steepnessOf_18 rfl (lv_at hl 2 rfl) ?_
        refine zcallV (As := [.int (nI (m0 + 1))]) (rest := [.long (lN ((m0 + 1) * (m0 + 1))), .long u]) (q := i) (k := 1) hx hb hml hown hts (kX1_at l D cL cI cR A F hF T top (pv, rt, en, w, co, lo) i (by omega) (m0 + 1) (by omega) ((T i) (m0 + 1)) (by first | rfl | simp [va_up, *])) gX0_steepnessOf_X1_at rfl (by decide +kernel) ⟨Nat.le_of_ble_eq_true rfl, Nat.le_of_ble_eq_true rfl⟩ rfl (by omega) (zC_s (by omega)) rfl rfl hAm hP hS rfl hl.1 rfl (Nat.le_of_ble_eq_true rfl) dX0_steepnessOf_19 ⟨Nat.zero_le _, Nat.zero_le _⟩ (zkn (fun H locs hP hS => ?_))
        refine W.eq (g2 := F0 m 22 ls [.long ((T i) (m0 + 1)), .long (lN ((m0 + 1) * (m0 + 1))), .long u]) rfl ?_
        refine va_mabs_long hx hb (hml.trans hl.1.symm) hown (hts (.methodLink RX0 74 Lib.MathLoose.abs_long.x) (by decide +kernel)) (hts (.static Lib.MathLoose.abs_long.x) (by decide +kernel)) (hts (.initialized "java/lang/Math") (by decide +kernel)) (hts (.code Lib.MathLoose.abs_long.x Lib.MathLoose.abs_long.code 2 (some .long)) (by decide +kernel)) (Nat.le_of_ble_eq_true rfl) (Nat.le_of_ble_eq_true rfl) (Nat.zero_le _) (Nat.zero_le _) dX0_steepnessOf_22 ?_
        refine W.eq (g2 := F0 m 25 ls [.long (zabs ((T i) (m0 + 1))), .long (lN ((m0 + 1) * (m0 + 1))), .long u]) rfl ?_
        refine lv_lmul hx hb dX0_steepnessOf_25 ?_
        refine lv_ladd hx hb dX0_steepnessOf_26 ?_
        refine lv_lstore_n (lv' := [(1, .long (u + ((lN ((m0 + 1) * (m0 + 1))) * (zabs ((T i) (m0 + 1)))))), (0, .ref (F i)), (3, .int (nI (m0 + 1)))]) hx hb dX0_steepnessOf_27 rfl hl (by decide) rfl (fun ls hl => ?_)
        refine lv_iinc (v := (nI (m0 + 2))) (lv' := [(3, .int (nI (m0 + 2))), (1, .long (u + ((lN ((m0 + 1) * (m0 + 1))) * (zabs ((T i) (m0 + 1)))))), (0, .ref (F i))]) hx hb dX0_steepnessOf_28 hl (k := 2) rfl (zinc (by omega)) (by decide) rfl (fun ls hl => ?_)
        refine lv_goto (tgt := 4) hx hb dX0_steepnessOf_31 (by decide) ?_
        exact ih4 (m0 + 1) (u + ((lN ((m0 + 1) * (m0 + 1))) * (zabs ((T i) (m0 + 1))))) (by omega) (by rw [hu]; rfl) (by omega) H _ hP hS ls (lv_sub hl [2, 1, 0] rfl)
  exact L4 _ 0 0 (by omega) rfl (Nat.lt_succ_self _) H _ hP hS ls (lv_sub hl [2, 1, 0] rfl)

set_option maxHeartbeats 4000000 in
set_option maxRecDepth 100000 in
theorem kX0_isFree (l : Launch) (D : va_G) (cL cI cR : ClassId) (A : Nat → Prop) (F : Nat → Nat) (hF : zq_F A F 30) (T : Nat → Nat → Int64) (top : Nat → Nat) (pv rt en : Nat → Int64) (w co lo : Nat) (i : Nat) (hi : i < 12) (h48 : top i ≤ 48) (st0 m0 h0 : Int64) (b : Nat) (hv : b = zbN (zR (st0 * h0) 1048576 + 8 * lN (top i + 1) < zabs (zval (T i) (top i) m0))) : zCt l yX0_isFree wsX0_isFree 3 81 D cL cI cR A F 30 (zCE cL cR F T top (pv, rt, en, w, co, lo)) [.ref (F i), .long st0, .long m0, .long h0] (fun v2 E2 => v2 = (some (.int (nI b))) ∧ E2 = (zCE cL cR F T top (pv, rt, en, w, co, lo))) := by
  refine zStart (cc := cX0_isFree) (maxL := 9) (ret := (some .boolean)) (by decide +kernel) rfl (Nat.le_of_ble_eq_true rfl) ?_
  intro p e s m below meth c hx hb hr hml hlk hown hts hAm H hP hS ls hl
  have hown : s.vm.findClass RX0 = some m.cls := hown
  have hl : lv_has ls 9 [(0, .ref (F i)), (1, .long st0), (3, .long m0), (5, .long h0)] := hl
  refine lv_ldc2 hx hb hown (hts (.constantLong RX0 78 (8)) (by decide +kernel)) dX0_isFree_0 ?_
  refine lv_aload_n hx hb dX0_isFree_3 rfl (lv_at hl 0 rfl) ?_
  refine zcallV (As := []) (rest := [.long (8 : Int64)]) (q := i) (k := 0) hx hb hml hown hts (kX1_top l D cL cI cR A F hF T top (pv, rt, en, w, co, lo) i (by omega) (top i) (by first | rfl | simp [va_up, *])) gX0_isFree_X1_top rfl (by decide +kernel) ⟨Nat.le_of_ble_eq_true rfl, Nat.le_of_ble_eq_true rfl⟩ rfl (by omega) (zC_s (by omega)) rfl rfl hAm hP hS rfl hl.1 rfl (Nat.le_of_ble_eq_true rfl) dX0_isFree_4 ⟨Nat.zero_le _, Nat.zero_le _⟩ (zkn (fun H locs hP hS => ?_))
  refine W.eq (g2 := F0 m 7 ls [.int (nI (top i)), .long (8 : Int64)]) rfl ?_
  refine lv_iconst (v := nI 1) hx hb dX0_isFree_7 (by decide +kernel) ?_
  refine ziadd (d := ((top i) + 1)) hx hb (by omega) dX0_isFree_8 ?_
  refine zi2l hx hb (by omega) dX0_isFree_9 ?_
  refine lv_lmul hx hb dX0_isFree_10 ?_
  refine lv_lstore (lv' := [(7, .long ((8 : Int64) * (lN ((top i) + 1)))), (0, .ref (F i)), (1, .long st0), (3, .long m0), (5, .long h0)]) hx hb dX0_isFree_11 hl (by decide) rfl (fun ls hl => ?_)
  refine lv_aload_n hx hb dX0_isFree_13 rfl (lv_at hl 1 rfl) ?_
  refine lv_lload_n hx hb dX0_isFree_14 rfl (lv_at hl 3 rfl) ?_
  refine zcallV (As := [.long m0]) (rest := []) (q := i) (k := 1) hx hb hml hown hts (kX1_valueAt l D cL cI cR A F hF T top (pv, rt, en, w, co, lo) i hi m0 (T i) rfl (top i) rfl h48) gX0_isFree_X1_valueAt rfl (by decide +kernel) ⟨Nat.le_of_ble_eq_true rfl, Nat.le_of_ble_eq_true rfl⟩ rfl (by omega) (zC_s (by omega)) rfl rfl hAm hP hS rfl hl.1 rfl (Nat.le_of_ble_eq_true rfl) dX0_isFree_15 ⟨Nat.zero_le _, Nat.zero_le _⟩ (zkn (fun H locs hP hS => ?_))
  refine W.eq (g2 := F0 m 18 ls [.long (zval (T i) (top i) m0)]) rfl ?_
  refine va_mabs_long hx hb (hml.trans hl.1.symm) hown (hts (.methodLink RX0 74 Lib.MathLoose.abs_long.x) (by decide +kernel)) (hts (.static Lib.MathLoose.abs_long.x) (by decide +kernel)) (hts (.initialized "java/lang/Math") (by decide +kernel)) (hts (.code Lib.MathLoose.abs_long.x Lib.MathLoose.abs_long.code 2 (some .long)) (by decide +kernel)) (Nat.le_of_ble_eq_true rfl) (Nat.le_of_ble_eq_true rfl) (Nat.zero_le _) (Nat.zero_le _) dX0_isFree_18 ?_
  refine W.eq (g2 := F0 m 21 ls [.long (zabs (zval (T i) (top i) m0))]) rfl ?_
  refine lv_lload_n hx hb dX0_isFree_21 rfl (lv_at hl 2 rfl) ?_
  refine lv_lload hx hb dX0_isFree_22 (lv_at hl 4 rfl) ?_
  refine lv_lmul hx hb dX0_isFree_24 ?_
  refine lv_ldc2 hx hb hown (hts (.constantLong RX0 32 (1048576)) (by decide +kernel)) dX0_isFree_25 ?_
  refine zcallN (As := [.long (st0 * h0), .long (1048576 : Int64)]) (rest := [.long (zabs (zval (T i) (top i) m0))]) (k := 2) hx hb hml hown hts (kX2_rounded l D cL cI cR A F 30 (zCE cL cR F T top (pv, rt, en, w, co, lo)) (st0 * h0) (1048576 : Int64) (by decide)) gX0_isFree_X2_rounded_n83 rfl hAm.2.2.1 (hts (.initialized RX2) (by decide +kernel)) (hts (.static yX2_rounded) (by decide +kernel)) (by decide +kernel) ⟨Nat.le_of_ble_eq_true rfl, Nat.le_of_ble_eq_true rfl⟩ hAm hP hS rfl hl.1 rfl (Nat.le_of_ble_eq_true rfl) dX0_isFree_28 ⟨Nat.zero_le _, Nat.zero_le _⟩ (zkn (fun H locs hP hS => ?_))
  refine W.eq (g2 := F0 m 31 ls [.long (zR (st0 * h0) (1048576 : Int64)), .long (zabs (zval (T i) (top i) m0))]) rfl ?_
  refine lv_lload hx hb dX0_isFree_31 (lv_at hl 0 rfl) ?_
  refine lv_ladd hx hb dX0_isFree_33 ?_
  refine zl_le (tgt := 42) hx hb dX0_isFree_34 dX0_isFree_35 (by decide) (fun c1 => ?_) (fun c1 => ?_)
  ·
    refine lv_iconst (v := nI 0) hx hb dX0_isFree_42 (by decide +kernel) ?_
    exact zretZ hx hb hr hlk hS hP (by first | rfl | (rw [hv]; unfold zbN; split <;> rfl)) dX0_isFree_43 ⟨by rw [hv]; unfold zbN; rw [if_neg (Int64.not_lt.mpr c1)], rfl⟩
  ·
    refine lv_iconst (v := nI 1) hx hb dX0_isFree_38 (by decide +kernel) ?_
    refine lv_goto (tgt := 43) hx hb dX0_isFree_39 (by decide) ?_
    exact zretZ hx hb hr hlk hS hP (by first | rfl | (rw [hv]; unfold zbN; split <;> rfl)) dX0_isFree_43 ⟨by rw [hv]; unfold zbN; rw [if_pos (Int64.not_le.mp c1)], rfl⟩

set_option maxHeartbeats 4000000 in
set_option maxRecDepth 100000 in
theorem kX0_run (l : Launch) (D : va_G) (cL cI cR : ClassId) (A : Nat → Prop) (F : Nat → Nat) (hF : zq_F A F 30) (T : Nat → Nat → Int64) (top : Nat → Nat) (pv rt en : Nat → Int64) (w co lo : Nat) (i : Nat) (hi : i < 12) (h48 : top i ≤ 48) : zCt l yX0_run wsX0_run 4 109 D cL cI cR A F 30 (zCE cL cR F T top (pv, rt, en, w, co, lo)) [.ref (F 27), .ref (F i)] (fun v2 E2 => ∃ (rt2 en2 : Nat → Int64) (w2 : Nat), v2 = none ∧ E2 = zCE cL cR F T top (pv, rt2, en2, w2, (zroots (T i) (top i)).1.length, (zroots (T i) (top i)).2) ∧ zrts rt2 (zroots (T i) (top i)).1) := by
  refine zStart (cc := cX0_run) (maxL := 11) (ret := none) (by decide +kernel) rfl (Nat.le_of_ble_eq_true rfl) ?_
  intro p e s m below meth c hx hb hr hml hlk hown hts hAm H hP hS ls hl
  have hown : s.vm.findClass RX0 = some m.cls := hown
  have hl : lv_has ls 11 [(0, .ref (F 27)), (1, .ref (F i))] := hl
  have hinX0 : ∀ w ∈ u_ws RX0 TX0 5, w ∈ wsX0_run := by decide +kernel
  refine lv_aload_n hx hb dX0_run_0 rfl (lv_at hl 1 rfl) ?_
  refine zcallS (As := [.ref (F i)]) (rest := []) (k := 1) hx hb hml hown hts (kX0_steepnessOf l D cL cI cR A F hF T top pv rt en w co lo i hi h48) gX0_run_X0_steepnessOf rfl (by decide +kernel) ⟨Nat.le_of_ble_eq_true rfl, Nat.le_of_ble_eq_true rfl⟩ hAm hP hS rfl hl.1 rfl (Nat.le_of_ble_eq_true rfl) dX0_run_1 ⟨Nat.zero_le _, Nat.zero_le _⟩ (zkn (fun H locs hP hS => ?_))
  refine W.eq (g2 := F0 m 4 ls [.long (zstp (T i) (top i))]) rfl ?_
  refine lv_lstore_n (lv' := [(2, .long (zstp (T i) (top i))), (0, .ref (F 27)), (1, .ref (F i))]) hx hb dX0_run_4 rfl hl (by decide) rfl (fun ls hl => ?_)
  refine lv_aload_n hx hb dX0_run_5 rfl (lv_at hl 1 rfl) ?_
  refine lv_iconst (v := nI 0) hx hb dX0_run_6 (by decide +kernel) ?_
  refine zput (q := 27) (k := 3) (ty := .int) (E' := (zCE cL cR F T top (pv, rt, en, w, 0, lo))) hx hb hts hinX0 tyX0 tyX0_ok nmX0 hown hAm hP hF hS (by omega) (zC_se) rfl (by decide) (hts (.fieldLink RX0 18 "CosineSeries$RootSearch" "count" "I") (by decide +kernel)) rfl rfl rfl rfl (Nat.le_of_ble_eq_true rfl) dX0_run_7 (zC_use) (fun H locs hP hS => ?_)
  refine lv_aload_n hx hb dX0_run_10 rfl (lv_at hl 1 rfl) ?_
  refine lv_iconst (v := nI 0) hx hb dX0_run_11 (by decide +kernel) ?_
  refine zput (q := 27) (k := 4) (ty := .int) (E' := (zCE cL cR F T top (pv, rt, en, w, 0, 0))) hx hb hts hinX0 tyX0 tyX0_ok nmX0 hown hAm hP hF hS (by omega) (zC_se) rfl (by decide) (hts (.fieldLink RX0 22 "CosineSeries$RootSearch" "lookedAt" "I") (by decide +kernel)) rfl rfl rfl rfl (Nat.le_of_ble_eq_true rfl) dX0_run_12 (zC_use) (fun H locs hP hS => ?_)
  refine lv_aload_n hx hb dX0_run_15 rfl (lv_at hl 1 rfl) ?_
  refine lv_iconst (v := nI 0) hx hb dX0_run_16 (by decide +kernel) ?_
  refine zput (q := 27) (k := 2) (ty := .int) (E' := (zCE cL cR F T top (pv, rt, en, 0, 0, 0))) hx hb hts hinX0 tyX0 tyX0_ok nmX0 hown hAm hP hF hS (by omega) (zC_se) rfl (by decide) (hts (.fieldLink RX0 29 "CosineSeries$RootSearch" "waiting" "I") (by decide +kernel)) rfl rfl rfl rfl (Nat.le_of_ble_eq_true rfl) dX0_run_17 (zC_use) (fun H locs hP hS => ?_)
  refine lv_aload_n hx hb dX0_run_20 rfl (lv_at hl 1 rfl) ?_
  refine lv_ldc2 hx hb hown (hts (.constantLong RX0 32 (1048576)) (by decide +kernel)) dX0_run_21 ?_
  refine zcallV (As := [.long (1048576 : Int64)]) (rest := []) (q := 27) (k := 1) hx hb hml hown hts (kX0_push l D cL cI cR A F hF T top pv rt en 0 0 0 (by omega) 1048576) gX0_run_X0_push rfl (by decide +kernel) ⟨Nat.le_of_ble_eq_true rfl, Nat.le_of_ble_eq_true rfl⟩ rfl (by omega) (zC_se) rfl rfl hAm hP hS rfl hl.1 rfl (Nat.le_of_ble_eq_true rfl) dX0_run_24 ⟨Nat.zero_le _, Nat.zero_le _⟩ (zkn (fun H locs hP hS => ?_))
  refine W.eq (g2 := F0 m 27 ls []) rfl ?_
  refine lv_ldc2 hx hb hown (hts (.constantLong RX0 38 (-1048576)) (by decide +kernel)) dX0_run_27 ?_
  refine lv_lstore (lv' := [(4, .long (-1048576 : Int64)), (2, .long (zstp (T i) (top i))), (0, .ref (F 27)), (1, .ref (F i))]) hx hb dX0_run_30 hl (by decide) rfl (fun ls hl => ?_)
  have L32 : ∀ (n : Nat) (u : Nat) (a : Int64) (en : Nat → Int64) (w : Nat) (rt : Nat → Int64) (fs : List Int64) (lo : Nat) (hu : u + lo = 2001 ∧ lo ≤ 2000) (hsp : zsea (zfr (T i) (top i)) u (zadj en w a) fs lo = zroots (T i) (top i)) (hok : zok (zadj en w a)) (hrt : fs.length ≤ 24 ∧ zrts rt fs) (hw32 : w ≤ 32) (hn : u < n) (H : Heap) (locs : List Loc), va_P D vwCl (zq_wd F 30 (zCE cL cR F T top (pv, rt, en, w, fs.length, lo))) H → va_S A s.heap H locs → ∀ (ls : Array Slot), lv_has ls 11 [(0, .ref (F 27)), (1, .ref (F i)), (2, .long (zstp (T i) (top i))), (4, .long a)] → W p l e ({ frames := 4, cells := 0, slots := 0, locals := 109 }) s m ([.ref (F 27), .ref (F i)] : List Value).toArray below meth c H locs 0 0 (zQ below D A F 30 [.ref (F 27), .ref (F i)] s (fun v2 E2 => ∃ (rt2 en2 : Nat → Int64) (w2 : Nat), v2 = none ∧ E2 = zCE cL cR F T top (pv, rt2, en2, w2, (zroots (T i) (top i)).1.length, (zroots (T i) (top i)).2) ∧ zrts rt2 (zroots (T i) (top i)).1)) (F0 m 32 ls []) := by
    intro n
    induction n with
    | zero =>
      intro u a en w rt fs lo hu hsp hok hrt hw32 hn
      exact absurd hn (Nat.not_lt_zero _)
    | succ n ih32 =>
      intro u a en w rt fs lo hu hsp hok hrt hw32 hn H locs hP hS ls hl
      obtain ⟨hrl, hrt⟩ := hrt
      obtain ⟨u, rfl⟩ : ∃ j, u = j + 1 := ⟨u - 1, by omega⟩
      refine lv_aload_n hx hb dX0_run_32 rfl (lv_at hl 0 rfl) ?_
      refine zget (q := 27) (k := 2) (v := .int (nI w)) hx hb hts hinX0 hown hAm hP (by omega) (zC_se) rfl (by decide) (hts (.fieldLink RX0 29 "CosineSeries$RootSearch" "waiting" "I") (by decide +kernel)) (by first | rfl | simp [va_up, *]) dX0_run_33 ?_
      refine zf_le (tgt := 163) hx hb dX0_run_36 (by decide) (by omega) (fun c1 => ?_) (fun c1 => ?_)
      ·
        have hw0 : w = 0 := c1
        have hfin : (fs, lo) = zroots (T i) (top i) := by rw [← hsp, hw0]; rfl
        exact zretV hx hb hr hlk hS hP dX0_run_163 ⟨_, _, _, rfl, by rw [← hfin], by rw [← hfin]; exact hrt⟩
      ·
        obtain ⟨k, rfl⟩ : ∃ j, w = j + 1 := ⟨w - 1, by omega⟩
        have hk17 : k ≤ 17 := by have := hok.2.2.1; rw [zadj_len] at this; exact this
        have hmid := zok_mid hok.1.1 hok.1.2.1 hok.1.2.2
        have hP : va_P D vwCl (zq_wd F 30 (zCE cL cR F T top (pv, rt, en, (k + 1), fs.length, lo))) H := hP
        refine lv_aload_n hx hb dX0_run_39 rfl (lv_at hl 0 rfl) ?_
        refine zget (q := 27) (k := 3) (v := .int (nI fs.length)) hx hb hts hinX0 hown hAm hP (by omega) (zC_se) rfl (by decide) (hts (.fieldLink RX0 18 "CosineSeries$RootSearch" "count" "I") (by decide +kernel)) (by first | rfl | simp [va_up, *]) dX0_run_40 ?_
        refine lv_bipush (v := nI 24) hx hb dX0_run_43 (by decide +kernel) ?_
        refine zi_ge (tgt := 163) hx hb dX0_run_45 (by decide) (by omega) (by omega) (fun c2 => ?_) (fun c2 => ?_)
        ·
          have hfin : (fs, lo) = zroots (T i) (top i) := by rw [← hsp, zadj, zsea, if_neg (by omega)]
          exact zretV hx hb hr hlk hS hP dX0_run_163 ⟨_, _, _, rfl, by rw [← hfin], by rw [← hfin]; exact hrt⟩
        ·
          refine lv_aload_n hx hb dX0_run_48 rfl (lv_at hl 0 rfl) ?_
          refine zget (q := 27) (k := 4) (v := .int (nI lo)) hx hb hts hinX0 hown hAm hP (by omega) (zC_se) rfl (by decide) (hts (.fieldLink RX0 22 "CosineSeries$RootSearch" "lookedAt" "I") (by decide +kernel)) (by first | rfl | simp [va_up, *]) dX0_run_49 ?_
          refine lv_sipush (v := nI 2000) hx hb dX0_run_52 (by decide +kernel) ?_
          refine zi_ge (tgt := 163) hx hb dX0_run_55 (by decide) (by omega) (by omega) (fun c3 => ?_) (fun c3 => ?_)
          ·
            have hfin : (fs, lo) = zroots (T i) (top i) := by rw [← hsp, zadj, zsea, if_neg (by omega)]
            exact zretV hx hb hr hlk hS hP dX0_run_163 ⟨_, _, _, rfl, by rw [← hfin], by rw [← hfin]; exact hrt⟩
          ·
            rw [zadj, zsea, if_pos ⟨by omega, by omega⟩] at hsp
            refine lv_aload_n hx hb dX0_run_58 rfl (lv_at hl 0 rfl) ?_
            refine lv_dup hx hb dX0_run_59 rfl ?_
            refine zget (q := 27) (k := 4) (v := .int (nI lo)) hx hb hts hinX0 hown hAm hP (by omega) (zC_se) rfl (by decide) (hts (.fieldLink RX0 22 "CosineSeries$RootSearch" "lookedAt" "I") (by decide +kernel)) (by first | rfl | simp [va_up, *]) dX0_run_60 ?_
            refine lv_iconst (v := nI 1) hx hb dX0_run_63 (by decide +kernel) ?_
            refine ziadd (d := (lo + 1)) hx hb (by omega) dX0_run_64 ?_
            refine zput (q := 27) (k := 4) (ty := .int) (E' := (zCE cL cR F T top (pv, rt, en, (k + 1), fs.length, (lo + 1)))) hx hb hts hinX0 tyX0 tyX0_ok nmX0 hown hAm hP hF hS (by omega) (zC_se) rfl (by decide) (hts (.fieldLink RX0 22 "CosineSeries$RootSearch" "lookedAt" "I") (by decide +kernel)) rfl rfl rfl rfl (Nat.le_of_ble_eq_true rfl) dX0_run_65 (zC_use) (fun H locs hP hS => ?_)
            refine lv_aload_n hx hb dX0_run_68 rfl (lv_at hl 0 rfl) ?_
            refine zcallV (As := []) (rest := []) (q := 27) (k := 0) hx hb hml hown hts (kX0_nextEnd l D cL cI cR A F hF T top pv rt en k fs.length (lo + 1) (by omega)) gX0_run_X0_nextEnd rfl (by decide +kernel) ⟨Nat.le_of_ble_eq_true rfl, Nat.le_of_ble_eq_true rfl⟩ rfl (by omega) (zC_se) rfl rfl hAm hP hS rfl hl.1 rfl (Nat.le_of_ble_eq_true rfl) dX0_run_69 ⟨Nat.zero_le _, Nat.zero_le _⟩ (zkn (fun H locs hP hS => ?_))
            refine W.eq (g2 := F0 m 72 ls [.long (en k)]) rfl ?_
            refine lv_lstore (lv' := [(6, .long (en k)), (0, .ref (F 27)), (1, .ref (F i)), (2, .long (zstp (T i) (top i))), (4, .long a)]) hx hb dX0_run_72 hl (by decide) rfl (fun ls hl => ?_)
            refine lv_lload hx hb dX0_run_74 (lv_at hl 4 rfl) ?_
            refine lv_lload hx hb dX0_run_76 (lv_at hl 0 rfl) ?_
            refine lv_ladd hx hb dX0_run_78 ?_
            refine lv_iconst (v := nI 2) hx hb dX0_run_79 (by decide +kernel) ?_
            refine zcallS (As := [.long (a + (en k)), .int (nI 2)]) (rest := []) (k := 2) hx hb hml hown hts (kJ9_floorDiv_b2ac5 l D cL cI cR A F 30 (zCE cL cR F T top (pv, rt, en, (k + 1), fs.length, (lo + 1))) (a + en k) (nI 2) (by decide)) gX0_run_J9_floorDiv_b2ac5 rfl (by decide +kernel) ⟨Nat.le_of_ble_eq_true rfl, Nat.le_of_ble_eq_true rfl⟩ hAm hP hS rfl hl.1 rfl (Nat.le_of_ble_eq_true rfl) dX0_run_80 ⟨Nat.zero_le _, Nat.zero_le _⟩ (zkn (fun H locs hP hS => ?_))
            refine W.eq (g2 := F0 m 83 ls [.long (zfl (a + en k) (nI 2).toInt64)]) rfl ?_
            refine W.eq (g2 := F0 m 83 ls [.long (zfl (a + en k) 2)]) (by rfl) ?_
            refine lv_lstore (lv' := [(8, .long (zfl (a + en k) 2)), (6, .long (en k)), (0, .ref (F 27)), (1, .ref (F i)), (2, .long (zstp (T i) (top i))), (4, .long a)]) hx hb dX0_run_83 hl (by decide) rfl (fun ls hl => ?_)
            refine lv_aload_n hx hb dX0_run_85 rfl (lv_at hl 3 rfl) ?_
            refine lv_lload_n hx hb dX0_run_86 rfl (lv_at hl 4 rfl) ?_
            refine lv_lload hx hb dX0_run_87 (lv_at hl 0 rfl) ?_
            refine lv_lload hx hb dX0_run_89 (lv_at hl 1 rfl) ?_
            refine lv_lload hx hb dX0_run_91 (lv_at hl 0 rfl) ?_
            refine lv_lsub hx hb dX0_run_93 ?_
            refine lv_lload hx hb dX0_run_94 (lv_at hl 0 rfl) ?_
            refine lv_lload hx hb dX0_run_96 (lv_at hl 5 rfl) ?_
            refine lv_lsub hx hb dX0_run_98 ?_
            refine va_mmax_long hx hb (hml.trans hl.1.symm) hown (hts (.methodLink RX0 50 Lib.MathLoose.max_long.x) (by decide +kernel)) (hts (.static Lib.MathLoose.max_long.x) (by decide +kernel)) (hts (.initialized "java/lang/Math") (by decide +kernel)) (hts (.code Lib.MathLoose.max_long.x Lib.MathLoose.max_long.code 4 (some .long)) (by decide +kernel)) (Nat.le_of_ble_eq_true rfl) (Nat.le_of_ble_eq_true rfl) (Nat.zero_le _) (Nat.zero_le _) dX0_run_99 ?_
            refine W.eq (g2 := F0 m 102 ls [.long (zmax ((en k) - (zfl (a + en k) 2)) ((zfl (a + en k) 2) - a)), .long (zfl (a + en k) 2), .long (zstp (T i) (top i)), .ref (F i)]) rfl ?_
            by_cases hfree : zfr (T i) (top i) a (en k) = true
            ·
              rw [if_pos hfree] at hsp
              refine zcallS (As := [.ref (F i), .long (zstp (T i) (top i)), .long (zfl (a + en k) 2), .long (zmax ((en k) - (zfl (a + en k) 2)) ((zfl (a + en k) 2) - a))]) (rest := []) (k := 4) hx hb hml hown hts (kX0_isFree l D cL cI cR A F hF T top pv rt en (k + 1) fs.length (lo + 1) i hi h48 (zstp (T i) (top i)) (zfl (a + en k) 2) (zmax (en k - (zfl (a + en k) 2)) ((zfl (a + en k) 2) - a)) 1 (by unfold zfr at hfree; unfold zbN; rw [if_pos (of_decide_eq_true hfree)])) gX0_run_X0_isFree rfl (by decide +kernel) ⟨Nat.le_of_ble_eq_true rfl, Nat.le_of_ble_eq_true rfl⟩ hAm hP hS rfl hl.1 rfl (Nat.le_of_ble_eq_true rfl) dX0_run_102 ⟨Nat.zero_le _, Nat.zero_le _⟩ (zkn (fun H locs hP hS => ?_))
              refine W.eq (g2 := F0 m 105 ls [.int (nI 1)]) rfl ?_
              refine lv_istore (lv' := [(10, .int (nI 1)), (8, .long (zfl (a + en k) 2)), (6, .long (en k)), (0, .ref (F 27)), (1, .ref (F i)), (2, .long (zstp (T i) (top i))), (4, .long a)]) hx hb dX0_run_105 hl (by decide) rfl (fun ls hl => ?_)
              refine lv_iload hx hb dX0_run_107 (lv_at hl 0 rfl) ?_
              refine zf_ne (tgt := 133) hx hb dX0_run_109 (by decide) (by omega) (fun c4 => ?_) (fun c4 => ?_)
              ·
                refine lv_iload hx hb dX0_run_133 (lv_at hl 0 rfl) ?_
                refine zf_ne (tgt := 146) hx hb dX0_run_135 (by decide) (by omega) (fun c5 => ?_) (fun c5 => ?_)
                ·
                  refine lv_aload_n hx hb dX0_run_146 rfl (lv_at hl 3 rfl) ?_
                  refine lv_dup hx hb dX0_run_147 rfl ?_
                  refine zget (q := 27) (k := 2) (v := .int (nI (k + 1))) hx hb hts hinX0 hown hAm hP (by omega) (zC_se) rfl (by decide) (hts (.fieldLink RX0 29 "CosineSeries$RootSearch" "waiting" "I") (by decide +kernel)) (by first | rfl | simp [va_up, *]) dX0_run_148 ?_
                  refine lv_iconst (v := nI 1) hx hb dX0_run_151 (by decide +kernel) ?_
                  refine zisub (d := k) hx hb (by omega) dX0_run_152 ?_
                  refine zput (q := 27) (k := 2) (ty := .int) (E' := (zCE cL cR F T top (pv, rt, en, k, fs.length, (lo + 1)))) hx hb hts hinX0 tyX0 tyX0_ok nmX0 hown hAm hP hF hS (by omega) (zC_se) rfl (by decide) (hts (.fieldLink RX0 29 "CosineSeries$RootSearch" "waiting" "I") (by decide +kernel)) rfl rfl rfl rfl (Nat.le_of_ble_eq_true rfl) dX0_run_153 (zC_use) (fun H locs hP hS => ?_)
                  refine lv_lload hx hb dX0_run_156 (lv_at hl 2 rfl) ?_
                  refine lv_lstore (lv' := [(4, .long (en k)), (10, .int (nI 1)), (8, .long (zfl (a + en k) 2)), (6, .long (en k)), (0, .ref (F 27)), (1, .ref (F i)), (2, .long (zstp (T i) (top i)))]) hx hb dX0_run_158 hl (by decide) rfl (fun ls hl => ?_)
                  refine lv_goto (tgt := 32) hx hb dX0_run_160 (by decide) ?_
                  exact ih32 u (en k) en k rt fs (lo + 1) (by omega) hsp hok.2.2.2 ⟨hrl, hrt⟩ (by omega) (by omega) H _ hP hS ls (lv_sub hl [4, 5, 6, 0] rfl)
                ·
                  exfalso; omega
              ·
                exfalso; omega
            ·
              rw [if_neg hfree] at hsp
              refine zcallS (As := [.ref (F i), .long (zstp (T i) (top i)), .long (zfl (a + en k) 2), .long (zmax ((en k) - (zfl (a + en k) 2)) ((zfl (a + en k) 2) - a))]) (rest := []) (k := 4) hx hb hml hown hts (kX0_isFree l D cL cI cR A F hF T top pv rt en (k + 1) fs.length (lo + 1) i hi h48 (zstp (T i) (top i)) (zfl (a + en k) 2) (zmax (en k - (zfl (a + en k) 2)) ((zfl (a + en k) 2) - a)) 0 (by unfold zfr at hfree; unfold zbN; rw [if_neg (fun h => hfree (decide_eq_true h))])) gX0_run_X0_isFree rfl (by decide +kernel) ⟨Nat.le_of_ble_eq_true rfl, Nat.le_of_ble_eq_true rfl⟩ hAm hP hS rfl hl.1 rfl (Nat.le_of_ble_eq_true rfl) dX0_run_102 ⟨Nat.zero_le _, Nat.zero_le _⟩ (zkn (fun H locs hP hS => ?_))
              refine W.eq (g2 := F0 m 105 ls [.int (nI 0)]) rfl ?_
              refine lv_istore (lv' := [(10, .int (nI 0)), (8, .long (zfl (a + en k) 2)), (6, .long (en k)), (0, .ref (F 27)), (1, .ref (F i)), (2, .long (zstp (T i) (top i))), (4, .long a)]) hx hb dX0_run_105 hl (by decide) rfl (fun ls hl => ?_)
              refine lv_iload hx hb dX0_run_107 (lv_at hl 0 rfl) ?_
              refine zf_ne (tgt := 133) hx hb dX0_run_109 (by decide) (by omega) (fun c6 => ?_) (fun c6 => ?_)
              ·
                exfalso; omega
              ·
                refine lv_lload hx hb dX0_run_112 (lv_at hl 2 rfl) ?_
                refine lv_lload hx hb dX0_run_114 (lv_at hl 6 rfl) ?_
                refine lv_lsub hx hb dX0_run_116 ?_
                refine lv_ldc2 hx hb hown (hts (.constantLong RX0 58 (16)) (by decide +kernel)) dX0_run_117 ?_
                refine zl_le (tgt := 133) hx hb dX0_run_120 dX0_run_121 (by decide) (fun c7 => ?_) (fun c7 => ?_)
                ·
                  rw [if_neg (Int64.not_lt.mpr c7)] at hsp
                  refine lv_iload hx hb dX0_run_133 (lv_at hl 0 rfl) ?_
                  refine zf_ne (tgt := 146) hx hb dX0_run_135 (by decide) (by omega) (fun c8 => ?_) (fun c8 => ?_)
                  ·
                    exfalso; omega
                  ·
                    refine lv_aload_n hx hb dX0_run_138 rfl (lv_at hl 3 rfl) ?_
                    refine lv_lload hx hb dX0_run_139 (lv_at hl 1 rfl) ?_
                    refine lv_lload hx hb dX0_run_141 (lv_at hl 6 rfl) ?_
                    by_cases hnear : znear fs a = true
                    ·
                      rw [if_pos hnear] at hsp
                      have hns : 0 < fs.length ∧ a - 16 ≤ rt (fs.length - 1) := by
                        cases fs with
                        | nil => exact absurd hnear (by simp [znear])
                        | cons r fs => exact ⟨by rw [List.length_cons]; omega, by rw [List.length_cons, Nat.add_sub_cancel, hrt.1]; exact of_decide_eq_true hnear⟩
                      refine zcallV (As := [.long (zfl (a + en k) 2), .long a]) (rest := []) (q := 27) (k := 2) hx hb hml hown hts (kX0_note_skip l D cL cI cR A F hF T top pv rt en (k + 1) fs.length (lo + 1) (zfl (a + en k) 2) a ⟨hns.1, by omega⟩ hns.2) gX0_run_X0_note rfl (by decide +kernel) ⟨Nat.le_of_ble_eq_true rfl, Nat.le_of_ble_eq_true rfl⟩ rfl (by omega) (zC_se) rfl rfl hAm hP hS rfl hl.1 rfl (Nat.le_of_ble_eq_true rfl) dX0_run_143 ⟨Nat.zero_le _, Nat.zero_le _⟩ (zkn (fun H locs hP hS => ?_))
                      refine W.eq (g2 := F0 m 146 ls []) rfl ?_
                      refine lv_aload_n hx hb dX0_run_146 rfl (lv_at hl 3 rfl) ?_
                      refine lv_dup hx hb dX0_run_147 rfl ?_
                      refine zget (q := 27) (k := 2) (v := .int (nI (k + 1))) hx hb hts hinX0 hown hAm hP (by omega) (zC_se) rfl (by decide) (hts (.fieldLink RX0 29 "CosineSeries$RootSearch" "waiting" "I") (by decide +kernel)) (by first | rfl | simp [va_up, *]) dX0_run_148 ?_
                      refine lv_iconst (v := nI 1) hx hb dX0_run_151 (by decide +kernel) ?_
                      refine zisub (d := k) hx hb (by omega) dX0_run_152 ?_
                      refine zput (q := 27) (k := 2) (ty := .int) (E' := (zCE cL cR F T top (pv, rt, en, k, fs.length, (lo + 1)))) hx hb hts hinX0 tyX0 tyX0_ok nmX0 hown hAm hP hF hS (by omega) (zC_se) rfl (by decide) (hts (.fieldLink RX0 29 "CosineSeries$RootSearch" "waiting" "I") (by decide +kernel)) rfl rfl rfl rfl (Nat.le_of_ble_eq_true rfl) dX0_run_153 (zC_use) (fun H locs hP hS => ?_)
                      refine lv_lload hx hb dX0_run_156 (lv_at hl 2 rfl) ?_
                      refine lv_lstore (lv' := [(4, .long (en k)), (10, .int (nI 0)), (8, .long (zfl (a + en k) 2)), (6, .long (en k)), (0, .ref (F 27)), (1, .ref (F i)), (2, .long (zstp (T i) (top i)))]) hx hb dX0_run_158 hl (by decide) rfl (fun ls hl => ?_)
                      refine lv_goto (tgt := 32) hx hb dX0_run_160 (by decide) ?_
                      exact ih32 u (en k) en k rt fs (lo + 1) (by omega) hsp hok.2.2.2 ⟨hrl, hrt⟩ (by omega) (by omega) H _ hP hS ls (lv_sub hl [4, 5, 6, 0] rfl)
                    ·
                      rw [if_neg hnear] at hsp
                      have hns : fs.length = 0 ∨ rt (fs.length - 1) < a - 16 := by
                        cases fs with
                        | nil => exact Or.inl rfl
                        | cons r fs => exact Or.inr (by rw [List.length_cons, Nat.add_sub_cancel, hrt.1]; exact Int64.not_le.mp (fun h => hnear (decide_eq_true h)))
                      refine zcallV (As := [.long (zfl (a + en k) 2), .long a]) (rest := []) (q := 27) (k := 2) hx hb hml hown hts (kX0_note_add l D cL cI cR A F hF T top pv rt en (k + 1) fs.length (lo + 1) (zfl (a + en k) 2) a (by omega) hns) gX0_run_X0_note rfl (by decide +kernel) ⟨Nat.le_of_ble_eq_true rfl, Nat.le_of_ble_eq_true rfl⟩ rfl (by omega) (zC_se) rfl rfl hAm hP hS rfl hl.1 rfl (Nat.le_of_ble_eq_true rfl) dX0_run_143 ⟨Nat.zero_le _, Nat.zero_le _⟩ (zkn (fun H locs hP hS => ?_))
                      refine W.eq (g2 := F0 m 146 ls []) rfl ?_
                      refine lv_aload_n hx hb dX0_run_146 rfl (lv_at hl 3 rfl) ?_
                      refine lv_dup hx hb dX0_run_147 rfl ?_
                      refine zget (q := 27) (k := 2) (v := .int (nI (k + 1))) hx hb hts hinX0 hown hAm hP (by omega) (zC_se) rfl (by decide) (hts (.fieldLink RX0 29 "CosineSeries$RootSearch" "waiting" "I") (by decide +kernel)) (by first | rfl | simp [va_up, *]) dX0_run_148 ?_
                      refine lv_iconst (v := nI 1) hx hb dX0_run_151 (by decide +kernel) ?_
                      refine zisub (d := k) hx hb (by omega) dX0_run_152 ?_
                      refine zput (q := 27) (k := 2) (ty := .int) (E' := (zCE cL cR F T top (pv, (vp_updL rt fs.length (zfl (a + en k) 2)), en, k, (fs.length + 1), (lo + 1)))) hx hb hts hinX0 tyX0 tyX0_ok nmX0 hown hAm hP hF hS (by omega) (zC_se) rfl (by decide) (hts (.fieldLink RX0 29 "CosineSeries$RootSearch" "waiting" "I") (by decide +kernel)) rfl rfl rfl rfl (Nat.le_of_ble_eq_true rfl) dX0_run_153 (zC_use) (fun H locs hP hS => ?_)
                      refine lv_lload hx hb dX0_run_156 (lv_at hl 2 rfl) ?_
                      refine lv_lstore (lv' := [(4, .long (en k)), (10, .int (nI 0)), (8, .long (zfl (a + en k) 2)), (6, .long (en k)), (0, .ref (F 27)), (1, .ref (F i)), (2, .long (zstp (T i) (top i)))]) hx hb dX0_run_158 hl (by decide) rfl (fun ls hl => ?_)
                      refine lv_goto (tgt := 32) hx hb dX0_run_160 (by decide) ?_
                      exact ih32 u (en k) en k (vp_updL rt fs.length (zfl (a + en k) 2)) ((zfl (a + en k) 2) :: fs) (lo + 1) (by omega) hsp hok.2.2.2 ⟨by rw [List.length_cons]; omega, by simp [vp_updL], zrts_up fs (Nat.le_refl _) hrt⟩ (by omega) (by omega) H _ hP hS ls (lv_sub hl [4, 5, 6, 0] rfl)
                ·
                  have hsp16 := Int64.not_le.mp c7
                  rw [if_pos hsp16] at hsp
                  have hspl := zok_split hok hsp16
                  have hadj : zadj (vp_updL en (k + 1) (zfl (a + en k) 2)) (k + 2) a = (a, (zfl (a + en k) 2)) :: ((zfl (a + en k) 2), en k) :: zadj en k (en k) := by
                    have e1 : vp_updL en (k + 1) (zfl (a + en k) 2) (k + 1) = (zfl (a + en k) 2) := by simp [vp_updL]
                    have e2 : vp_updL en (k + 1) (zfl (a + en k) 2) k = en k := by unfold vp_updL; rw [if_neg (by omega)]
                    rw [zadj, zadj, e1, e2, zadj_up _ _ _ _ _ (by omega)]
                  refine lv_aload_n hx hb dX0_run_124 rfl (lv_at hl 3 rfl) ?_
                  refine lv_lload hx hb dX0_run_125 (lv_at hl 1 rfl) ?_
                  refine zcallV (As := [.long (zfl (a + en k) 2)]) (rest := []) (q := 27) (k := 1) hx hb hml hown hts (kX0_push l D cL cI cR A F hF T top pv rt en (k + 1) fs.length (lo + 1) (by omega) (zfl (a + en k) 2)) gX0_run_X0_push rfl (by decide +kernel) ⟨Nat.le_of_ble_eq_true rfl, Nat.le_of_ble_eq_true rfl⟩ rfl (by omega) (zC_se) rfl rfl hAm hP hS rfl hl.1 rfl (Nat.le_of_ble_eq_true rfl) dX0_run_127 ⟨Nat.zero_le _, Nat.zero_le _⟩ (zkn (fun H locs hP hS => ?_))
                  refine W.eq (g2 := F0 m 130 ls []) rfl ?_
                  refine lv_goto (tgt := 160) hx hb dX0_run_130 (by decide) ?_
                  refine lv_goto (tgt := 32) hx hb dX0_run_160 (by decide) ?_
                  exact ih32 u a (vp_updL en (k + 1) (zfl (a + en k) 2)) (k + 2) rt fs (lo + 1) (by omega) (by rw [hadj]; exact hsp) (by rw [hadj]; exact hspl.1) ⟨hrl, hrt⟩ (by omega) (by omega) H _ hP hS ls (lv_sub hl [3, 4, 5, 6] rfl)
  exact L32 _ 2001 (-1048576) (vp_updL en 0 1048576) 1 rt [] 0 (by omega) rfl zok_0 ⟨by decide, trivial⟩ (by decide) (Nat.lt_succ_self _) H _ hP hS ls (lv_sub hl [2, 3, 1, 0] rfl)
end
section
/-! CosineSeries: the private methods -/
theorem zin_of {s : Int32} (h1 : ¬ s < 0) (h2 : ¬ nI 8 ≤ s) : zin 0 7 s := by
  rw [Int32.lt_iff_toInt_lt] at h1
  rw [Int32.le_iff_toInt_le] at h2
  have e1 : (0 : Int32).toInt = 0 := rfl
  have e2 : (nI 8).toInt = 8 := rfl
  rw [e1] at h1
  rw [e2] at h2
  exact ⟨by omega, by omega⟩
/-- the cosine of m sixteenths -/
def zhalf (m : Nat) : Nat := if 16 < m % 32 then 32 - m % 32 else m % 32
def zcosv (m : Nat) : Int32 := if zhalf m ≤ 8 then zcos (zhalf m) else -zcos (16 - zhalf m)
theorem zand31 {m : Nat} (h : m < 2147483648) : nI m &&& nI 31 = nI (m % 32) := pk_andN (by omega) 5 (by decide)
theorem zshl {p j : Nat} (hp : p ≤ 4) (hj : j ≤ 1000) : nI j <<< (nI (4 - p) &&& 31) = nI (j * 2 ^ (4 - p)) := by
  have h : p = 0 ∨ p = 1 ∨ p = 2 ∨ p = 3 ∨ p = 4 := by omega
  rcases h with rfl | rfl | rfl | rfl | rfl <;> exact pk_shlN _ _ (by decide) (by omega)
theorem zsh1 {p : Nat} (hp : p ≤ 4) : nI 1 <<< (nI p &&& 31) = nI (2 ^ p) := by
  have h : p = 0 ∨ p = 1 ∨ p = 2 ∨ p = 3 ∨ p = 4 := by omega
  rcases h with rfl | rfl | rfl | rfl | rfl <;> decide
theorem zp2 {p : Nat} (hp : p ≤ 4) : 1 ≤ 2 ^ p ∧ 2 ^ p ≤ 16 ∧ 1 ≤ 2 ^ (4 - p) ∧ 2 ^ (4 - p) ≤ 16 := by
  have h : p = 0 ∨ p = 1 ∨ p = 2 ∨ p = 3 ∨ p = 4 := by omega
  rcases h with rfl | rfl | rfl | rfl | rfl <;> decide
theorem zjk {j k : Nat} (hj : j ≤ 16) (hk : k ≤ 16) : j * k ≤ 256 := Nat.mul_le_mul hj hk
theorem zj4 {j p : Nat} (hj : j ≤ 256) (hp : p ≤ 4) : j * 2 ^ (4 - p) ≤ 4096 := Nat.le_trans (Nat.mul_le_mul hj (zp2 hp).2.2.2) (by decide)
/-- the sum for the coefficient k of an interpolation -/
def zcs (pv : Nat → Int64) (p k : Nat) : Nat → Int64
  | 0 => 0
  | m + 1 => zcs pv p k m + (if m = 0 ∨ m = 2 ^ p then 1 else 2) * pv m * (zcosv (m * k * 2 ^ (4 - p))).toInt64
/-- what is in the way of a new series; the answer; the state behind -/
def zke (f : Nat → Int64) : Int64 := zerr f (ztop f 48) 49
def zkr (f : Nat → Int64) : Int64 := if zke f = 0 then lN (ztop f 48) else zke f
def zkP (P : Nat → Nat → Int64) (t : Nat) (f : Nat → Int64) : Nat → Nat → Int64 := if zke f = 0 then va_up P t f else P
def zkN (n : Nat → Nat) (t : Nat) (f : Nat → Int64) : Nat → Nat := if zke f = 0 then va_up n t (ztop f 48) else n
theorem zend_keep {T P : Nat → Nat → Int64} {top n : Nat → Nat} {t : Nat} {f x : Nat → Int64} {y : Nat} (h : ∀ i, i < 8 → T i = P i ∧ top i = n i) : ∀ i, i < 8 → zkP (va_up T 8 x) t f i = zkP P t f i ∧ zkN (va_up top 8 y) t f i = zkN n t f i := by
  intro i hi
  unfold zkP zkN
  have h8 : ¬ i = 8 := by omega
  split
  · by_cases ht : i = t
    · simp [va_up, ht]
    · simp [va_up, ht, h8, h i hi]
  · simp [va_up, h8, h i hi]
/-- a public method's end: the answer r, the first eight series P' of the degrees n', the values pv' -/
def zPC (cL cR : ClassId) (F : Nat → Nat) (r : Int64) (P' : Nat → Nat → Int64) (n' : Nat → Nat) (pv' : Nat → Int64) : Option Value → (Nat → va_E) → Prop := fun v2 E2 => ∃ (T2 : Nat → Nat → Int64) (top2 : Nat → Nat) (Z2 : zZC), E2 = zCE cL cR F T2 top2 Z2 ∧ v2 = some (.long r) ∧ (∀ i, i < 8 → T2 i = P' i ∧ top2 i = n' i) ∧ ∀ j, j < 17 → Z2.1 j = pv' j
/-- a step of the composition: the product's fault, else the new series -/
def zst (p d : Nat → Int64) (fa c : Int64) : Nat → Int64 := vp_updL (zsum fa (-1) p d) 0 (zsum fa (-1) p d 0 + c)
def zste (p f : Nat → Int64) : Int64 := if zke p = 0 then zke f else zke p
/-- the composition from the coefficient k down: the fault, the series -/
def zcomp (cf cg : Nat → Int64) (ng : Nat) : Nat → (Nat → Int64) → Nat → (Nat → Int64) → Int64 × (Nat → Int64)
  | 0, b, nb, d => (zste (zprod cg ng b nb) (zst (zprod cg ng b nb) d 1 (cf 0)), zst (zprod cg ng b nb) d 1 (cf 0))
  | k + 1, b, nb, d =>
    if zste (zprod cg ng b nb) (zst (zprod cg ng b nb) d 2 (cf (k + 1))) = 0 then zcomp cf cg ng k (zst (zprod cg ng b nb) d 2 (cf (k + 1))) (ztop (zst (zprod cg ng b nb) d 2 (cf (k + 1))) 48) b
    else (zste (zprod cg ng b nb) (zst (zprod cg ng b nb) d 2 (cf (k + 1))), zst (zprod cg ng b nb) d 2 (cf (k + 1)))
theorem zke_24 {f : Nat → Int64} (h : zke f = 0) : ztop f 48 ≤ 24 := by
  unfold zke zerr at h
  by_cases h1 : 24 < ztop f 48
  · rw [if_pos h1] at h
    exact absurd h (by decide)
  · omega
theorem zup8 {α : Type} (T : Nat → α) (v : α) {i k : Nat} (h : ¬ i = k) : va_up T k v i = T i := by simp [va_up, h]

set_option maxHeartbeats 4000000 in
set_option maxRecDepth 100000 in
theorem kX2_find_in (l : Launch) (D : va_G) (cL cI cR : ClassId) (A : Nat → Prop) (F : Nat → Nat) (hF : zq_F A F 30) (T : Nat → Nat → Int64) (top : Nat → Nat) (Z : zZC) (s0 : Int32) (k : Nat) (hk : k ≤ 7) (hs : s0 = nI k) : zCt l yX2_find wsX2_find 0 0 D cL cI cR A F 30 (zCE cL cR F T top Z) [.ref (F 24), .int s0] (fun v2 E2 => v2 = (some (.ref (F k))) ∧ E2 = (zCE cL cR F T top Z)) := by
  refine zStart (cc := cX2_find) (maxL := 2) (ret := (some (.object "CosineSeries$Series"))) (by decide +kernel) rfl (Nat.le_of_ble_eq_true rfl) ?_
  intro p e s m below meth c hx hb hr hml hlk hown hts hAm H hP hS ls hl
  have hown : s.vm.findClass RX2 = some m.cls := hown
  have hl : lv_has ls 2 [(0, .ref (F 24)), (1, .int s0)] := hl
  have hinX2 : ∀ w ∈ u_ws RX2 TX2 7, w ∈ wsX2_find := by decide +kernel
  subst hs
  have hl : lv_has ls 2 [(0, .ref (F 24)), (1, .int (nI k))] := by exact hl
  refine lv_iload_n hx hb dX2_find_0 rfl (lv_at hl 1 rfl) ?_
  refine zf_lt (tgt := 22) hx hb dX2_find_1 (by decide) (by omega) ?_
  refine lv_iload_n hx hb dX2_find_4 rfl (lv_at hl 1 rfl) ?_
  refine lv_aload_n hx hb dX2_find_5 rfl (lv_at hl 0 rfl) ?_
  refine zget (q := 24) (k := 0) (v := .ref (F 25)) hx hb hts hinX2 hown hAm hP (by omega) (zC_o) rfl (by decide) (hts (.fieldLink RX2 11 "CosineSeries" "stored" "[LCosineSeries$Series;") (by decide +kernel)) (by first | rfl | simp [va_up, *]) dX2_find_6 ?_
  refine zalen (N := 8) (q := 25) (t0 := 2) hx hb hAm hP (by omega) (zC_st) rfl rfl dX2_find_9 ?_
  refine zi_ge (tgt := 22) hx hb dX2_find_10 (by decide) (by omega) (by omega) (fun c1 => ?_) (fun c1 => ?_)
  ·
    exfalso; omega
  ·
    refine lv_aload_n hx hb dX2_find_13 rfl (lv_at hl 0 rfl) ?_
    refine zget (q := 24) (k := 0) (v := .ref (F 25)) hx hb hts hinX2 hown hAm hP (by omega) (zC_o) rfl (by decide) (hts (.fieldLink RX2 11 "CosineSeries" "stored" "[LCosineSeries$Series;") (by decide +kernel)) (by first | rfl | simp [va_up, *]) dX2_find_14 ?_
    refine lv_iload_n hx hb dX2_find_17 rfl (lv_at hl 1 rfl) ?_
    refine zaald (q := 25) (k := k) (v := F k) hx hb hAm hP (by omega) (zC_st) (by omega) (by decide) rfl dX2_find_18 ?_
    refine lv_goto (tgt := 23) hx hb dX2_find_19 (by decide) ?_
    exact zretA hx hb hr (Or.inr ⟨_, rfl⟩) hlk hS hP dX2_find_23 ⟨rfl, rfl⟩

set_option maxHeartbeats 4000000 in
set_option maxRecDepth 100000 in
theorem kX2_find_out (l : Launch) (D : va_G) (cL cI cR : ClassId) (A : Nat → Prop) (F : Nat → Nat) (hF : zq_F A F 30) (T : Nat → Nat → Int64) (top : Nat → Nat) (Z : zZC) (s0 : Int32) (hs : ¬ zin 0 7 s0) : zCt l yX2_find wsX2_find 0 0 D cL cI cR A F 30 (zCE cL cR F T top Z) [.ref (F 24), .int s0] (fun v2 E2 => v2 = (some .null) ∧ E2 = (zCE cL cR F T top Z)) := by
  refine zStart (cc := cX2_find) (maxL := 2) (ret := (some (.object "CosineSeries$Series"))) (by decide +kernel) rfl (Nat.le_of_ble_eq_true rfl) ?_
  intro p e s m below meth c hx hb hr hml hlk hown hts hAm H hP hS ls hl
  have hown : s.vm.findClass RX2 = some m.cls := hown
  have hl : lv_has ls 2 [(0, .ref (F 24)), (1, .int s0)] := hl
  have hinX2 : ∀ w ∈ u_ws RX2 TX2 7, w ∈ wsX2_find := by decide +kernel
  refine lv_iload_n hx hb dX2_find_0 rfl (lv_at hl 1 rfl) ?_
  refine lv_if_lt (tgt := 22) hx hb dX2_find_1 (by decide) (fun c1 => ?_) (fun c1 => ?_)
  ·
    refine lv_null hx hb dX2_find_22 ?_
    exact zretA hx hb hr (Or.inl rfl) hlk hS hP dX2_find_23 ⟨rfl, rfl⟩
  ·
    refine lv_iload_n hx hb dX2_find_4 rfl (lv_at hl 1 rfl) ?_
    refine lv_aload_n hx hb dX2_find_5 rfl (lv_at hl 0 rfl) ?_
    refine zget (q := 24) (k := 0) (v := .ref (F 25)) hx hb hts hinX2 hown hAm hP (by omega) (zC_o) rfl (by decide) (hts (.fieldLink RX2 11 "CosineSeries" "stored" "[LCosineSeries$Series;") (by decide +kernel)) (by first | rfl | simp [va_up, *]) dX2_find_6 ?_
    refine zalen (N := 8) (q := 25) (t0 := 2) hx hb hAm hP (by omega) (zC_st) rfl rfl dX2_find_9 ?_
    refine lv_icmp_ge (tgt := 22) hx hb dX2_find_10 (by decide) (fun c2 => ?_) (fun c2 => ?_)
    ·
      refine lv_null hx hb dX2_find_22 ?_
      exact zretA hx hb hr (Or.inl rfl) hlk hS hP dX2_find_23 ⟨rfl, rfl⟩
    ·
      exact absurd (zin_of c1 c2) hs

set_option maxHeartbeats 4000000 in
set_option maxRecDepth 100000 in
theorem kX2_cosine (l : Launch) (D : va_G) (cL cI cR : ClassId) (A : Nat → Prop) (F : Nat → Nat) (n : Nat) (E : Nat → va_E) (m0 : Nat) (hm0 : m0 < 100000) : zCt l yX2_cosine wsX2_cosine 1 22 D cL cI cR A F n E [.int (nI m0)] (fun v2 E2 => v2 = (some (.int (zcosv m0))) ∧ E2 = E) := by
  refine zStart (cc := cX2_cosine) (maxL := 3) (ret := (some .int)) (by decide +kernel) rfl (Nat.le_of_ble_eq_true rfl) ?_
  intro p e s m below meth c hx hb hr hml hlk hown hts hAm H hP hS ls hl
  have hown : s.vm.findClass RX2 = some m.cls := hown
  have hl : lv_has ls 3 [(0, .int (nI m0))] := hl
  refine lv_iload_n hx hb dX2_cosine_0 rfl (lv_at hl 0 rfl) ?_
  refine lv_bipush (v := nI 31) hx hb dX2_cosine_1 (by decide +kernel) ?_
  refine lv_iand hx hb dX2_cosine_3 ?_
  refine W.eq (g2 := F0 m 4 ls [.int (nI (m0 % 32))]) (by rw [zand31 (by omega)]) ?_
  refine lv_istore_n (lv' := [(1, .int (nI (m0 % 32))), (0, .int (nI m0))]) hx hb dX2_cosine_4 rfl hl (by decide) rfl (fun ls hl => ?_)
  refine lv_iload_n hx hb dX2_cosine_5 rfl (lv_at hl 0 rfl) ?_
  refine lv_bipush (v := nI 16) hx hb dX2_cosine_6 (by decide +kernel) ?_
  refine zi_le (tgt := 18) hx hb dX2_cosine_8 (by decide) (by omega) (by omega) (fun c1 => ?_) (fun c1 => ?_)
  ·
    have hh : zhalf m0 = m0 % 32 := by unfold zhalf; rw [if_neg (by omega)]
    refine lv_iload_n hx hb dX2_cosine_18 rfl (lv_at hl 0 rfl) ?_
    refine lv_istore_n (lv' := [(2, .int (nI (m0 % 32))), (1, .int (nI (m0 % 32))), (0, .int (nI m0))]) hx hb dX2_cosine_19 rfl hl (by decide) rfl (fun ls hl => ?_)
    refine lv_iload_n hx hb dX2_cosine_20 rfl (lv_at hl 0 rfl) ?_
    refine lv_iconst (v := nI 0) hx hb dX2_cosine_21 (by decide +kernel) ?_
    refine lv_bipush (v := nI 16) hx hb dX2_cosine_22 (by decide +kernel) ?_
    refine zcallS (As := [.int (nI (m0 % 32)), .int (nI 0), .int (nI 16)]) (rest := []) (k := 3) hx hb hml hown hts (kX2_isOutside l D cL cI cR A F n E (nI (m0 % 32)) (nI 0) (nI 16) 0 (zo0 rfl rfl (zin_nI (a := 16) (by omega) (by decide)))) gX2_cosine_X2_isOutside rfl (by decide +kernel) ⟨Nat.le_of_ble_eq_true rfl, Nat.le_of_ble_eq_true rfl⟩ hAm hP hS rfl hl.1 rfl (Nat.le_of_ble_eq_true rfl) dX2_cosine_24 ⟨Nat.zero_le _, Nat.zero_le _⟩ (zkn (fun H locs hP hS => ?_))
    refine W.eq (g2 := F0 m 27 ls [.int (nI 0)]) rfl ?_
    refine zf_eq (tgt := 32) hx hb dX2_cosine_27 (by decide) (by omega) (fun c2 => ?_) (fun c2 => ?_)
    ·
      refine lv_iload_n hx hb dX2_cosine_32 rfl (lv_at hl 0 rfl) ?_
      refine lv_bipush (v := nI 8) hx hb dX2_cosine_33 (by decide +kernel) ?_
      refine zi_gt (tgt := 46) hx hb dX2_cosine_35 (by decide) (by omega) (by omega) (fun c3 => ?_) (fun c3 => ?_)
      ·
        obtain ⟨tk, hZk, hTk⟩ := hAm.2.2.2
        refine va_gets hx hb hZk hS hown (hts (.fieldLink RX2 173 "CosineSeries" "COSINES" "[I") (by decide +kernel)) (fun _ h => h) dX2_cosine_46 ?_
        refine lv_bipush (v := nI 16) hx hb dX2_cosine_49 (by decide +kernel) ?_
        refine lv_iload_n hx hb dX2_cosine_51 rfl (lv_at hl 0 rfl) ?_
        refine zisub (d := (16 - (m0 % 32))) hx hb (by omega) dX2_cosine_52 ?_
        refine va_ti (v := .int (zcos (16 - (m0 % 32)))) hx hb hTk hS (vp_in_nI (by omega) (by decide)) (by rw [nI_clamp (by omega)]) dX2_cosine_53 ?_
        refine lv_ineg hx hb dX2_cosine_54 ?_
        exact zretI hx hb hr hlk hS hP dX2_cosine_55 ⟨by unfold zcosv; rw [hh]; first | rw [if_pos (by omega)] | rw [if_neg (by omega)], rfl⟩
      ·
        obtain ⟨tk, hZk, hTk⟩ := hAm.2.2.2
        refine va_gets hx hb hZk hS hown (hts (.fieldLink RX2 173 "CosineSeries" "COSINES" "[I") (by decide +kernel)) (fun _ h => h) dX2_cosine_38 ?_
        refine lv_iload_n hx hb dX2_cosine_41 rfl (lv_at hl 0 rfl) ?_
        refine va_ti (v := .int (zcos (m0 % 32))) hx hb hTk hS (vp_in_nI (by omega) (by decide)) (by rw [nI_clamp (by omega)]) dX2_cosine_42 ?_
        refine lv_goto (tgt := 55) hx hb dX2_cosine_43 (by decide) ?_
        exact zretI hx hb hr hlk hS hP dX2_cosine_55 ⟨by unfold zcosv; rw [hh]; first | rw [if_pos (by omega)] | rw [if_neg (by omega)], rfl⟩
    ·
      exfalso; omega
  ·
    have hh : zhalf m0 = 32 - m0 % 32 := by unfold zhalf; rw [if_pos (by omega)]
    refine lv_bipush (v := nI 32) hx hb dX2_cosine_11 (by decide +kernel) ?_
    refine lv_iload_n hx hb dX2_cosine_13 rfl (lv_at hl 0 rfl) ?_
    refine zisub (d := (32 - (m0 % 32))) hx hb (by omega) dX2_cosine_14 ?_
    refine lv_goto (tgt := 19) hx hb dX2_cosine_15 (by decide) ?_
    refine lv_istore_n (lv' := [(2, .int (nI (32 - (m0 % 32)))), (1, .int (nI (m0 % 32))), (0, .int (nI m0))]) hx hb dX2_cosine_19 rfl hl (by decide) rfl (fun ls hl => ?_)
    refine lv_iload_n hx hb dX2_cosine_20 rfl (lv_at hl 0 rfl) ?_
    refine lv_iconst (v := nI 0) hx hb dX2_cosine_21 (by decide +kernel) ?_
    refine lv_bipush (v := nI 16) hx hb dX2_cosine_22 (by decide +kernel) ?_
    refine zcallS (As := [.int (nI (32 - (m0 % 32))), .int (nI 0), .int (nI 16)]) (rest := []) (k := 3) hx hb hml hown hts (kX2_isOutside l D cL cI cR A F n E (nI (32 - m0 % 32)) (nI 0) (nI 16) 0 (zo0 rfl rfl (zin_nI (a := 16) (by omega) (by decide)))) gX2_cosine_X2_isOutside rfl (by decide +kernel) ⟨Nat.le_of_ble_eq_true rfl, Nat.le_of_ble_eq_true rfl⟩ hAm hP hS rfl hl.1 rfl (Nat.le_of_ble_eq_true rfl) dX2_cosine_24 ⟨Nat.zero_le _, Nat.zero_le _⟩ (zkn (fun H locs hP hS => ?_))
    refine W.eq (g2 := F0 m 27 ls [.int (nI 0)]) rfl ?_
    refine zf_eq (tgt := 32) hx hb dX2_cosine_27 (by decide) (by omega) (fun c4 => ?_) (fun c4 => ?_)
    ·
      refine lv_iload_n hx hb dX2_cosine_32 rfl (lv_at hl 0 rfl) ?_
      refine lv_bipush (v := nI 8) hx hb dX2_cosine_33 (by decide +kernel) ?_
      refine zi_gt (tgt := 46) hx hb dX2_cosine_35 (by decide) (by omega) (by omega) (fun c5 => ?_) (fun c5 => ?_)
      ·
        obtain ⟨tk, hZk, hTk⟩ := hAm.2.2.2
        refine va_gets hx hb hZk hS hown (hts (.fieldLink RX2 173 "CosineSeries" "COSINES" "[I") (by decide +kernel)) (fun _ h => h) dX2_cosine_46 ?_
        refine lv_bipush (v := nI 16) hx hb dX2_cosine_49 (by decide +kernel) ?_
        refine lv_iload_n hx hb dX2_cosine_51 rfl (lv_at hl 0 rfl) ?_
        refine zisub (d := (16 - (32 - (m0 % 32)))) hx hb (by omega) dX2_cosine_52 ?_
        refine va_ti (v := .int (zcos (16 - (32 - (m0 % 32))))) hx hb hTk hS (vp_in_nI (by omega) (by decide)) (by rw [nI_clamp (by omega)]) dX2_cosine_53 ?_
        refine lv_ineg hx hb dX2_cosine_54 ?_
        exact zretI hx hb hr hlk hS hP dX2_cosine_55 ⟨by unfold zcosv; rw [hh]; first | rw [if_pos (by omega)] | rw [if_neg (by omega)], rfl⟩
      ·
        obtain ⟨tk, hZk, hTk⟩ := hAm.2.2.2
        refine va_gets hx hb hZk hS hown (hts (.fieldLink RX2 173 "CosineSeries" "COSINES" "[I") (by decide +kernel)) (fun _ h => h) dX2_cosine_38 ?_
        refine lv_iload_n hx hb dX2_cosine_41 rfl (lv_at hl 0 rfl) ?_
        refine va_ti (v := .int (zcos (32 - (m0 % 32)))) hx hb hTk hS (vp_in_nI (by omega) (by decide)) (by rw [nI_clamp (by omega)]) dX2_cosine_42 ?_
        refine lv_goto (tgt := 55) hx hb dX2_cosine_43 (by decide) ?_
        exact zretI hx hb hr hlk hS hP dX2_cosine_55 ⟨by unfold zcosv; rw [hh]; first | rw [if_pos (by omega)] | rw [if_neg (by omega)], rfl⟩
    ·
      exfalso; omega

set_option maxHeartbeats 4000000 in
set_option maxRecDepth 100000 in
theorem kX2_pointAt (l : Launch) (D : va_G) (cL cI cR : ClassId) (A : Nat → Prop) (F : Nat → Nat) (n : Nat) (E : Nat → va_E) (p0 j0 : Nat) (hp : p0 ≤ 4) (hj : j0 ≤ 256) : zCt l yX2_pointAt wsX2_pointAt 2 44 D cL cI cR A F n E [.int (nI p0), .int (nI j0)] (fun v2 E2 => v2 = (some (.int (zcosv (j0 * 2 ^ (4 - p0))))) ∧ E2 = E) := by
  refine zStart (cc := cX2_pointAt) (maxL := 2) (ret := (some .int)) (by decide +kernel) rfl (Nat.le_of_ble_eq_true rfl) ?_
  intro p e s m below meth c hx hb hr hml hlk hown hts hAm H hP hS ls hl
  have hown : s.vm.findClass RX2 = some m.cls := hown
  have hl : lv_has ls 2 [(0, .int (nI p0)), (1, .int (nI j0))] := hl
  refine lv_iload_n hx hb dX2_pointAt_0 rfl (lv_at hl 1 rfl) ?_
  refine lv_iconst (v := nI 4) hx hb dX2_pointAt_1 (by decide +kernel) ?_
  refine lv_iload_n hx hb dX2_pointAt_2 rfl (lv_at hl 0 rfl) ?_
  refine zisub (d := (4 - p0)) hx hb (by omega) dX2_pointAt_3 ?_
  refine lv_ishl hx hb dX2_pointAt_4 ?_
  refine W.eq (g2 := F0 m 5 ls [.int (nI (j0 * 2 ^ (4 - p0)))]) (by rw [zshl hp (by omega)]) ?_
  refine zcallS (As := [.int (nI (j0 * 2 ^ (4 - p0)))]) (rest := []) (k := 1) hx hb hml hown hts (kX2_cosine l D cL cI cR A F n E (j0 * 2 ^ (4 - p0)) (by have := zj4 hj hp; omega)) gX2_pointAt_X2_cosine rfl (by decide +kernel) ⟨Nat.le_of_ble_eq_true rfl, Nat.le_of_ble_eq_true rfl⟩ hAm hP hS rfl hl.1 rfl (Nat.le_of_ble_eq_true rfl) dX2_pointAt_5 ⟨Nat.zero_le _, Nat.zero_le _⟩ (zkn (fun H locs hP hS => ?_))
  refine W.eq (g2 := F0 m 8 ls [.int (zcosv (j0 * 2 ^ (4 - p0)))]) rfl ?_
  exact zretI hx hb hr hlk hS hP dX2_pointAt_8 ⟨rfl, rfl⟩

set_option maxHeartbeats 4000000 in
set_option maxRecDepth 100000 in
theorem kX2_cosineSum (l : Launch) (D : va_G) (cL cI cR : ClassId) (A : Nat → Prop) (F : Nat → Nat) (hF : zq_F A F 30) (T : Nat → Nat → Int64) (top : Nat → Nat) (pv rt en : Nat → Int64) (w co lo : Nat) (p0 k0 : Nat) (hp : p0 ≤ 4) (hk : k0 ≤ 16) : zCt l yX2_cosineSum wsX2_cosineSum 3 65 D cL cI cR A F 30 (zCE cL cR F T top (pv, rt, en, w, co, lo)) [.ref (F 24), .int (nI p0), .int (nI k0)] (fun v2 E2 => v2 = (some (.long (zcs pv p0 k0 (2 ^ p0 + 1)))) ∧ E2 = (zCE cL cR F T top (pv, rt, en, w, co, lo))) := by
  refine zStart (cc := cX2_cosineSum) (maxL := 8) (ret := (some .long)) (by decide +kernel) rfl (Nat.le_of_ble_eq_true rfl) ?_
  intro p e s m below meth c hx hb hr hml hlk hown hts hAm H hP hS ls hl
  have hown : s.vm.findClass RX2 = some m.cls := hown
  have hl : lv_has ls 8 [(0, .ref (F 24)), (1, .int (nI p0)), (2, .int (nI k0))] := hl
  have hinX2 : ∀ w ∈ u_ws RX2 TX2 7, w ∈ wsX2_cosineSum := by decide +kernel
  have h2p := zp2 hp
  refine lv_iconst (v := nI 1) hx hb dX2_cosineSum_0 (by decide +kernel) ?_
  refine lv_iload_n hx hb dX2_cosineSum_1 rfl (lv_at hl 1 rfl) ?_
  refine lv_ishl hx hb dX2_cosineSum_2 ?_
  refine W.eq (g2 := F0 m 3 ls [.int (nI (2 ^ p0))]) (by rw [zsh1 hp]) ?_
  refine lv_istore_n (lv' := [(3, .int (nI (2 ^ p0))), (0, .ref (F 24)), (1, .int (nI p0)), (2, .int (nI k0))]) hx hb dX2_cosineSum_3 rfl hl (by decide) rfl (fun ls hl => ?_)
  refine lv_lconst (v := (0 : Int64)) hx hb dX2_cosineSum_4 (by decide +kernel) ?_
  refine lv_lstore (lv' := [(4, .long (0 : Int64)), (3, .int (nI (2 ^ p0))), (0, .ref (F 24)), (1, .int (nI p0)), (2, .int (nI k0))]) hx hb dX2_cosineSum_5 hl (by decide) rfl (fun ls hl => ?_)
  refine lv_iconst (v := nI 0) hx hb dX2_cosineSum_7 (by decide +kernel) ?_
  refine lv_istore (lv' := [(6, .int (nI 0)), (4, .long (0 : Int64)), (3, .int (nI (2 ^ p0))), (0, .ref (F 24)), (1, .int (nI p0)), (2, .int (nI k0))]) hx hb dX2_cosineSum_8 hl (by decide) rfl (fun ls hl => ?_)
  have L10 : ∀ (n : Nat) (q : Nat) (u : Int64) (hq : q ≤ 2 ^ p0 + 1) (hu : u = zcs pv p0 k0 q) (hn : 2 ^ p0 + 1 - q < n) (H : Heap) (locs : List Loc), va_P D vwCl (zq_wd F 30 (zCE cL cR F T top (pv, rt, en, w, co, lo))) H → va_S A s.heap H locs → ∀ (ls : Array Slot), lv_has ls 8 [(0, .ref (F 24)), (1, .int (nI p0)), (2, .int (nI k0)), (3, .int (nI (2 ^ p0))), (4, .long u), (6, .int (nI q))] → W p l e ({ frames := 3, cells := 0, slots := 0, locals := 65 }) s m ([.ref (F 24), .int (nI p0), .int (nI k0)] : List Value).toArray below meth c H locs 0 0 (zQ below D A F 30 [.ref (F 24), .int (nI p0), .int (nI k0)] s (fun v2 E2 => v2 = (some (.long (zcs pv p0 k0 (2 ^ p0 + 1)))) ∧ E2 = (zCE cL cR F T top (pv, rt, en, w, co, lo)))) (F0 m 10 ls []) := by
    intro n
    induction n with
    | zero =>
      intro q u hq hu hn
      exact absurd hn (Nat.not_lt_zero _)
    | succ n ih10 =>
      intro q u hq hu hn H locs hP hS ls hl
      refine lv_iload hx hb dX2_cosineSum_10 (lv_at hl 5 rfl) ?_
      refine lv_iload_n hx hb dX2_cosineSum_12 rfl (lv_at hl 3 rfl) ?_
      refine zi_gt (tgt := 76) hx hb dX2_cosineSum_13 (by decide) (by omega) (by omega) (fun c1 => ?_) (fun c1 => ?_)
      ·
        refine lv_lload hx hb dX2_cosineSum_76 (lv_at hl 4 rfl) ?_
        exact zretL hx hb hr hlk hS hP dX2_cosineSum_78 ⟨by rw [hu, show q = 2 ^ p0 + 1 by omega], rfl⟩
      ·
        have hqk := zjk (j := q) (k := k0) (by omega) hk
        refine lv_iload hx hb dX2_cosineSum_16 (lv_at hl 5 rfl) ?_
        refine lv_aload_n hx hb dX2_cosineSum_18 rfl (lv_at hl 0 rfl) ?_
        refine zget (q := 24) (k := 1) (v := .ref (F 26)) hx hb hts hinX2 hown hAm hP (by omega) (zC_o) rfl (by decide) (hts (.fieldLink RX2 15 "CosineSeries" "pointValues" "[J") (by decide +kernel)) (by first | rfl | simp [va_up, *]) dX2_cosineSum_19 ?_
        refine zalen (N := 17) (q := 26) (t0 := 0) hx hb hAm hP (by omega) (zC_pv) rfl rfl dX2_cosineSum_22 ?_
        refine zi_ge (tgt := 76) hx hb dX2_cosineSum_23 (by decide) (by omega) (by omega) (fun c2 => ?_) (fun c2 => ?_)
        ·
          exfalso; omega
        ·
          refine lv_iload hx hb dX2_cosineSum_26 (lv_at hl 5 rfl) ?_
          refine zf_eq (tgt := 37) hx hb dX2_cosineSum_28 (by decide) (by omega) (fun c3 => ?_) (fun c3 => ?_)
          ·
            refine lv_iconst (v := nI 1) hx hb dX2_cosineSum_37 (by decide +kernel) ?_
            refine lv_goto (tgt := 42) hx hb dX2_cosineSum_38 (by decide) ?_
            refine lv_istore (lv' := [(7, .int (nI 1)), (0, .ref (F 24)), (1, .int (nI p0)), (2, .int (nI k0)), (3, .int (nI (2 ^ p0))), (4, .long u), (6, .int (nI q))]) hx hb dX2_cosineSum_42 hl (by decide) rfl (fun ls hl => ?_)
            refine lv_lload hx hb dX2_cosineSum_44 (lv_at hl 5 rfl) ?_
            refine lv_iload hx hb dX2_cosineSum_46 (lv_at hl 0 rfl) ?_
            refine zi2l hx hb (by omega) dX2_cosineSum_48 ?_
            refine lv_aload_n hx hb dX2_cosineSum_49 rfl (lv_at hl 1 rfl) ?_
            refine zget (q := 24) (k := 1) (v := .ref (F 26)) hx hb hts hinX2 hown hAm hP (by omega) (zC_o) rfl (by decide) (hts (.fieldLink RX2 15 "CosineSeries" "pointValues" "[J") (by decide +kernel)) (by first | rfl | simp [va_up, *]) dX2_cosineSum_50 ?_
            refine lv_iload hx hb dX2_cosineSum_53 (lv_at hl 6 rfl) ?_
            refine zlald (q := 26) (k := q) (v := (pv q)) hx hb hAm hP (by omega) (zC_pv) (by omega) (by decide) (by first | rfl | simp [va_up, *]) dX2_cosineSum_55 ?_
            refine lv_lmul hx hb dX2_cosineSum_56 ?_
            refine lv_iload_n hx hb dX2_cosineSum_57 rfl (lv_at hl 2 rfl) ?_
            refine lv_iload hx hb dX2_cosineSum_58 (lv_at hl 6 rfl) ?_
            refine lv_iload_n hx hb dX2_cosineSum_60 rfl (lv_at hl 3 rfl) ?_
            refine zimul (d := (q * k0)) hx hb rfl dX2_cosineSum_61 ?_
            refine zcallS (As := [.int (nI p0), .int (nI (q * k0))]) (rest := [.long ((lN 1) * (pv q)), .long u]) (k := 2) hx hb hml hown hts (kX2_pointAt l D cL cI cR A F 30 (zCE cL cR F T top (pv, rt, en, w, co, lo)) p0 (q * k0) hp (by omega)) gX2_cosineSum_X2_pointAt rfl (by decide +kernel) ⟨Nat.le_of_ble_eq_true rfl, Nat.le_of_ble_eq_true rfl⟩ hAm hP hS rfl hl.1 rfl (Nat.le_of_ble_eq_true rfl) dX2_cosineSum_62 ⟨Nat.zero_le _, Nat.zero_le _⟩ (zkn (fun H locs hP hS => ?_))
            refine W.eq (g2 := F0 m 65 ls [.int (zcosv (q * k0 * 2 ^ (4 - p0))), .long ((lN 1) * (pv q)), .long u]) rfl ?_
            refine lv_i2l (v := (zcosv (q * k0 * 2 ^ (4 - p0))).toInt64) hx hb dX2_cosineSum_65 rfl ?_
            refine lv_lmul hx hb dX2_cosineSum_66 ?_
            refine lv_ladd hx hb dX2_cosineSum_67 ?_
            refine lv_lstore (lv' := [(4, .long (u + (((lN 1) * (pv q)) * ((zcosv (q * k0 * 2 ^ (4 - p0))).toInt64)))), (7, .int (nI 1)), (0, .ref (F 24)), (1, .int (nI p0)), (2, .int (nI k0)), (3, .int (nI (2 ^ p0))), (6, .int (nI q))]) hx hb dX2_cosineSum_68 hl (by decide) rfl (fun ls hl => ?_)
            refine lv_iinc (v := (nI (q + 1))) (lv' := [(6, .int (nI (q + 1))), (4, .long (u + (((lN 1) * (pv q)) * ((zcosv (q * k0 * 2 ^ (4 - p0))).toInt64)))), (7, .int (nI 1)), (0, .ref (F 24)), (1, .int (nI p0)), (2, .int (nI k0)), (3, .int (nI (2 ^ p0)))]) hx hb dX2_cosineSum_70 hl (k := 6) rfl (zinc (by omega)) (by decide) rfl (fun ls hl => ?_)
            refine lv_goto (tgt := 10) hx hb dX2_cosineSum_73 (by decide) ?_
            exact ih10 (q + 1) (u + (((lN 1) * (pv q)) * ((zcosv (q * k0 * 2 ^ (4 - p0))).toInt64))) (by omega) (by rw [hu]; simp only [zcs]; (first | rw [if_pos (by omega)] | rw [if_neg (by omega)]) <;> rfl) (by omega) H _ hP hS ls (lv_sub hl [3, 4, 5, 6, 1, 0] rfl)
          ·
            refine lv_iload hx hb dX2_cosineSum_31 (lv_at hl 5 rfl) ?_
            refine lv_iload_n hx hb dX2_cosineSum_33 rfl (lv_at hl 3 rfl) ?_
            refine zi_ne (tgt := 41) hx hb dX2_cosineSum_34 (by decide) (by omega) (by omega) (fun c4 => ?_) (fun c4 => ?_)
            ·
              refine lv_iconst (v := nI 2) hx hb dX2_cosineSum_41 (by decide +kernel) ?_
              refine lv_istore (lv' := [(7, .int (nI 2)), (0, .ref (F 24)), (1, .int (nI p0)), (2, .int (nI k0)), (3, .int (nI (2 ^ p0))), (4, .long u), (6, .int (nI q))]) hx hb dX2_cosineSum_42 hl (by decide) rfl (fun ls hl => ?_)
              refine lv_lload hx hb dX2_cosineSum_44 (lv_at hl 5 rfl) ?_
              refine lv_iload hx hb dX2_cosineSum_46 (lv_at hl 0 rfl) ?_
              refine zi2l hx hb (by omega) dX2_cosineSum_48 ?_
              refine lv_aload_n hx hb dX2_cosineSum_49 rfl (lv_at hl 1 rfl) ?_
              refine zget (q := 24) (k := 1) (v := .ref (F 26)) hx hb hts hinX2 hown hAm hP (by omega) (zC_o) rfl (by decide) (hts (.fieldLink RX2 15 "CosineSeries" "pointValues" "[J") (by decide +kernel)) (by first | rfl | simp [va_up, *]) dX2_cosineSum_50 ?_
              refine lv_iload hx hb dX2_cosineSum_53 (lv_at hl 6 rfl) ?_
              refine zlald (q := 26) (k := q) (v := (pv q)) hx hb hAm hP (by omega) (zC_pv) (by omega) (by decide) (by first | rfl | simp [va_up, *]) dX2_cosineSum_55 ?_
              refine lv_lmul hx hb dX2_cosineSum_56 ?_
              refine lv_iload_n hx hb dX2_cosineSum_57 rfl (lv_at hl 2 rfl) ?_
              refine lv_iload hx hb dX2_cosineSum_58 (lv_at hl 6 rfl) ?_
              refine lv_iload_n hx hb dX2_cosineSum_60 rfl (lv_at hl 3 rfl) ?_
              refine zimul (d := (q * k0)) hx hb rfl dX2_cosineSum_61 ?_
              refine zcallS (As := [.int (nI p0), .int (nI (q * k0))]) (rest := [.long ((lN 2) * (pv q)), .long u]) (k := 2) hx hb hml hown hts (kX2_pointAt l D cL cI cR A F 30 (zCE cL cR F T top (pv, rt, en, w, co, lo)) p0 (q * k0) hp (by omega)) gX2_cosineSum_X2_pointAt rfl (by decide +kernel) ⟨Nat.le_of_ble_eq_true rfl, Nat.le_of_ble_eq_true rfl⟩ hAm hP hS rfl hl.1 rfl (Nat.le_of_ble_eq_true rfl) dX2_cosineSum_62 ⟨Nat.zero_le _, Nat.zero_le _⟩ (zkn (fun H locs hP hS => ?_))
              refine W.eq (g2 := F0 m 65 ls [.int (zcosv (q * k0 * 2 ^ (4 - p0))), .long ((lN 2) * (pv q)), .long u]) rfl ?_
              refine lv_i2l (v := (zcosv (q * k0 * 2 ^ (4 - p0))).toInt64) hx hb dX2_cosineSum_65 rfl ?_
              refine lv_lmul hx hb dX2_cosineSum_66 ?_
              refine lv_ladd hx hb dX2_cosineSum_67 ?_
              refine lv_lstore (lv' := [(4, .long (u + (((lN 2) * (pv q)) * ((zcosv (q * k0 * 2 ^ (4 - p0))).toInt64)))), (7, .int (nI 2)), (0, .ref (F 24)), (1, .int (nI p0)), (2, .int (nI k0)), (3, .int (nI (2 ^ p0))), (6, .int (nI q))]) hx hb dX2_cosineSum_68 hl (by decide) rfl (fun ls hl => ?_)
              refine lv_iinc (v := (nI (q + 1))) (lv' := [(6, .int (nI (q + 1))), (4, .long (u + (((lN 2) * (pv q)) * ((zcosv (q * k0 * 2 ^ (4 - p0))).toInt64)))), (7, .int (nI 2)), (0, .ref (F 24)), (1, .int (nI p0)), (2, .int (nI k0)), (3, .int (nI (2 ^ p0)))]) hx hb dX2_cosineSum_70 hl (k := 6) rfl (zinc (by omega)) (by decide) rfl (fun ls hl => ?_)
              refine lv_goto (tgt := 10) hx hb dX2_cosineSum_73 (by decide) ?_
              exact ih10 (q + 1) (u + (((lN 2) * (pv q)) * ((zcosv (q * k0 * 2 ^ (4 - p0))).toInt64))) (by omega) (by rw [hu]; simp only [zcs]; (first | rw [if_pos (by omega)] | rw [if_neg (by omega)]) <;> rfl) (by omega) H _ hP hS ls (lv_sub hl [3, 4, 5, 6, 1, 0] rfl)
            ·
              refine lv_iconst (v := nI 1) hx hb dX2_cosineSum_37 (by decide +kernel) ?_
              refine lv_goto (tgt := 42) hx hb dX2_cosineSum_38 (by decide) ?_
              refine lv_istore (lv' := [(7, .int (nI 1)), (0, .ref (F 24)), (1, .int (nI p0)), (2, .int (nI k0)), (3, .int (nI (2 ^ p0))), (4, .long u), (6, .int (nI q))]) hx hb dX2_cosineSum_42 hl (by decide) rfl (fun ls hl => ?_)
              refine lv_lload hx hb dX2_cosineSum_44 (lv_at hl 5 rfl) ?_
              refine lv_iload hx hb dX2_cosineSum_46 (lv_at hl 0 rfl) ?_
              refine zi2l hx hb (by omega) dX2_cosineSum_48 ?_
              refine lv_aload_n hx hb dX2_cosineSum_49 rfl (lv_at hl 1 rfl) ?_
              refine zget (q := 24) (k := 1) (v := .ref (F 26)) hx hb hts hinX2 hown hAm hP (by omega) (zC_o) rfl (by decide) (hts (.fieldLink RX2 15 "CosineSeries" "pointValues" "[J") (by decide +kernel)) (by first | rfl | simp [va_up, *]) dX2_cosineSum_50 ?_
              refine lv_iload hx hb dX2_cosineSum_53 (lv_at hl 6 rfl) ?_
              refine zlald (q := 26) (k := q) (v := (pv q)) hx hb hAm hP (by omega) (zC_pv) (by omega) (by decide) (by first | rfl | simp [va_up, *]) dX2_cosineSum_55 ?_
              refine lv_lmul hx hb dX2_cosineSum_56 ?_
              refine lv_iload_n hx hb dX2_cosineSum_57 rfl (lv_at hl 2 rfl) ?_
              refine lv_iload hx hb dX2_cosineSum_58 (lv_at hl 6 rfl) ?_
              refine lv_iload_n hx hb dX2_cosineSum_60 rfl (lv_at hl 3 rfl) ?_
              refine zimul (d := (q * k0)) hx hb rfl dX2_cosineSum_61 ?_
              refine zcallS (As := [.int (nI p0), .int (nI (q * k0))]) (rest := [.long ((lN 1) * (pv q)), .long u]) (k := 2) hx hb hml hown hts (kX2_pointAt l D cL cI cR A F 30 (zCE cL cR F T top (pv, rt, en, w, co, lo)) p0 (q * k0) hp (by omega)) gX2_cosineSum_X2_pointAt rfl (by decide +kernel) ⟨Nat.le_of_ble_eq_true rfl, Nat.le_of_ble_eq_true rfl⟩ hAm hP hS rfl hl.1 rfl (Nat.le_of_ble_eq_true rfl) dX2_cosineSum_62 ⟨Nat.zero_le _, Nat.zero_le _⟩ (zkn (fun H locs hP hS => ?_))
              refine W.eq (g2 := F0 m 65 ls [.int (zcosv (q * k0 * 2 ^ (4 - p0))), .long ((lN 1) * (pv q)), .long u]) rfl ?_
              refine lv_i2l (v := (zcosv (q * k0 * 2 ^ (4 - p0))).toInt64) hx hb dX2_cosineSum_65 rfl ?_
              refine lv_lmul hx hb dX2_cosineSum_66 ?_
              refine lv_ladd hx hb dX2_cosineSum_67 ?_
              refine lv_lstore (lv' := [(4, .long (u + (((lN 1) * (pv q)) * ((zcosv (q * k0 * 2 ^ (4 - p0))).toInt64)))), (7, .int (nI 1)), (0, .ref (F 24)), (1, .int (nI p0)), (2, .int (nI k0)), (3, .int (nI (2 ^ p0))), (6, .int (nI q))]) hx hb dX2_cosineSum_68 hl (by decide) rfl (fun ls hl => ?_)
              refine lv_iinc (v := (nI (q + 1))) (lv' := [(6, .int (nI (q + 1))), (4, .long (u + (((lN 1) * (pv q)) * ((zcosv (q * k0 * 2 ^ (4 - p0))).toInt64)))), (7, .int (nI 1)), (0, .ref (F 24)), (1, .int (nI p0)), (2, .int (nI k0)), (3, .int (nI (2 ^ p0)))]) hx hb dX2_cosineSum_70 hl (k := 6) rfl (zinc (by omega)) (by decide) rfl (fun ls hl => ?_)
              refine lv_goto (tgt := 10) hx hb dX2_cosineSum_73 (by decide) ?_
              exact ih10 (q + 1) (u + (((lN 1) * (pv q)) * ((zcosv (q * k0 * 2 ^ (4 - p0))).toInt64))) (by omega) (by rw [hu]; simp only [zcs]; (first | rw [if_pos (by omega)] | rw [if_neg (by omega)]) <;> rfl) (by omega) H _ hP hS ls (lv_sub hl [3, 4, 5, 6, 1, 0] rfl)
  exact L10 _ 0 0 (by omega) rfl (Nat.lt_succ_self _) H _ hP hS ls (lv_sub hl [3, 4, 5, 2, 1, 0] rfl)

set_option maxHeartbeats 4000000 in
set_option maxRecDepth 100000 in
theorem kX2_keepMade (l : Launch) (D : va_G) (cL cI cR : ClassId) (A : Nat → Prop) (F : Nat → Nat) (hF : zq_F A F 30) (T : Nat → Nat → Int64) (top : Nat → Nat) (Z : zZC) (t : Nat) (ht : t < 8) (f : Nat → Int64) (hf : T 8 = f) (hn : top 8 = ztop f 48) (T2 : Nat → Nat → Int64) (top2 : Nat → Nat) (hT2 : T2 = zkP T t f) (hp2 : top2 = zkN top t f) : zCt l yX2_keepMade wsX2_keepMade 2 43 D cL cI cR A F 30 (zCE cL cR F T top Z) [.ref (F 24), .ref (F t)] (fun v2 E2 => v2 = (some (.long (zkr f))) ∧ E2 = (zCE cL cR F T2 top2 Z)) := by
  refine zStart (cc := cX2_keepMade) (maxL := 4) (ret := (some .long)) (by decide +kernel) rfl (Nat.le_of_ble_eq_true rfl) ?_
  intro p e s m below meth c hx hb hr hml hlk hown hts hAm H hP hS ls hl
  have hown : s.vm.findClass RX2 = some m.cls := hown
  have hl : lv_has ls 4 [(0, .ref (F 24)), (1, .ref (F t))] := hl
  have hinX2 : ∀ w ∈ u_ws RX2 TX2 7, w ∈ wsX2_keepMade := by decide +kernel
  have h48 := ztop_le f 48
  refine lv_aload_n hx hb dX2_keepMade_0 rfl (lv_at hl 0 rfl) ?_
  refine zget (q := 24) (k := 3) (v := .ref (F 8)) hx hb hts hinX2 hown hAm hP (by omega) (zC_o) rfl (by decide) (hts (.fieldLink RX2 27 "CosineSeries" "made" "LCosineSeries$Series;") (by decide +kernel)) (by first | rfl | simp [va_up, *]) dX2_keepMade_1 ?_
  refine zcallV (As := []) (rest := []) (q := 8) (k := 0) hx hb hml hown hts (kX1_error l D cL cI cR A F hF T top Z 8 (by omega) f hf (ztop f 48) hn (by omega)) gX2_keepMade_X1_error rfl (by decide +kernel) ⟨Nat.le_of_ble_eq_true rfl, Nat.le_of_ble_eq_true rfl⟩ rfl (by omega) (zC_s (by omega)) rfl rfl hAm hP hS rfl hl.1 rfl (Nat.le_of_ble_eq_true rfl) dX2_keepMade_4 ⟨Nat.zero_le _, Nat.zero_le _⟩ (zkn (fun H locs hP hS => ?_))
  refine W.eq (g2 := F0 m 7 ls [.long (zke f)]) rfl ?_
  refine lv_lstore_n (lv' := [(2, .long (zke f)), (0, .ref (F 24)), (1, .ref (F t))]) hx hb dX2_keepMade_7 rfl hl (by decide) rfl (fun ls hl => ?_)
  refine lv_lload_n hx hb dX2_keepMade_8 rfl (lv_at hl 0 rfl) ?_
  refine lv_lconst (v := (0 : Int64)) hx hb dX2_keepMade_9 (by decide +kernel) ?_
  refine zl_eq (tgt := 16) hx hb dX2_keepMade_10 dX2_keepMade_11 (by decide) (fun c1 => ?_) (fun c1 => ?_)
  ·
    refine lv_aload_n hx hb dX2_keepMade_16 rfl (lv_at hl 2 rfl) ?_
    refine lv_aload_n hx hb dX2_keepMade_17 rfl (lv_at hl 1 rfl) ?_
    refine zget (q := 24) (k := 3) (v := .ref (F 8)) hx hb hts hinX2 hown hAm hP (by omega) (zC_o) rfl (by decide) (hts (.fieldLink RX2 27 "CosineSeries" "made" "LCosineSeries$Series;") (by decide +kernel)) (by first | rfl | simp [va_up, *]) dX2_keepMade_18 ?_
    refine zcallV (As := [.ref (F 8)]) (rest := []) (q := t) (k := 1) hx hb hml hown hts (kX1_take l D cL cI cR A F hF T top Z t (by omega) 8 (by omega) (T 8) rfl (top 8) rfl) gX2_keepMade_X1_take rfl (by decide +kernel) ⟨Nat.le_of_ble_eq_true rfl, Nat.le_of_ble_eq_true rfl⟩ rfl (by omega) (zC_s (by omega)) rfl rfl hAm hP hS rfl hl.1 rfl (Nat.le_of_ble_eq_true rfl) dX2_keepMade_21 ⟨Nat.zero_le _, Nat.zero_le _⟩ (zkn (fun H locs hP hS => ?_))
    refine W.eq (g2 := F0 m 24 ls []) rfl ?_
    refine lv_aload_n hx hb dX2_keepMade_24 rfl (lv_at hl 2 rfl) ?_
    have h24 := zke_24 c1
    refine zcallV (As := []) (rest := []) (q := t) (k := 0) hx hb hml hown hts (kX1_top l D cL cI cR A F hF (va_up T t (T 8)) (va_up top t (top 8)) Z t (by omega) (top 8) (va_up_eq _ _ _)) gX2_keepMade_X1_top rfl (by decide +kernel) ⟨Nat.le_of_ble_eq_true rfl, Nat.le_of_ble_eq_true rfl⟩ rfl (by omega) (zC_s (by omega)) rfl rfl hAm hP hS rfl hl.1 rfl (Nat.le_of_ble_eq_true rfl) dX2_keepMade_25 ⟨Nat.zero_le _, Nat.zero_le _⟩ (zkn (fun H locs hP hS => ?_))
    refine W.eq (g2 := F0 m 28 ls [.int (nI (top 8))]) rfl ?_
    have h8n : top 8 ≤ 48 := by omega
    refine zi2l hx hb (by omega) dX2_keepMade_28 ?_
    exact zretL hx hb hr hlk hS hP dX2_keepMade_29 ⟨by unfold zkr; rw [if_pos c1, hn], by rw [hT2, hp2]; unfold zkP zkN; rw [if_pos c1, if_pos c1, hf, hn]⟩
  ·
    refine lv_lload_n hx hb dX2_keepMade_14 rfl (lv_at hl 0 rfl) ?_
    exact zretL hx hb hr hlk hS hP dX2_keepMade_15 ⟨by unfold zkr; rw [if_neg c1], by rw [hT2, hp2]; unfold zkP zkN; rw [if_neg c1, if_neg c1]⟩
end
section
set_option maxHeartbeats 4000000 in
set_option maxRecDepth 100000 in
theorem kX2_makeStep_err (l : Launch) (D : va_G) (cL cI cR : ClassId) (A : Nat → Prop) (F : Nat → Nat) (hF : zq_F A F 30) (T : Nat → Nat → Int64) (top : Nat → Nat) (Z : zZC) (c0 : Int64) (fa : Int32) (fl : Int64) (hfl : fa.toInt64 = fl) (g : Nat) (hg : g < 8) (hng : top g ≤ 24) (hnb : top 10 ≤ 24) (he : ¬ zke (zprod (T g) (top g) (T 10) (top 10)) = 0) : zCt l yX2_makeStep wsX2_makeStep 3 79 D cL cI cR A F 30 (zCE cL cR F T top Z) [.ref (F 24), .long c0, .int fa, .ref (F g)] (fun v2 E2 => v2 = (some (.long (zke (zprod (T g) (top g) (T 10) (top 10))))) ∧ E2 = (zCE cL cR F (va_up T 9 (zprod (T g) (top g) (T 10) (top 10))) (va_up top 9 (ztop (zprod (T g) (top g) (T 10) (top 10)) 48)) Z)) := by
  refine zStart (cc := cX2_makeStep) (maxL := 7) (ret := (some .long)) (by decide +kernel) rfl (Nat.le_of_ble_eq_true rfl) ?_
  intro p e s m below meth c hx hb hr hml hlk hown hts hAm H hP hS ls hl
  have hown : s.vm.findClass RX2 = some m.cls := hown
  have hl : lv_has ls 7 [(0, .ref (F 24)), (1, .long c0), (3, .int fa), (4, .ref (F g))] := hl
  have hinX2 : ∀ w ∈ u_ws RX2 TX2 7, w ∈ wsX2_makeStep := by decide +kernel
  have h48 := ztop_le (zprod (T g) (top g) (T 10) (top 10)) 48
  refine lv_aload_n hx hb dX2_makeStep_0 rfl (lv_at hl 0 rfl) ?_
  refine zget (q := 24) (k := 4) (v := .ref (F 9)) hx hb hts hinX2 hown hAm hP (by omega) (zC_o) rfl (by decide) (hts (.fieldLink RX2 31 "CosineSeries" "product" "LCosineSeries$Series;") (by decide +kernel)) (by first | rfl | simp [va_up, *]) dX2_makeStep_1 ?_
  refine lv_aload hx hb dX2_makeStep_4 (lv_at hl 3 rfl) ?_
  refine lv_aload_n hx hb dX2_makeStep_6 rfl (lv_at hl 0 rfl) ?_
  refine zget (q := 24) (k := 5) (v := .ref (F 10)) hx hb hts hinX2 hown hAm hP (by omega) (zC_o) rfl (by decide) (hts (.fieldLink RX2 34 "CosineSeries" "last" "LCosineSeries$Series;") (by decide +kernel)) (by first | rfl | simp [va_up, *]) dX2_makeStep_7 ?_
  refine zcallV (As := [.ref (F g), .ref (F 10)]) (rest := []) (q := 9) (k := 2) hx hb hml hown hts (kX1_becomeProduct l D cL cI cR A F hF T top Z 9 (by omega) g (by omega) (by omega) 10 (by omega) (by omega) hng hnb (zprod (T g) (top g) (T 10) (top 10)) rfl) gX2_makeStep_X1_becomeProduct rfl (by decide +kernel) ⟨Nat.le_of_ble_eq_true rfl, Nat.le_of_ble_eq_true rfl⟩ rfl (by omega) (zC_s (by omega)) rfl rfl hAm hP hS rfl hl.1 rfl (Nat.le_of_ble_eq_true rfl) dX2_makeStep_10 ⟨Nat.zero_le _, Nat.zero_le _⟩ (zkn (fun H locs hP hS => ?_))
  refine W.eq (g2 := F0 m 13 ls []) rfl ?_
  refine lv_aload_n hx hb dX2_makeStep_13 rfl (lv_at hl 0 rfl) ?_
  refine zget (q := 24) (k := 4) (v := .ref (F 9)) hx hb hts hinX2 hown hAm hP (by omega) (zC_o) rfl (by decide) (hts (.fieldLink RX2 31 "CosineSeries" "product" "LCosineSeries$Series;") (by decide +kernel)) (by first | rfl | simp [va_up, *]) dX2_makeStep_14 ?_
  refine zcallV (As := []) (rest := []) (q := 9) (k := 0) hx hb hml hown hts (kX1_error l D cL cI cR A F hF (va_up T 9 (zprod (T g) (top g) (T 10) (top 10))) (va_up top 9 (ztop (zprod (T g) (top g) (T 10) (top 10)) 48)) Z 9 (by omega) (zprod (T g) (top g) (T 10) (top 10)) (va_up_eq _ _ _) (ztop (zprod (T g) (top g) (T 10) (top 10)) 48) (va_up_eq _ _ _) (by omega)) gX2_makeStep_X1_error rfl (by decide +kernel) ⟨Nat.le_of_ble_eq_true rfl, Nat.le_of_ble_eq_true rfl⟩ rfl (by omega) (zC_s (by omega)) rfl rfl hAm hP hS rfl hl.1 rfl (Nat.le_of_ble_eq_true rfl) dX2_makeStep_17 ⟨Nat.zero_le _, Nat.zero_le _⟩ (zkn (fun H locs hP hS => ?_))
  refine W.eq (g2 := F0 m 20 ls [.long (zke (zprod (T g) (top g) (T 10) (top 10)))]) rfl ?_
  refine lv_lstore (lv' := [(5, .long (zke (zprod (T g) (top g) (T 10) (top 10)))), (0, .ref (F 24)), (1, .long c0), (3, .int fa), (4, .ref (F g))]) hx hb dX2_makeStep_20 hl (by decide) rfl (fun ls hl => ?_)
  refine lv_lload hx hb dX2_makeStep_22 (lv_at hl 0 rfl) ?_
  refine lv_lconst (v := (0 : Int64)) hx hb dX2_makeStep_24 (by decide +kernel) ?_
  refine zl_eq (tgt := 32) hx hb dX2_makeStep_25 dX2_makeStep_26 (by decide) (fun c1 => ?_) (fun c1 => ?_)
  ·
    exact absurd c1 he
  ·
    refine lv_lload hx hb dX2_makeStep_29 (lv_at hl 0 rfl) ?_
    exact zretL hx hb hr hlk hS hP dX2_makeStep_31 ⟨rfl, rfl⟩

set_option maxHeartbeats 4000000 in
set_option maxRecDepth 100000 in
theorem kX2_makeStep_ok (l : Launch) (D : va_G) (cL cI cR : ClassId) (A : Nat → Prop) (F : Nat → Nat) (hF : zq_F A F 30) (T : Nat → Nat → Int64) (top : Nat → Nat) (Z : zZC) (c0 : Int64) (fa : Int32) (fl : Int64) (hfl : fa.toInt64 = fl) (g : Nat) (hg : g < 8) (hng : top g ≤ 24) (hnb : top 10 ≤ 24) (he : zke (zprod (T g) (top g) (T 10) (top 10)) = 0) : zCt l yX2_makeStep wsX2_makeStep 3 79 D cL cI cR A F 30 (zCE cL cR F T top Z) [.ref (F 24), .long c0, .int fa, .ref (F g)] (fun v2 E2 => v2 = (some (.long (zke (zst (zprod (T g) (top g) (T 10) (top 10)) (T 11) fl c0)))) ∧ E2 = (zCE cL cR F (va_up (va_up T 9 (zprod (T g) (top g) (T 10) (top 10))) 8 (zst (zprod (T g) (top g) (T 10) (top 10)) (T 11) fl c0)) (va_up (va_up top 9 (ztop (zprod (T g) (top g) (T 10) (top 10)) 48)) 8 (ztop (zst (zprod (T g) (top g) (T 10) (top 10)) (T 11) fl c0) 48)) Z)) := by
  refine zStart (cc := cX2_makeStep) (maxL := 7) (ret := (some .long)) (by decide +kernel) rfl (Nat.le_of_ble_eq_true rfl) ?_
  intro p e s m below meth c hx hb hr hml hlk hown hts hAm H hP hS ls hl
  have hown : s.vm.findClass RX2 = some m.cls := hown
  have hl : lv_has ls 7 [(0, .ref (F 24)), (1, .long c0), (3, .int fa), (4, .ref (F g))] := hl
  have hinX2 : ∀ w ∈ u_ws RX2 TX2 7, w ∈ wsX2_makeStep := by decide +kernel
  have h48 := ztop_le (zprod (T g) (top g) (T 10) (top 10)) 48
  have h49 := ztop_le (zst (zprod (T g) (top g) (T 10) (top 10)) (T 11) fl c0) 48
  refine lv_aload_n hx hb dX2_makeStep_0 rfl (lv_at hl 0 rfl) ?_
  refine zget (q := 24) (k := 4) (v := .ref (F 9)) hx hb hts hinX2 hown hAm hP (by omega) (zC_o) rfl (by decide) (hts (.fieldLink RX2 31 "CosineSeries" "product" "LCosineSeries$Series;") (by decide +kernel)) (by first | rfl | simp [va_up, *]) dX2_makeStep_1 ?_
  refine lv_aload hx hb dX2_makeStep_4 (lv_at hl 3 rfl) ?_
  refine lv_aload_n hx hb dX2_makeStep_6 rfl (lv_at hl 0 rfl) ?_
  refine zget (q := 24) (k := 5) (v := .ref (F 10)) hx hb hts hinX2 hown hAm hP (by omega) (zC_o) rfl (by decide) (hts (.fieldLink RX2 34 "CosineSeries" "last" "LCosineSeries$Series;") (by decide +kernel)) (by first | rfl | simp [va_up, *]) dX2_makeStep_7 ?_
  refine zcallV (As := [.ref (F g), .ref (F 10)]) (rest := []) (q := 9) (k := 2) hx hb hml hown hts (kX1_becomeProduct l D cL cI cR A F hF T top Z 9 (by omega) g (by omega) (by omega) 10 (by omega) (by omega) hng hnb (zprod (T g) (top g) (T 10) (top 10)) rfl) gX2_makeStep_X1_becomeProduct rfl (by decide +kernel) ⟨Nat.le_of_ble_eq_true rfl, Nat.le_of_ble_eq_true rfl⟩ rfl (by omega) (zC_s (by omega)) rfl rfl hAm hP hS rfl hl.1 rfl (Nat.le_of_ble_eq_true rfl) dX2_makeStep_10 ⟨Nat.zero_le _, Nat.zero_le _⟩ (zkn (fun H locs hP hS => ?_))
  refine W.eq (g2 := F0 m 13 ls []) rfl ?_
  refine lv_aload_n hx hb dX2_makeStep_13 rfl (lv_at hl 0 rfl) ?_
  refine zget (q := 24) (k := 4) (v := .ref (F 9)) hx hb hts hinX2 hown hAm hP (by omega) (zC_o) rfl (by decide) (hts (.fieldLink RX2 31 "CosineSeries" "product" "LCosineSeries$Series;") (by decide +kernel)) (by first | rfl | simp [va_up, *]) dX2_makeStep_14 ?_
  refine zcallV (As := []) (rest := []) (q := 9) (k := 0) hx hb hml hown hts (kX1_error l D cL cI cR A F hF (va_up T 9 (zprod (T g) (top g) (T 10) (top 10))) (va_up top 9 (ztop (zprod (T g) (top g) (T 10) (top 10)) 48)) Z 9 (by omega) (zprod (T g) (top g) (T 10) (top 10)) (va_up_eq _ _ _) (ztop (zprod (T g) (top g) (T 10) (top 10)) 48) (va_up_eq _ _ _) (by omega)) gX2_makeStep_X1_error rfl (by decide +kernel) ⟨Nat.le_of_ble_eq_true rfl, Nat.le_of_ble_eq_true rfl⟩ rfl (by omega) (zC_s (by omega)) rfl rfl hAm hP hS rfl hl.1 rfl (Nat.le_of_ble_eq_true rfl) dX2_makeStep_17 ⟨Nat.zero_le _, Nat.zero_le _⟩ (zkn (fun H locs hP hS => ?_))
  refine W.eq (g2 := F0 m 20 ls [.long (zke (zprod (T g) (top g) (T 10) (top 10)))]) rfl ?_
  refine lv_lstore (lv' := [(5, .long (zke (zprod (T g) (top g) (T 10) (top 10)))), (0, .ref (F 24)), (1, .long c0), (3, .int fa), (4, .ref (F g))]) hx hb dX2_makeStep_20 hl (by decide) rfl (fun ls hl => ?_)
  refine lv_lload hx hb dX2_makeStep_22 (lv_at hl 0 rfl) ?_
  refine lv_lconst (v := (0 : Int64)) hx hb dX2_makeStep_24 (by decide +kernel) ?_
  refine zl_eq (tgt := 32) hx hb dX2_makeStep_25 dX2_makeStep_26 (by decide) (fun c1 => ?_) (fun c1 => ?_)
  ·
    refine lv_aload_n hx hb dX2_makeStep_32 rfl (lv_at hl 1 rfl) ?_
    refine zget (q := 24) (k := 3) (v := .ref (F 8)) hx hb hts hinX2 hown hAm hP (by omega) (zC_o) rfl (by decide) (hts (.fieldLink RX2 27 "CosineSeries" "made" "LCosineSeries$Series;") (by decide +kernel)) (by first | rfl | simp [va_up, *]) dX2_makeStep_33 ?_
    refine lv_aload_n hx hb dX2_makeStep_36 rfl (lv_at hl 1 rfl) ?_
    refine zget (q := 24) (k := 4) (v := .ref (F 9)) hx hb hts hinX2 hown hAm hP (by omega) (zC_o) rfl (by decide) (hts (.fieldLink RX2 31 "CosineSeries" "product" "LCosineSeries$Series;") (by decide +kernel)) (by first | rfl | simp [va_up, *]) dX2_makeStep_37 ?_
    refine lv_iload_n hx hb dX2_makeStep_40 rfl (lv_at hl 3 rfl) ?_
    refine lv_aload_n hx hb dX2_makeStep_41 rfl (lv_at hl 1 rfl) ?_
    refine zget (q := 24) (k := 6) (v := .ref (F 11)) hx hb hts hinX2 hown hAm hP (by omega) (zC_o) rfl (by decide) (hts (.fieldLink RX2 37 "CosineSeries" "lastButOne" "LCosineSeries$Series;") (by decide +kernel)) (by first | rfl | simp [va_up, *]) dX2_makeStep_42 ?_
    refine lv_iconst (v := (-1 : Int32)) hx hb dX2_makeStep_45 (by decide +kernel) ?_
    refine zcallV (As := [.ref (F 9), .int fa, .ref (F 11), .int (-1 : Int32)]) (rest := []) (q := 8) (k := 4) hx hb hml hown hts (kX1_becomeSum l D cL cI cR A F hF (va_up T 9 (zprod (T g) (top g) (T 10) (top 10))) (va_up top 9 (ztop (zprod (T g) (top g) (T 10) (top 10)) 48)) Z 8 (by omega) 9 (by omega) (by omega) 11 (by omega) (by omega) fa (-1) (zprod (T g) (top g) (T 10) (top 10)) (T 11) (va_up_eq _ _ _) (zup8 _ _ (by omega)) (zsum fl (-1) (zprod (T g) (top g) (T 10) (top 10)) (T 11)) (by rw [hfl]; rfl)) gX2_makeStep_X1_becomeSum rfl (by decide +kernel) ⟨Nat.le_of_ble_eq_true rfl, Nat.le_of_ble_eq_true rfl⟩ rfl (by omega) (zC_s (by omega)) rfl rfl hAm hP hS rfl hl.1 rfl (Nat.le_of_ble_eq_true rfl) dX2_makeStep_46 ⟨Nat.zero_le _, Nat.zero_le _⟩ (zkn (fun H locs hP hS => ?_))
    refine W.eq (g2 := F0 m 49 ls []) rfl ?_
    refine lv_aload_n hx hb dX2_makeStep_49 rfl (lv_at hl 1 rfl) ?_
    refine zget (q := 24) (k := 3) (v := .ref (F 8)) hx hb hts hinX2 hown hAm hP (by omega) (zC_o) rfl (by decide) (hts (.fieldLink RX2 27 "CosineSeries" "made" "LCosineSeries$Series;") (by decide +kernel)) (by first | rfl | simp [va_up, *]) dX2_makeStep_50 ?_
    refine lv_iconst (v := nI 0) hx hb dX2_makeStep_53 (by decide +kernel) ?_
    refine lv_aload_n hx hb dX2_makeStep_54 rfl (lv_at hl 1 rfl) ?_
    refine zget (q := 24) (k := 3) (v := .ref (F 8)) hx hb hts hinX2 hown hAm hP (by omega) (zC_o) rfl (by decide) (hts (.fieldLink RX2 27 "CosineSeries" "made" "LCosineSeries$Series;") (by decide +kernel)) (by first | rfl | simp [va_up, *]) dX2_makeStep_55 ?_
    refine lv_iconst (v := nI 0) hx hb dX2_makeStep_58 (by decide +kernel) ?_
    refine zcallV (As := [.int (nI 0)]) (rest := [.int (nI 0), .ref (F 8)]) (q := 8) (k := 1) hx hb hml hown hts (kX1_at l D cL cI cR A F hF (va_up (va_up T 9 (zprod (T g) (top g) (T 10) (top 10))) 8 (zsum fl (-1) (zprod (T g) (top g) (T 10) (top 10)) (T 11))) (va_up (va_up top 9 (ztop (zprod (T g) (top g) (T 10) (top 10)) 48)) 8 (ztop (zsum fl (-1) (zprod (T g) (top g) (T 10) (top 10)) (T 11)) 48)) Z 8 (by omega) 0 (by omega) ((zsum fl (-1) (zprod (T g) (top g) (T 10) (top 10)) (T 11)) 0) (by first | rfl | simp [va_up, *])) gX2_makeStep_X1_at rfl (by decide +kernel) ⟨Nat.le_of_ble_eq_true rfl, Nat.le_of_ble_eq_true rfl⟩ rfl (by omega) (zC_s (by omega)) rfl rfl hAm hP hS rfl hl.1 rfl (Nat.le_of_ble_eq_true rfl) dX2_makeStep_59 ⟨Nat.zero_le _, Nat.zero_le _⟩ (zkn (fun H locs hP hS => ?_))
    refine W.eq (g2 := F0 m 62 ls [.long ((zsum fl (-1) (zprod (T g) (top g) (T 10) (top 10)) (T 11)) 0), .int (nI 0), .ref (F 8)]) rfl ?_
    refine lv_lload_n hx hb dX2_makeStep_62 rfl (lv_at hl 2 rfl) ?_
    refine lv_ladd hx hb dX2_makeStep_63 ?_
    refine zcallV (As := [.int (nI 0), .long (((zsum fl (-1) (zprod (T g) (top g) (T 10) (top 10)) (T 11)) 0) + c0)]) (rest := []) (q := 8) (k := 2) hx hb hml hown hts (kX1_put l D cL cI cR A F hF (va_up (va_up T 9 (zprod (T g) (top g) (T 10) (top 10))) 8 (zsum fl (-1) (zprod (T g) (top g) (T 10) (top 10)) (T 11))) (va_up (va_up top 9 (ztop (zprod (T g) (top g) (T 10) (top 10)) 48)) 8 (ztop (zsum fl (-1) (zprod (T g) (top g) (T 10) (top 10)) (T 11)) 48)) Z 8 (by omega) 0 (by omega) ((zsum fl (-1) (zprod (T g) (top g) (T 10) (top 10)) (T 11)) 0 + c0) (va_up (va_up T 9 (zprod (T g) (top g) (T 10) (top 10))) 8 (zst (zprod (T g) (top g) (T 10) (top 10)) (T 11) fl c0)) (by rw [bx_uu, va_up_eq]; rfl)) gX2_makeStep_X1_put rfl (by decide +kernel) ⟨Nat.le_of_ble_eq_true rfl, Nat.le_of_ble_eq_true rfl⟩ rfl (by omega) (zC_s (by omega)) rfl rfl hAm hP hS rfl hl.1 rfl (Nat.le_of_ble_eq_true rfl) dX2_makeStep_64 ⟨Nat.zero_le _, Nat.zero_le _⟩ (zkn (fun H locs hP hS => ?_))
    refine W.eq (g2 := F0 m 67 ls []) rfl ?_
    refine lv_aload_n hx hb dX2_makeStep_67 rfl (lv_at hl 1 rfl) ?_
    refine zget (q := 24) (k := 3) (v := .ref (F 8)) hx hb hts hinX2 hown hAm hP (by omega) (zC_o) rfl (by decide) (hts (.fieldLink RX2 27 "CosineSeries" "made" "LCosineSeries$Series;") (by decide +kernel)) (by first | rfl | simp [va_up, *]) dX2_makeStep_68 ?_
    refine zcallV (As := []) (rest := []) (q := 8) (k := 0) hx hb hml hown hts (kX1_trim l D cL cI cR A F hF (va_up (va_up T 9 (zprod (T g) (top g) (T 10) (top 10))) 8 (zst (zprod (T g) (top g) (T 10) (top 10)) (T 11) fl c0)) (va_up (va_up top 9 (ztop (zprod (T g) (top g) (T 10) (top 10)) 48)) 8 (ztop (zsum fl (-1) (zprod (T g) (top g) (T 10) (top 10)) (T 11)) 48)) Z 8 (by omega) (zst (zprod (T g) (top g) (T 10) (top 10)) (T 11) fl c0) (va_up_eq _ _ _) (va_up (va_up top 9 (ztop (zprod (T g) (top g) (T 10) (top 10)) 48)) 8 (ztop (zst (zprod (T g) (top g) (T 10) (top 10)) (T 11) fl c0) 48)) (by rw [bx_uu])) gX2_makeStep_X1_trim rfl (by decide +kernel) ⟨Nat.le_of_ble_eq_true rfl, Nat.le_of_ble_eq_true rfl⟩ rfl (by omega) (zC_s (by omega)) rfl rfl hAm hP hS rfl hl.1 rfl (Nat.le_of_ble_eq_true rfl) dX2_makeStep_71 ⟨Nat.zero_le _, Nat.zero_le _⟩ (zkn (fun H locs hP hS => ?_))
    refine W.eq (g2 := F0 m 74 ls []) rfl ?_
    refine lv_aload_n hx hb dX2_makeStep_74 rfl (lv_at hl 1 rfl) ?_
    refine zget (q := 24) (k := 3) (v := .ref (F 8)) hx hb hts hinX2 hown hAm hP (by omega) (zC_o) rfl (by decide) (hts (.fieldLink RX2 27 "CosineSeries" "made" "LCosineSeries$Series;") (by decide +kernel)) (by first | rfl | simp [va_up, *]) dX2_makeStep_75 ?_
    refine zcallV (As := []) (rest := []) (q := 8) (k := 0) hx hb hml hown hts (kX1_error l D cL cI cR A F hF (va_up (va_up T 9 (zprod (T g) (top g) (T 10) (top 10))) 8 (zst (zprod (T g) (top g) (T 10) (top 10)) (T 11) fl c0)) (va_up (va_up top 9 (ztop (zprod (T g) (top g) (T 10) (top 10)) 48)) 8 (ztop (zst (zprod (T g) (top g) (T 10) (top 10)) (T 11) fl c0) 48)) Z 8 (by omega) (zst (zprod (T g) (top g) (T 10) (top 10)) (T 11) fl c0) (va_up_eq _ _ _) (ztop (zst (zprod (T g) (top g) (T 10) (top 10)) (T 11) fl c0) 48) (va_up_eq _ _ _) (by omega)) gX2_makeStep_X1_error rfl (by decide +kernel) ⟨Nat.le_of_ble_eq_true rfl, Nat.le_of_ble_eq_true rfl⟩ rfl (by omega) (zC_s (by omega)) rfl rfl hAm hP hS rfl hl.1 rfl (Nat.le_of_ble_eq_true rfl) dX2_makeStep_78 ⟨Nat.zero_le _, Nat.zero_le _⟩ (zkn (fun H locs hP hS => ?_))
    refine W.eq (g2 := F0 m 81 ls [.long (zke (zst (zprod (T g) (top g) (T 10) (top 10)) (T 11) fl c0))]) rfl ?_
    exact zretL hx hb hr hlk hS hP dX2_makeStep_81 ⟨rfl, rfl⟩
  ·
    exact absurd he c1
end
section
set_option maxHeartbeats 4000000 in
set_option maxRecDepth 100000 in
theorem kX2_makeComposition (l : Launch) (D : va_G) (cL cI cR : ClassId) (A : Nat → Prop) (F : Nat → Nat) (hF : zq_F A F 30) (T : Nat → Nat → Int64) (top : Nat → Nat) (Z : zZC) (a : Nat) (ha : a < 8) (g : Nat) (hg : g < 8) (hna : top a ≤ 24) (hng : top g ≤ 24) : zCt l yX2_makeComposition wsX2_makeComposition 4 105 D cL cI cR A F 30 (zCE cL cR F T top Z) [.ref (F 24), .ref (F a), .ref (F g)] (fun v2 E2 => ∃ (T2 : Nat → Nat → Int64) (top2 : Nat → Nat), v2 = some (.long (zcomp (T a) (T g) (top g) (top a) (fun _ => 0) 0 (fun _ => 0)).1) ∧ E2 = zCE cL cR F T2 top2 Z ∧ (∀ i, i < 8 → T2 i = T i ∧ top2 i = top i) ∧ ((zcomp (T a) (T g) (top g) (top a) (fun _ => 0) 0 (fun _ => 0)).1 = 0 → T2 8 = (zcomp (T a) (T g) (top g) (top a) (fun _ => 0) 0 (fun _ => 0)).2 ∧ top2 8 = ztop (zcomp (T a) (T g) (top g) (top a) (fun _ => 0) 0 (fun _ => 0)).2 48)) := by
  refine zStart (cc := cX2_makeComposition) (maxL := 6) (ret := (some .long)) (by decide +kernel) rfl (Nat.le_of_ble_eq_true rfl) ?_
  intro p e s m below meth c hx hb hr hml hlk hown hts hAm H hP hS ls hl
  have hown : s.vm.findClass RX2 = some m.cls := hown
  have hl : lv_has ls 6 [(0, .ref (F 24)), (1, .ref (F a)), (2, .ref (F g))] := hl
  have hinX2 : ∀ w ∈ u_ws RX2 TX2 7, w ∈ wsX2_makeComposition := by decide +kernel
  refine lv_aload_n hx hb dX2_makeComposition_0 rfl (lv_at hl 0 rfl) ?_
  refine zget (q := 24) (k := 5) (v := .ref (F 10)) hx hb hts hinX2 hown hAm hP (by omega) (zC_o) rfl (by decide) (hts (.fieldLink RX2 34 "CosineSeries" "last" "LCosineSeries$Series;") (by decide +kernel)) (by first | rfl | simp [va_up, *]) dX2_makeComposition_1 ?_
  refine zcallV (As := []) (rest := []) (q := 10) (k := 0) hx hb hml hown hts (kX1_clear l D cL cI cR A F hF T top Z 10 (by omega)) gX2_makeComposition_X1_clear rfl (by decide +kernel) ⟨Nat.le_of_ble_eq_true rfl, Nat.le_of_ble_eq_true rfl⟩ rfl (by omega) (zC_s (by omega)) rfl rfl hAm hP hS rfl hl.1 rfl (Nat.le_of_ble_eq_true rfl) dX2_makeComposition_4 ⟨Nat.zero_le _, Nat.zero_le _⟩ (zkn (fun H locs hP hS => ?_))
  refine W.eq (g2 := F0 m 7 ls []) rfl ?_
  refine lv_aload_n hx hb dX2_makeComposition_7 rfl (lv_at hl 0 rfl) ?_
  refine zget (q := 24) (k := 6) (v := .ref (F 11)) hx hb hts hinX2 hown hAm hP (by omega) (zC_o) rfl (by decide) (hts (.fieldLink RX2 37 "CosineSeries" "lastButOne" "LCosineSeries$Series;") (by decide +kernel)) (by first | rfl | simp [va_up, *]) dX2_makeComposition_8 ?_
  refine zcallV (As := []) (rest := []) (q := 11) (k := 0) hx hb hml hown hts (kX1_clear l D cL cI cR A F hF (va_up T 10 (fun _ => 0)) (va_up top 10 0) Z 11 (by omega)) gX2_makeComposition_X1_clear rfl (by decide +kernel) ⟨Nat.le_of_ble_eq_true rfl, Nat.le_of_ble_eq_true rfl⟩ rfl (by omega) (zC_s (by omega)) rfl rfl hAm hP hS rfl hl.1 rfl (Nat.le_of_ble_eq_true rfl) dX2_makeComposition_11 ⟨Nat.zero_le _, Nat.zero_le _⟩ (zkn (fun H locs hP hS => ?_))
  refine W.eq (g2 := F0 m 14 ls []) rfl ?_
  refine lv_aload_n hx hb dX2_makeComposition_14 rfl (lv_at hl 1 rfl) ?_
  refine zcallV (As := []) (rest := []) (q := a) (k := 0) hx hb hml hown hts (kX1_top l D cL cI cR A F hF (va_up (va_up T 10 (fun _ => 0)) 11 (fun _ => 0)) (va_up (va_up top 10 0) 11 0) Z a (by omega) (top a) (by rw [zup8 _ _ (by omega), zup8 _ _ (by omega)])) gX2_makeComposition_X1_top rfl (by decide +kernel) ⟨Nat.le_of_ble_eq_true rfl, Nat.le_of_ble_eq_true rfl⟩ rfl (by omega) (zC_s (by omega)) rfl rfl hAm hP hS rfl hl.1 rfl (Nat.le_of_ble_eq_true rfl) dX2_makeComposition_15 ⟨Nat.zero_le _, Nat.zero_le _⟩ (zkn (fun H locs hP hS => ?_))
  refine W.eq (g2 := F0 m 18 ls [.int (nI (top a))]) rfl ?_
  refine lv_istore_n (lv' := [(3, .int (nI (top a))), (0, .ref (F 24)), (1, .ref (F a)), (2, .ref (F g))]) hx hb dX2_makeComposition_18 rfl hl (by decide) rfl (fun ls hl => ?_)
  have L19 : ∀ (n : Nat) (k : Nat) (Tc : Nat → Nat → Int64) (nc : Nat → Nat) (hk : k ≤ 24) (hTc : ∀ i, i < 8 → Tc i = T i ∧ nc i = top i) (hnc : nc 10 ≤ 24) (hres : zcomp (T a) (T g) (top g) k (Tc 10) (nc 10) (Tc 11) = (zcomp (T a) (T g) (top g) (top a) (fun _ => 0) 0 (fun _ => 0))) (hn : k < n) (H : Heap) (locs : List Loc), va_P D vwCl (zq_wd F 30 (zCE cL cR F Tc nc Z)) H → va_S A s.heap H locs → ∀ (ls : Array Slot), lv_has ls 6 [(0, .ref (F 24)), (1, .ref (F a)), (2, .ref (F g)), (3, .int (nI k))] → W p l e ({ frames := 4, cells := 0, slots := 0, locals := 105 }) s m ([.ref (F 24), .ref (F a), .ref (F g)] : List Value).toArray below meth c H locs 0 0 (zQ below D A F 30 [.ref (F 24), .ref (F a), .ref (F g)] s (fun v2 E2 => ∃ (T2 : Nat → Nat → Int64) (top2 : Nat → Nat), v2 = some (.long (zcomp (T a) (T g) (top g) (top a) (fun _ => 0) 0 (fun _ => 0)).1) ∧ E2 = zCE cL cR F T2 top2 Z ∧ (∀ i, i < 8 → T2 i = T i ∧ top2 i = top i) ∧ ((zcomp (T a) (T g) (top g) (top a) (fun _ => 0) 0 (fun _ => 0)).1 = 0 → T2 8 = (zcomp (T a) (T g) (top g) (top a) (fun _ => 0) 0 (fun _ => 0)).2 ∧ top2 8 = ztop (zcomp (T a) (T g) (top g) (top a) (fun _ => 0) 0 (fun _ => 0)).2 48))) (F0 m 19 ls []) := by
    intro n
    induction n with
    | zero =>
      intro k Tc nc hk hTc hnc hres hn
      exact absurd hn (Nat.not_lt_zero _)
    | succ n ih19 =>
      intro k Tc nc hk hTc hnc hres hn H locs hP hS ls hl
      have hres2 : zcomp (T a) (Tc g) (nc g) k (Tc 10) (nc 10) (Tc 11) = (zcomp (T a) (T g) (top g) (top a) (fun _ => 0) 0 (fun _ => 0)) := by rw [(hTc g hg).1, (hTc g hg).2]; exact hres
      have hTa := (hTc a ha).1
      have hna2 : nc a ≤ 24 := by rw [(hTc a ha).2]; exact hna
      have hng2 : nc g ≤ 24 := by rw [(hTc g hg).2]; exact hng
      refine lv_iload_n hx hb dX2_makeComposition_19 rfl (lv_at hl 3 rfl) ?_
      refine lv_iconst (v := nI 1) hx hb dX2_makeComposition_20 (by decide +kernel) ?_
      refine zi_lt (tgt := 75) hx hb dX2_makeComposition_21 (by decide) (by omega) (by omega) (fun c1 => ?_) (fun c1 => ?_)
      ·
        obtain rfl : k = 0 := by omega
        have hl : lv_has ls 6 [(0, .ref (F 24)), (1, .ref (F a)), (2, .ref (F g)), (3, .int (nI 0))] := by exact hl
        refine lv_aload_n hx hb dX2_makeComposition_75 rfl (lv_at hl 0 rfl) ?_
        refine lv_aload_n hx hb dX2_makeComposition_76 rfl (lv_at hl 1 rfl) ?_
        refine lv_iconst (v := nI 0) hx hb dX2_makeComposition_77 (by decide +kernel) ?_
        refine zcallV (As := [.int (nI 0)]) (rest := [.ref (F 24)]) (q := a) (k := 1) hx hb hml hown hts (kX1_at l D cL cI cR A F hF Tc nc Z a (by omega) 0 (by omega) (T a 0) (by rw [hTa])) gX2_makeComposition_X1_at rfl (by decide +kernel) ⟨Nat.le_of_ble_eq_true rfl, Nat.le_of_ble_eq_true rfl⟩ rfl (by omega) (zC_s (by omega)) rfl rfl hAm hP hS rfl hl.1 rfl (Nat.le_of_ble_eq_true rfl) dX2_makeComposition_78 ⟨Nat.zero_le _, Nat.zero_le _⟩ (zkn (fun H locs hP hS => ?_))
        refine W.eq (g2 := F0 m 81 ls [.long (T a 0), .ref (F 24)]) rfl ?_
        refine lv_iconst (v := nI 1) hx hb dX2_makeComposition_81 (by decide +kernel) ?_
        refine lv_aload_n hx hb dX2_makeComposition_82 rfl (lv_at hl 2 rfl) ?_
        by_cases hpe : zke (zprod (Tc g) (nc g) (Tc 10) (nc 10)) = 0
        ·
          have hste : zste (zprod (Tc g) (nc g) (Tc 10) (nc 10)) (zst (zprod (Tc g) (nc g) (Tc 10) (nc 10)) (Tc 11) 1 (T a 0)) = zke (zst (zprod (Tc g) (nc g) (Tc 10) (nc 10)) (Tc 11) 1 (T a 0)) := by unfold zste; rw [if_pos hpe]
          refine zcallV (As := [.long (T a 0), .int (nI 1), .ref (F g)]) (rest := []) (q := 24) (k := 3) hx hb hml hown hts (kX2_makeStep_ok l D cL cI cR A F hF Tc nc Z (T a 0) (nI 1) 1 rfl g hg (by omega) (by omega) hpe) gX2_makeComposition_X2_makeStep rfl (by decide +kernel) ⟨Nat.le_of_ble_eq_true rfl, Nat.le_of_ble_eq_true rfl⟩ rfl (by omega) (zC_o) rfl rfl hAm hP hS rfl hl.1 rfl (Nat.le_of_ble_eq_true rfl) dX2_makeComposition_83 ⟨Nat.zero_le _, Nat.zero_le _⟩ (zkn (fun H locs hP hS => ?_))
          refine W.eq (g2 := F0 m 86 ls [.long (zke (zst (zprod (Tc g) (nc g) (Tc 10) (nc 10)) (Tc 11) 1 (T a 0)))]) rfl ?_
          exact zretL hx hb hr hlk hS hP dX2_makeComposition_86 ⟨_, _, by rw [← hres2, zcomp, hste], rfl, (fun i hi => by simp only [zup8 _ _ (show ¬ i = 8 by omega), zup8 _ _ (show ¬ i = 9 by omega), zup8 _ _ (show ¬ i = 10 by omega), zup8 _ _ (show ¬ i = 11 by omega)]; exact hTc i hi), fun _ => by rw [← hres2, zcomp]; exact ⟨va_up_eq _ _ _, va_up_eq _ _ _⟩⟩
        ·
          have hste : zste (zprod (Tc g) (nc g) (Tc 10) (nc 10)) (zst (zprod (Tc g) (nc g) (Tc 10) (nc 10)) (Tc 11) 1 (T a 0)) = zke (zprod (Tc g) (nc g) (Tc 10) (nc 10)) := by unfold zste; rw [if_neg hpe]
          refine zcallV (As := [.long (T a 0), .int (nI 1), .ref (F g)]) (rest := []) (q := 24) (k := 3) hx hb hml hown hts (kX2_makeStep_err l D cL cI cR A F hF Tc nc Z (T a 0) (nI 1) 1 rfl g hg (by omega) (by omega) hpe) gX2_makeComposition_X2_makeStep rfl (by decide +kernel) ⟨Nat.le_of_ble_eq_true rfl, Nat.le_of_ble_eq_true rfl⟩ rfl (by omega) (zC_o) rfl rfl hAm hP hS rfl hl.1 rfl (Nat.le_of_ble_eq_true rfl) dX2_makeComposition_83 ⟨Nat.zero_le _, Nat.zero_le _⟩ (zkn (fun H locs hP hS => ?_))
          refine W.eq (g2 := F0 m 86 ls [.long (zke (zprod (Tc g) (nc g) (Tc 10) (nc 10)))]) rfl ?_
          exact zretL hx hb hr hlk hS hP dX2_makeComposition_86 ⟨_, _, by rw [← hres2, zcomp, hste], rfl, (fun i hi => by simp only [zup8 _ _ (show ¬ i = 8 by omega), zup8 _ _ (show ¬ i = 9 by omega), zup8 _ _ (show ¬ i = 10 by omega), zup8 _ _ (show ¬ i = 11 by omega)]; exact hTc i hi), fun h => absurd h (by rw [← hres2, zcomp]; exact (fun h => hpe (hste.symm.trans h)))⟩
      ·
        obtain ⟨k, rfl⟩ : ∃ j, k = j + 1 := ⟨k - 1, by omega⟩
        have hl : lv_has ls 6 [(0, .ref (F 24)), (1, .ref (F a)), (2, .ref (F g)), (3, .int (nI (k + 1)))] := by exact hl
        refine lv_aload_n hx hb dX2_makeComposition_24 rfl (lv_at hl 0 rfl) ?_
        refine lv_aload_n hx hb dX2_makeComposition_25 rfl (lv_at hl 1 rfl) ?_
        refine lv_iload_n hx hb dX2_makeComposition_26 rfl (lv_at hl 3 rfl) ?_
        refine zcallV (As := [.int (nI (k + 1))]) (rest := [.ref (F 24)]) (q := a) (k := 1) hx hb hml hown hts (kX1_at l D cL cI cR A F hF Tc nc Z a (by omega) (k + 1) (by omega) (T a (k + 1)) (by rw [hTa])) gX2_makeComposition_X1_at rfl (by decide +kernel) ⟨Nat.le_of_ble_eq_true rfl, Nat.le_of_ble_eq_true rfl⟩ rfl (by omega) (zC_s (by omega)) rfl rfl hAm hP hS rfl hl.1 rfl (Nat.le_of_ble_eq_true rfl) dX2_makeComposition_27 ⟨Nat.zero_le _, Nat.zero_le _⟩ (zkn (fun H locs hP hS => ?_))
        refine W.eq (g2 := F0 m 30 ls [.long (T a (k + 1)), .ref (F 24)]) rfl ?_
        refine lv_iconst (v := nI 2) hx hb dX2_makeComposition_30 (by decide +kernel) ?_
        refine lv_aload_n hx hb dX2_makeComposition_31 rfl (lv_at hl 2 rfl) ?_
        by_cases hpe : zke (zprod (Tc g) (nc g) (Tc 10) (nc 10)) = 0
        ·
          have hste : zste (zprod (Tc g) (nc g) (Tc 10) (nc 10)) (zst (zprod (Tc g) (nc g) (Tc 10) (nc 10)) (Tc 11) 2 (T a (k + 1))) = zke (zst (zprod (Tc g) (nc g) (Tc 10) (nc 10)) (Tc 11) 2 (T a (k + 1))) := by unfold zste; rw [if_pos hpe]
          refine zcallV (As := [.long (T a (k + 1)), .int (nI 2), .ref (F g)]) (rest := []) (q := 24) (k := 3) hx hb hml hown hts (kX2_makeStep_ok l D cL cI cR A F hF Tc nc Z (T a (k + 1)) (nI 2) 2 rfl g hg (by omega) (by omega) hpe) gX2_makeComposition_X2_makeStep rfl (by decide +kernel) ⟨Nat.le_of_ble_eq_true rfl, Nat.le_of_ble_eq_true rfl⟩ rfl (by omega) (zC_o) rfl rfl hAm hP hS rfl hl.1 rfl (Nat.le_of_ble_eq_true rfl) dX2_makeComposition_32 ⟨Nat.zero_le _, Nat.zero_le _⟩ (zkn (fun H locs hP hS => ?_))
          refine W.eq (g2 := F0 m 35 ls [.long (zke (zst (zprod (Tc g) (nc g) (Tc 10) (nc 10)) (Tc 11) 2 (T a (k + 1))))]) rfl ?_
          refine lv_lstore (lv' := [(4, .long (zke (zst (zprod (Tc g) (nc g) (Tc 10) (nc 10)) (Tc 11) 2 (T a (k + 1))))), (0, .ref (F 24)), (1, .ref (F a)), (2, .ref (F g)), (3, .int (nI (k + 1)))]) hx hb dX2_makeComposition_35 hl (by decide) rfl (fun ls hl => ?_)
          refine lv_lload hx hb dX2_makeComposition_37 (lv_at hl 0 rfl) ?_
          refine lv_lconst (v := (0 : Int64)) hx hb dX2_makeComposition_39 (by decide +kernel) ?_
          refine zl_eq (tgt := 47) hx hb dX2_makeComposition_40 dX2_makeComposition_41 (by decide) (fun c2 => ?_) (fun c2 => ?_)
          ·
            have hs0z := hste.trans c2
            have hs0 := c2
            refine lv_aload_n hx hb dX2_makeComposition_47 rfl (lv_at hl 1 rfl) ?_
            refine zget (q := 24) (k := 6) (v := .ref (F 11)) hx hb hts hinX2 hown hAm hP (by omega) (zC_o) rfl (by decide) (hts (.fieldLink RX2 37 "CosineSeries" "lastButOne" "LCosineSeries$Series;") (by decide +kernel)) (by first | rfl | simp [va_up, *]) dX2_makeComposition_48 ?_
            refine lv_aload_n hx hb dX2_makeComposition_51 rfl (lv_at hl 1 rfl) ?_
            refine zget (q := 24) (k := 5) (v := .ref (F 10)) hx hb hts hinX2 hown hAm hP (by omega) (zC_o) rfl (by decide) (hts (.fieldLink RX2 34 "CosineSeries" "last" "LCosineSeries$Series;") (by decide +kernel)) (by first | rfl | simp [va_up, *]) dX2_makeComposition_52 ?_
            refine zcallV (As := [.ref (F 10)]) (rest := []) (q := 11) (k := 1) hx hb hml hown hts (kX1_take l D cL cI cR A F hF (va_up (va_up Tc 9 (zprod (Tc g) (nc g) (Tc 10) (nc 10))) 8 (zst (zprod (Tc g) (nc g) (Tc 10) (nc 10)) (Tc 11) 2 (T a (k + 1)))) (va_up (va_up nc 9 (ztop (zprod (Tc g) (nc g) (Tc 10) (nc 10)) 48)) 8 (ztop (zst (zprod (Tc g) (nc g) (Tc 10) (nc 10)) (Tc 11) 2 (T a (k + 1))) 48)) Z 11 (by omega) 10 (by omega) (Tc 10) (by simp [va_up]) (nc 10) (by simp [va_up])) gX2_makeComposition_X1_take rfl (by decide +kernel) ⟨Nat.le_of_ble_eq_true rfl, Nat.le_of_ble_eq_true rfl⟩ rfl (by omega) (zC_s (by omega)) rfl rfl hAm hP hS rfl hl.1 rfl (Nat.le_of_ble_eq_true rfl) dX2_makeComposition_55 ⟨Nat.zero_le _, Nat.zero_le _⟩ (zkn (fun H locs hP hS => ?_))
            refine W.eq (g2 := F0 m 58 ls []) rfl ?_
            refine lv_aload_n hx hb dX2_makeComposition_58 rfl (lv_at hl 1 rfl) ?_
            refine zget (q := 24) (k := 5) (v := .ref (F 10)) hx hb hts hinX2 hown hAm hP (by omega) (zC_o) rfl (by decide) (hts (.fieldLink RX2 34 "CosineSeries" "last" "LCosineSeries$Series;") (by decide +kernel)) (by first | rfl | simp [va_up, *]) dX2_makeComposition_59 ?_
            refine lv_aload_n hx hb dX2_makeComposition_62 rfl (lv_at hl 1 rfl) ?_
            refine zget (q := 24) (k := 3) (v := .ref (F 8)) hx hb hts hinX2 hown hAm hP (by omega) (zC_o) rfl (by decide) (hts (.fieldLink RX2 27 "CosineSeries" "made" "LCosineSeries$Series;") (by decide +kernel)) (by first | rfl | simp [va_up, *]) dX2_makeComposition_63 ?_
            refine zcallV (As := [.ref (F 8)]) (rest := []) (q := 10) (k := 1) hx hb hml hown hts (kX1_take l D cL cI cR A F hF (va_up (va_up (va_up Tc 9 (zprod (Tc g) (nc g) (Tc 10) (nc 10))) 8 (zst (zprod (Tc g) (nc g) (Tc 10) (nc 10)) (Tc 11) 2 (T a (k + 1)))) 11 (Tc 10)) (va_up (va_up (va_up nc 9 (ztop (zprod (Tc g) (nc g) (Tc 10) (nc 10)) 48)) 8 (ztop (zst (zprod (Tc g) (nc g) (Tc 10) (nc 10)) (Tc 11) 2 (T a (k + 1))) 48)) 11 (nc 10)) Z 10 (by omega) 8 (by omega) (zst (zprod (Tc g) (nc g) (Tc 10) (nc 10)) (Tc 11) 2 (T a (k + 1))) (by simp [va_up]) (ztop (zst (zprod (Tc g) (nc g) (Tc 10) (nc 10)) (Tc 11) 2 (T a (k + 1))) 48) (by simp [va_up])) gX2_makeComposition_X1_take rfl (by decide +kernel) ⟨Nat.le_of_ble_eq_true rfl, Nat.le_of_ble_eq_true rfl⟩ rfl (by omega) (zC_s (by omega)) rfl rfl hAm hP hS rfl hl.1 rfl (Nat.le_of_ble_eq_true rfl) dX2_makeComposition_66 ⟨Nat.zero_le _, Nat.zero_le _⟩ (zkn (fun H locs hP hS => ?_))
            refine W.eq (g2 := F0 m 69 ls []) rfl ?_
            refine lv_iinc (v := (nI k)) (lv' := [(3, .int (nI k)), (4, .long (zke (zst (zprod (Tc g) (nc g) (Tc 10) (nc 10)) (Tc 11) 2 (T a (k + 1))))), (0, .ref (F 24)), (1, .ref (F a)), (2, .ref (F g))]) hx hb dX2_makeComposition_69 hl (k := 4) rfl (zinc (by omega)) (by decide) rfl (fun ls hl => ?_)
            refine lv_goto (tgt := 19) hx hb dX2_makeComposition_72 (by decide) ?_
            exact ih19 k (va_up (va_up (va_up (va_up Tc 9 (zprod (Tc g) (nc g) (Tc 10) (nc 10))) 8 (zst (zprod (Tc g) (nc g) (Tc 10) (nc 10)) (Tc 11) 2 (T a (k + 1)))) 11 (Tc 10)) 10 (zst (zprod (Tc g) (nc g) (Tc 10) (nc 10)) (Tc 11) 2 (T a (k + 1)))) (va_up (va_up (va_up (va_up nc 9 (ztop (zprod (Tc g) (nc g) (Tc 10) (nc 10)) 48)) 8 (ztop (zst (zprod (Tc g) (nc g) (Tc 10) (nc 10)) (Tc 11) 2 (T a (k + 1))) 48)) 11 (nc 10)) 10 (ztop (zst (zprod (Tc g) (nc g) (Tc 10) (nc 10)) (Tc 11) 2 (T a (k + 1))) 48)) (by omega) (fun i hi => by simp only [zup8 _ _ (show ¬ i = 8 by omega), zup8 _ _ (show ¬ i = 9 by omega), zup8 _ _ (show ¬ i = 10 by omega), zup8 _ _ (show ¬ i = 11 by omega)]; exact hTc i hi) (by simp only [va_up_eq]; exact zke_24 hs0) (by rw [← hres2, zcomp, if_pos hs0z, (hTc g hg).1, (hTc g hg).2]; simp [va_up]) (by omega) H _ hP hS ls (lv_sub hl [2, 3, 4, 0] rfl)
          ·
            have hne := (fun h => c2 (hste.symm.trans h) : ¬ zste (zprod (Tc g) (nc g) (Tc 10) (nc 10)) (zst (zprod (Tc g) (nc g) (Tc 10) (nc 10)) (Tc 11) 2 (T a (k + 1))) = 0)
            refine lv_lload hx hb dX2_makeComposition_44 (lv_at hl 0 rfl) ?_
            exact zretL hx hb hr hlk hS hP dX2_makeComposition_46 ⟨_, _, by rw [← hres2, zcomp, if_neg hne, hste], rfl, (fun i hi => by simp only [zup8 _ _ (show ¬ i = 8 by omega), zup8 _ _ (show ¬ i = 9 by omega), zup8 _ _ (show ¬ i = 10 by omega), zup8 _ _ (show ¬ i = 11 by omega)]; exact hTc i hi), fun h => absurd h (by rw [← hres2, zcomp, if_neg hne]; exact hne)⟩
        ·
          have hste : zste (zprod (Tc g) (nc g) (Tc 10) (nc 10)) (zst (zprod (Tc g) (nc g) (Tc 10) (nc 10)) (Tc 11) 2 (T a (k + 1))) = zke (zprod (Tc g) (nc g) (Tc 10) (nc 10)) := by unfold zste; rw [if_neg hpe]
          refine zcallV (As := [.long (T a (k + 1)), .int (nI 2), .ref (F g)]) (rest := []) (q := 24) (k := 3) hx hb hml hown hts (kX2_makeStep_err l D cL cI cR A F hF Tc nc Z (T a (k + 1)) (nI 2) 2 rfl g hg (by omega) (by omega) hpe) gX2_makeComposition_X2_makeStep rfl (by decide +kernel) ⟨Nat.le_of_ble_eq_true rfl, Nat.le_of_ble_eq_true rfl⟩ rfl (by omega) (zC_o) rfl rfl hAm hP hS rfl hl.1 rfl (Nat.le_of_ble_eq_true rfl) dX2_makeComposition_32 ⟨Nat.zero_le _, Nat.zero_le _⟩ (zkn (fun H locs hP hS => ?_))
          refine W.eq (g2 := F0 m 35 ls [.long (zke (zprod (Tc g) (nc g) (Tc 10) (nc 10)))]) rfl ?_
          refine lv_lstore (lv' := [(4, .long (zke (zprod (Tc g) (nc g) (Tc 10) (nc 10)))), (0, .ref (F 24)), (1, .ref (F a)), (2, .ref (F g)), (3, .int (nI (k + 1)))]) hx hb dX2_makeComposition_35 hl (by decide) rfl (fun ls hl => ?_)
          refine lv_lload hx hb dX2_makeComposition_37 (lv_at hl 0 rfl) ?_
          refine lv_lconst (v := (0 : Int64)) hx hb dX2_makeComposition_39 (by decide +kernel) ?_
          refine zl_eq (tgt := 47) hx hb dX2_makeComposition_40 dX2_makeComposition_41 (by decide) (fun c3 => ?_) (fun c3 => ?_)
          ·
            exact absurd c3 hpe
          ·
            have hne := (fun h => c3 (hste.symm.trans h) : ¬ zste (zprod (Tc g) (nc g) (Tc 10) (nc 10)) (zst (zprod (Tc g) (nc g) (Tc 10) (nc 10)) (Tc 11) 2 (T a (k + 1))) = 0)
            refine lv_lload hx hb dX2_makeComposition_44 (lv_at hl 0 rfl) ?_
            exact zretL hx hb hr hlk hS hP dX2_makeComposition_46 ⟨_, _, by rw [← hres2, zcomp, if_neg hne, hste], rfl, (fun i hi => by simp only [zup8 _ _ (show ¬ i = 8 by omega), zup8 _ _ (show ¬ i = 9 by omega), zup8 _ _ (show ¬ i = 10 by omega), zup8 _ _ (show ¬ i = 11 by omega)]; exact hTc i hi), fun h => absurd h (by rw [← hres2, zcomp, if_neg hne]; exact hne)⟩
  exact L19 _ (top a) (va_up (va_up T 10 (fun _ => 0)) 11 (fun _ => 0)) (va_up (va_up top 10 0) 11 0) (by omega) (fun i hi => ⟨by rw [zup8 _ _ (by omega), zup8 _ _ (by omega)], by rw [zup8 _ _ (by omega), zup8 _ _ (by omega)]⟩) (by simp [va_up]) (by simp [va_up]) (Nat.lt_succ_self _) H _ hP hS ls (lv_sub hl [1, 2, 3, 0] rfl)
end
