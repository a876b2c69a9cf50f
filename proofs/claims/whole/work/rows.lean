section
-- ===== PART A: goes FIRST, ahead of the names: the tables' words, and 'selects' of the private methods out of them =====
/-- a private method of a class that the tables say can be made, by its rows of tables_1 -/
def lw_okq (q : MethodName × Nat) : Prop := (q.1.cls ≠ "java/lang/invoke/MethodHandle" ∧ q.1.cls ≠ "java/lang/invoke/VarHandle") ∧ Cond.instantiable q.1.cls q.2 ∈ tables_1 ∧ Cond.privateMethod q.1 ∈ tables_1 ∧ Cond.instanceMethod q.1 ∈ tables_1
theorem lw_p0 : lw_okq (⟨"PlayReader", "conditionOf", "(I)LPlayReader$Condition;"⟩, 10) := ⟨⟨by decide +kernel, by decide +kernel⟩, List.mem_of_getElem? (i := 11) (by decide +kernel), List.mem_of_getElem? (i := 220) (by decide +kernel), List.mem_of_getElem? (i := 221) (by decide +kernel)⟩
theorem lw_p1 : lw_okq (⟨"PlayReader", "forbiddenMarks", "(II)I"⟩, 10) := ⟨⟨by decide +kernel, by decide +kernel⟩, List.mem_of_getElem? (i := 11) (by decide +kernel), List.mem_of_getElem? (i := 353) (by decide +kernel), List.mem_of_getElem? (i := 354) (by decide +kernel)⟩
theorem lw_p2 : lw_okq (⟨"PlayReader", "ruleOf", "(I)LPlayReader$Rule;"⟩, 10) := ⟨⟨by decide +kernel, by decide +kernel⟩, List.mem_of_getElem? (i := 11) (by decide +kernel), List.mem_of_getElem? (i := 357) (by decide +kernel), List.mem_of_getElem? (i := 358) (by decide +kernel)⟩
theorem lw_p3 : lw_okq (⟨"PlayReader", "linesWith", "(LPlayReader$Row;I)I"⟩, 10) := ⟨⟨by decide +kernel, by decide +kernel⟩, List.mem_of_getElem? (i := 11) (by decide +kernel), List.mem_of_getElem? (i := 365) (by decide +kernel), List.mem_of_getElem? (i := 366) (by decide +kernel)⟩
theorem lw_p4 : lw_okq (⟨"PlayReader", "marksOf", "(I)I"⟩, 10) := ⟨⟨by decide +kernel, by decide +kernel⟩, List.mem_of_getElem? (i := 11) (by decide +kernel), List.mem_of_getElem? (i := 369) (by decide +kernel), List.mem_of_getElem? (i := 370) (by decide +kernel)⟩
theorem lw_p5 : lw_okq (⟨"PlayReader", "marksOfAll", "(LPlayReader$Row;)I"⟩, 10) := ⟨⟨by decide +kernel, by decide +kernel⟩, List.mem_of_getElem? (i := 11) (by decide +kernel), List.mem_of_getElem? (i := 420) (by decide +kernel), List.mem_of_getElem? (i := 421) (by decide +kernel)⟩
theorem lw_p6 : lw_okq (⟨"PlayReader", "lastForbiddenDay", "(III)I"⟩, 10) := ⟨⟨by decide +kernel, by decide +kernel⟩, List.mem_of_getElem? (i := 11) (by decide +kernel), List.mem_of_getElem? (i := 424) (by decide +kernel), List.mem_of_getElem? (i := 425) (by decide +kernel)⟩
theorem lw_p7 : lw_okq (⟨"PlayReader", "gapsHeard", "()I"⟩, 10) := ⟨⟨by decide +kernel, by decide +kernel⟩, List.mem_of_getElem? (i := 11) (by decide +kernel), List.mem_of_getElem? (i := 435) (by decide +kernel), List.mem_of_getElem? (i := 436) (by decide +kernel)⟩
theorem lw_p8 : lw_okq (⟨"PlayReader", "mixedRules", "(J)J"⟩, 10) := ⟨⟨by decide +kernel, by decide +kernel⟩, List.mem_of_getElem? (i := 11) (by decide +kernel), List.mem_of_getElem? (i := 452) (by decide +kernel), List.mem_of_getElem? (i := 453) (by decide +kernel)⟩
theorem lw_p9 : lw_okq (⟨"PlayReader", "mixedConditions", "(J)J"⟩, 10) := ⟨⟨by decide +kernel, by decide +kernel⟩, List.mem_of_getElem? (i := 11) (by decide +kernel), List.mem_of_getElem? (i := 456) (by decide +kernel), List.mem_of_getElem? (i := 457) (by decide +kernel)⟩
theorem lw_p10 : lw_okq (⟨"PlayReaderModel", "findFew", "(II)I"⟩, 20) := ⟨⟨by decide +kernel, by decide +kernel⟩, List.mem_of_getElem? (i := 460) (by decide +kernel), List.mem_of_getElem? (i := 557) (by decide +kernel), List.mem_of_getElem? (i := 558) (by decide +kernel)⟩
theorem lw_p11 : lw_okq (⟨"PlayReaderModel", "isAlike", "(IIII)Z"⟩, 20) := ⟨⟨by decide +kernel, by decide +kernel⟩, List.mem_of_getElem? (i := 460) (by decide +kernel), List.mem_of_getElem? (i := 561) (by decide +kernel), List.mem_of_getElem? (i := 562) (by decide +kernel)⟩
theorem lw_p12 : lw_okq (⟨"PlayReaderModel", "keeps", "(II)Z"⟩, 20) := ⟨⟨by decide +kernel, by decide +kernel⟩, List.mem_of_getElem? (i := 460) (by decide +kernel), List.mem_of_getElem? (i := 581) (by decide +kernel), List.mem_of_getElem? (i := 582) (by decide +kernel)⟩
theorem lw_p13 : lw_okq (⟨"PlayReaderModel", "judged", "(II)I"⟩, 20) := ⟨⟨by decide +kernel, by decide +kernel⟩, List.mem_of_getElem? (i := 460) (by decide +kernel), List.mem_of_getElem? (i := 604) (by decide +kernel), List.mem_of_getElem? (i := 605) (by decide +kernel)⟩
theorem lw_p14 : lw_okq (⟨"PlayReaderModel", "cutOf", "(III)I"⟩, 20) := ⟨⟨by decide +kernel, by decide +kernel⟩, List.mem_of_getElem? (i := 460) (by decide +kernel), List.mem_of_getElem? (i := 638) (by decide +kernel), List.mem_of_getElem? (i := 639) (by decide +kernel)⟩
theorem lw_p15 : lw_okq (⟨"PlayReaderModel", "forbidden", "(II)I"⟩, 20) := ⟨⟨by decide +kernel, by decide +kernel⟩, List.mem_of_getElem? (i := 460) (by decide +kernel), List.mem_of_getElem? (i := 642) (by decide +kernel), List.mem_of_getElem? (i := 643) (by decide +kernel)⟩
def lw_privs_1 : List (MethodName × Nat) := [(⟨"PlayReader", "conditionOf", "(I)LPlayReader$Condition;"⟩, 10), (⟨"PlayReader", "forbiddenMarks", "(II)I"⟩, 10), (⟨"PlayReader", "ruleOf", "(I)LPlayReader$Rule;"⟩, 10), (⟨"PlayReader", "linesWith", "(LPlayReader$Row;I)I"⟩, 10), (⟨"PlayReader", "marksOf", "(I)I"⟩, 10), (⟨"PlayReader", "marksOfAll", "(LPlayReader$Row;)I"⟩, 10), (⟨"PlayReader", "lastForbiddenDay", "(III)I"⟩, 10), (⟨"PlayReader", "gapsHeard", "()I"⟩, 10), (⟨"PlayReader", "mixedRules", "(J)J"⟩, 10), (⟨"PlayReader", "mixedConditions", "(J)J"⟩, 10), (⟨"PlayReaderModel", "findFew", "(II)I"⟩, 20), (⟨"PlayReaderModel", "isAlike", "(IIII)Z"⟩, 20), (⟨"PlayReaderModel", "keeps", "(II)Z"⟩, 20), (⟨"PlayReaderModel", "judged", "(II)I"⟩, 20), (⟨"PlayReaderModel", "cutOf", "(III)I"⟩, 20), (⟨"PlayReaderModel", "forbidden", "(II)I"⟩, 20)]
theorem lw_r1 : ∀ q ∈ lw_privs_1, lw_okq q := List.forall_mem_cons.mpr ⟨lw_p0, List.forall_mem_cons.mpr ⟨lw_p1, List.forall_mem_cons.mpr ⟨lw_p2, List.forall_mem_cons.mpr ⟨lw_p3, List.forall_mem_cons.mpr ⟨lw_p4, List.forall_mem_cons.mpr ⟨lw_p5, List.forall_mem_cons.mpr ⟨lw_p6, List.forall_mem_cons.mpr ⟨lw_p7, List.forall_mem_cons.mpr ⟨lw_p8, List.forall_mem_cons.mpr ⟨lw_p9, List.forall_mem_cons.mpr ⟨lw_p10, List.forall_mem_cons.mpr ⟨lw_p11, List.forall_mem_cons.mpr ⟨lw_p12, List.forall_mem_cons.mpr ⟨lw_p13, List.forall_mem_cons.mpr ⟨lw_p14, List.forall_mem_cons.mpr ⟨lw_p15, fun _ h => absurd h List.not_mem_nil⟩⟩⟩⟩⟩⟩⟩⟩⟩⟩⟩⟩⟩⟩⟩⟩
def lw_privs : List (MethodName × Nat) := lw_privs_1
def lw_tbl : List Cond := k2_sels lw_privs ++ tables_1
theorem lw_privs_ok : ∀ q ∈ lw_privs, lw_okq q := lw_r1
-- ===== end of PART A; then your names; then what follows =====
end
section
def RX0 : String := "PlayReader$Changes"
def TX0 : u_T := fun k => match k with
  | _ => ("PlayReader$Changes", "left", "[[I", true)
def tyX0 : Nat → FieldType := fun k => match k with
  | _ => .array (.array .int)
theorem nmX0 : ∀ a, a < 1 → ∀ b, b < 1 → a ≠ b → (TX0 a).2.1 ≠ (TX0 b).2.1 := by decide +kernel
theorem tyX0_ok : ∀ k, k < 1 → parseFieldDescriptor (TX0 k).2.2.1 = some (tyX0 k) := by decide +kernel
abbrev cX0_init : ByteArray := prog_2_method_1_code
def yX0_init : MethodName := ⟨RX0, "<init>", "()V"⟩
abbrev cX0_compare : ByteArray := prog_2_method_2_code
def yX0_compare : MethodName := ⟨RX0, "compare", "(LPlayReader$Row;LPlayReader$Row;)V"⟩
abbrev cX0_difference : ByteArray := prog_2_method_3_code
def yX0_difference : MethodName := ⟨RX0, "difference", "()I"⟩
abbrev cX0_leftFrom : ByteArray := prog_2_method_4_code
def yX0_leftFrom : MethodName := ⟨RX0, "leftFrom", "(II)I"⟩
abbrev cX0_differenceFrom : ByteArray := prog_2_method_5_code
def yX0_differenceFrom : MethodName := ⟨RX0, "differenceFrom", "(LPlayReader$Row;ILPlayReader$Row;I)I"⟩
abbrev cX0_stepAt : ByteArray := prog_2_method_6_code
def yX0_stepAt : MethodName := ⟨RX0, "stepAt", "(LPlayReader$Row;LPlayReader$Row;I)I"⟩
abbrev cX0_stepFrom : ByteArray := prog_2_method_7_code
def yX0_stepFrom : MethodName := ⟨RX0, "stepFrom", "(LPlayReader$Row;ILPlayReader$Row;I)I"⟩
def RX1 : String := "PlayReader$Condition"
def TX1 : u_T := fun k => match k with
  | 0 => ("PlayReader$Condition", "sort", "I", true)
  | 1 => ("PlayReader$Condition", "x", "I", true)
  | _ => ("PlayReader$Condition", "y", "I", true)
def tyX1 : Nat → FieldType := fun k => match k with
  | 0 => .int
  | 1 => .int
  | _ => .int
theorem nmX1 : ∀ a, a < 3 → ∀ b, b < 3 → a ≠ b → (TX1 a).2.1 ≠ (TX1 b).2.1 := by decide +kernel
theorem tyX1_ok : ∀ k, k < 3 → parseFieldDescriptor (TX1 k).2.2.1 = some (tyX1 k) := by decide +kernel
abbrev cX1_init : ByteArray := prog_3_method_1_code
def yX1_init : MethodName := ⟨RX1, "<init>", "(III)V"⟩
abbrev cX1_judgement : ByteArray := prog_3_method_2_code
def yX1_judgement : MethodName := ⟨RX1, "judgement", "(LPlayReader$Row;)I"⟩
abbrev cX1_statesBehind : ByteArray := prog_3_method_3_code
def yX1_statesBehind : MethodName := ⟨RX1, "statesBehind", "(LPlayReader$Row;)J"⟩
abbrev cX1_statesBehindLine : ByteArray := prog_3_method_4_code
def yX1_statesBehindLine : MethodName := ⟨RX1, "statesBehindLine", "(JI)J"⟩
abbrev cX1_statesBehindGap : ByteArray := prog_3_method_5_code
def yX1_statesBehindGap : MethodName := ⟨RX1, "statesBehindGap", "(J)J"⟩
abbrev cX1_lastState : ByteArray := prog_3_method_6_code
def yX1_lastState : MethodName := ⟨RX1, "lastState", "()I"⟩
abbrev cX1_next : ByteArray := prog_3_method_7_code
def yX1_next : MethodName := ⟨RX1, "next", "(II)I"⟩
abbrev cX1_isBroken : ByteArray := prog_3_method_8_code
def yX1_isBroken : MethodName := ⟨RX1, "isBroken", "(I)Z"⟩
def RX2 : String := "PlayReader$Row"
def TX2 : u_T := fun k => match k with
  | 0 => ("PlayReader$Row", "things", "[I", true)
  | _ => ("PlayReader$Row", "size", "I", false)
def tyX2 : Nat → FieldType := fun k => match k with
  | 0 => .array .int
  | _ => .int
theorem nmX2 : ∀ a, a < 2 → ∀ b, b < 2 → a ≠ b → (TX2 a).2.1 ≠ (TX2 b).2.1 := by decide +kernel
theorem tyX2_ok : ∀ k, k < 2 → parseFieldDescriptor (TX2 k).2.2.1 = some (tyX2 k) := by decide +kernel
abbrev cX2_init : ByteArray := prog_4_method_1_code
def yX2_init : MethodName := ⟨RX2, "<init>", "()V"⟩
abbrev cX2_has : ByteArray := prog_4_method_2_code
def yX2_has : MethodName := ⟨RX2, "has", "(I)Z"⟩
abbrev cX2_at : ByteArray := prog_4_method_3_code
def yX2_at : MethodName := ⟨RX2, "at", "(I)I"⟩
abbrev cX2_isFull : ByteArray := prog_4_method_4_code
def yX2_isFull : MethodName := ⟨RX2, "isFull", "()Z"⟩
abbrev cX2_insert : ByteArray := prog_4_method_5_code
def yX2_insert : MethodName := ⟨RX2, "insert", "(II)V"⟩
abbrev cX2_remove : ByteArray := prog_4_method_6_code
def yX2_remove : MethodName := ⟨RX2, "remove", "(I)V"⟩
abbrev cX2_empty : ByteArray := prog_4_method_7_code
def yX2_empty : MethodName := ⟨RX2, "empty", "()V"⟩
abbrev cX2_become : ByteArray := prog_4_method_8_code
def yX2_become : MethodName := ⟨RX2, "become", "(LPlayReader$Row;)V"⟩
def RX3 : String := "PlayReader$Rule"
def TX3 : u_T := fun k => match k with
  | 0 => ("PlayReader$Rule", "town", "I", true)
  | 1 => ("PlayReader$Rule", "marks", "I", true)
  | 2 => ("PlayReader$Rule", "from", "I", true)
  | _ => ("PlayReader$Rule", "to", "I", true)
def tyX3 : Nat → FieldType := fun k => match k with
  | 0 => .int
  | 1 => .int
  | 2 => .int
  | _ => .int
theorem nmX3 : ∀ a, a < 4 → ∀ b, b < 4 → a ≠ b → (TX3 a).2.1 ≠ (TX3 b).2.1 := by decide +kernel
theorem tyX3_ok : ∀ k, k < 4 → parseFieldDescriptor (TX3 k).2.2.1 = some (tyX3 k) := by decide +kernel
abbrev cX3_init : ByteArray := prog_5_method_1_code
def yX3_init : MethodName := ⟨RX3, "<init>", "(IIII)V"⟩
abbrev cX3_isInForce : ByteArray := prog_5_method_2_code
def yX3_isInForce : MethodName := ⟨RX3, "isInForce", "(II)Z"⟩
def RX4 : String := "PlayReader$TourPlan"
def TX4 : u_T := fun k => match k with
  | 0 => ("PlayReader$TourPlan", "order", "LPlayReader$Row;", true)
  | 1 => ("PlayReader$TourPlan", "cuts", "[[I", true)
  | _ => ("PlayReader$TourPlan", "fewest", "[I", true)
def tyX4 : Nat → FieldType := fun k => match k with
  | 0 => .object "PlayReader$Row"
  | 1 => .array (.array .int)
  | _ => .array .int
theorem nmX4 : ∀ a, a < 3 → ∀ b, b < 3 → a ≠ b → (TX4 a).2.1 ≠ (TX4 b).2.1 := by decide +kernel
theorem tyX4_ok : ∀ k, k < 3 → parseFieldDescriptor (TX4 k).2.2.1 = some (tyX4 k) := by decide +kernel
abbrev cX4_init : ByteArray := prog_6_method_1_code
def yX4_init : MethodName := ⟨RX4, "<init>", "()V"⟩
abbrev cX4_setCuts : ByteArray := prog_6_method_2_code
def yX4_setCuts : MethodName := ⟨RX4, "setCuts", "(III)V"⟩
abbrev cX4_find : ByteArray := prog_6_method_3_code
def yX4_find : MethodName := ⟨RX4, "find", "(I)I"⟩
abbrev cX4_fewestBehind : ByteArray := prog_6_method_4_code
def yX4_fewestBehind : MethodName := ⟨RX4, "fewestBehind", "(II)I"⟩
abbrev cX4_nextTown : ByteArray := prog_6_method_5_code
def yX4_nextTown : MethodName := ⟨RX4, "nextTown", "(II)I"⟩
abbrev cX4_cutsBy : ByteArray := prog_6_method_6_code
def yX4_cutsBy : MethodName := ⟨RX4, "cutsBy", "(II)I"⟩
def RX5 : String := "PlayReader"
def TX5 : u_T := fun k => match k with
  | 0 => ("PlayReader", "versions", "[LPlayReader$Row;", true)
  | 1 => ("PlayReader", "performances", "[LPlayReader$Row;", true)
  | 2 => ("PlayReader", "conditions", "[LPlayReader$Condition;", true)
  | 3 => ("PlayReader", "rules", "[LPlayReader$Rule;", true)
  | 4 => ("PlayReader", "marks", "[I", true)
  | 5 => ("PlayReader", "changes", "LPlayReader$Changes;", true)
  | 6 => ("PlayReader", "latestTour", "LPlayReader$TourPlan;", true)
  | 7 => ("PlayReader", "twoEars", "LPlayReader$Row;", true)
  | 8 => ("PlayReader", "conditionCount", "I", false)
  | _ => ("PlayReader", "ruleCount", "I", false)
def tyX5 : Nat → FieldType := fun k => match k with
  | 0 => .array (.object "PlayReader$Row")
  | 1 => .array (.object "PlayReader$Row")
  | 2 => .array (.object "PlayReader$Condition")
  | 3 => .array (.object "PlayReader$Rule")
  | 4 => .array .int
  | 5 => .object "PlayReader$Changes"
  | 6 => .object "PlayReader$TourPlan"
  | 7 => .object "PlayReader$Row"
  | 8 => .int
  | _ => .int
theorem nmX5 : ∀ a, a < 10 → ∀ b, b < 10 → a ≠ b → (TX5 a).2.1 ≠ (TX5 b).2.1 := by decide +kernel
theorem tyX5_ok : ∀ k, k < 10 → parseFieldDescriptor (TX5 k).2.2.1 = some (tyX5 k) := by decide +kernel
abbrev cX5_init : ByteArray := prog_1_method_1_code
def yX5_init : MethodName := ⟨RX5, "<init>", "()V"⟩
abbrev cX5_put : ByteArray := prog_1_method_2_code
def yX5_put : MethodName := ⟨RX5, "put", "(III)I"⟩
abbrev cX5_take : ByteArray := prog_1_method_3_code
def yX5_take : MethodName := ⟨RX5, "take", "(II)I"⟩
abbrev cX5_copy : ByteArray := prog_1_method_4_code
def yX5_copy : MethodName := ⟨RX5, "copy", "(II)I"⟩
abbrev cX5_lineAt : ByteArray := prog_1_method_5_code
def yX5_lineAt : MethodName := ⟨RX5, "lineAt", "(II)I"⟩
abbrev cX5_differ : ByteArray := prog_1_method_6_code
def yX5_differ : MethodName := ⟨RX5, "differ", "(II)I"⟩
abbrev cX5_step : ByteArray := prog_1_method_7_code
def yX5_step : MethodName := ⟨RX5, "step", "(III)I"⟩
abbrev cX5_condition : ByteArray := prog_1_method_8_code
def yX5_condition : MethodName := ⟨RX5, "condition", "(III)I"⟩
abbrev cX5_clear : ByteArray := prog_1_method_9_code
def yX5_clear : MethodName := ⟨RX5, "clear", "()I"⟩
abbrev cX5_breaks : ByteArray := prog_1_method_10_code
def yX5_breaks : MethodName := ⟨RX5, "breaks", "(I)I"⟩
abbrev cX5_hear : ByteArray := prog_1_method_11_code
def yX5_hear : MethodName := ⟨RX5, "hear", "(II)I"⟩
abbrev cX5_forget : ByteArray := prog_1_method_12_code
def yX5_forget : MethodName := ⟨RX5, "forget", "(I)I"⟩
abbrev cX5_heard : ByteArray := prog_1_method_13_code
def yX5_heard : MethodName := ⟨RX5, "heard", "(II)I"⟩
abbrev cX5_judge : ByteArray := prog_1_method_14_code
def yX5_judge : MethodName := ⟨RX5, "judge", "(II)I"⟩
abbrev cX5_verdict : ByteArray := prog_1_method_15_code
def yX5_verdict : MethodName := ⟨RX5, "verdict", "(I)I"⟩
abbrev cX5_both : ByteArray := prog_1_method_16_code
def yX5_both : MethodName := ⟨RX5, "both", "(III)I"⟩
abbrev cX5_may : ByteArray := prog_1_method_17_code
def yX5_may : MethodName := ⟨RX5, "may", "(II)I"⟩
abbrev cX5_mark : ByteArray := prog_1_method_18_code
def yX5_mark : MethodName := ⟨RX5, "mark", "(II)I"⟩
abbrev cX5_rule : ByteArray := prog_1_method_19_code
def yX5_rule : MethodName := ⟨RX5, "rule", "(IIII)I"⟩
abbrev cX5_cut : ByteArray := prog_1_method_20_code
def yX5_cut : MethodName := ⟨RX5, "cut", "(III)I"⟩
abbrev cX5_fit : ByteArray := prog_1_method_21_code
def yX5_fit : MethodName := ⟨RX5, "fit", "(IIII)I"⟩
abbrev cX5_tour : ByteArray := prog_1_method_22_code
def yX5_tour : MethodName := ⟨RX5, "tour", "(IIII)I"⟩
abbrev cX5_town : ByteArray := prog_1_method_23_code
def yX5_town : MethodName := ⟨RX5, "town", "(I)I"⟩
abbrev cX5_free : ByteArray := prog_1_method_24_code
def yX5_free : MethodName := ⟨RX5, "free", "(III)I"⟩
abbrev cX5_count : ByteArray := prog_1_method_25_code
def yX5_count : MethodName := ⟨RX5, "count", "(I)I"⟩
abbrev cX5_digest : ByteArray := prog_1_method_26_code
def yX5_digest : MethodName := ⟨RX5, "digest", "()J"⟩
abbrev cX5_isLine : ByteArray := prog_1_method_27_code
def yX5_isLine : MethodName := ⟨RX5, "isLine", "(I)Z"⟩
abbrev cX5_isTown : ByteArray := prog_1_method_28_code
def yX5_isTown : MethodName := ⟨RX5, "isTown", "(I)Z"⟩
abbrev cX5_isMarks : ByteArray := prog_1_method_29_code
def yX5_isMarks : MethodName := ⟨RX5, "isMarks", "(I)Z"⟩
abbrev cX5_isDay : ByteArray := prog_1_method_30_code
def yX5_isDay : MethodName := ⟨RX5, "isDay", "(I)Z"⟩
abbrev cX5_rowOf : ByteArray := prog_1_method_31_code
def yX5_rowOf : MethodName := ⟨RX5, "rowOf", "([LPlayReader$Row;I)LPlayReader$Row;"⟩
abbrev cX5_conditionOf : ByteArray := prog_1_method_32_code
def yX5_conditionOf : MethodName := ⟨RX5, "conditionOf", "(I)LPlayReader$Condition;"⟩
abbrev cX5_ruleOf : ByteArray := prog_1_method_33_code
def yX5_ruleOf : MethodName := ⟨RX5, "ruleOf", "(I)LPlayReader$Rule;"⟩
abbrev cX5_hasBit : ByteArray := prog_1_method_34_code
def yX5_hasBit : MethodName := ⟨RX5, "hasBit", "(JI)Z"⟩
abbrev cX5_judgementOf : ByteArray := prog_1_method_35_code
def yX5_judgementOf : MethodName := ⟨RX5, "judgementOf", "(LPlayReader$Row;LPlayReader$Condition;)I"⟩
abbrev cX5_isQuarrel : ByteArray := prog_1_method_36_code
def yX5_isQuarrel : MethodName := ⟨RX5, "isQuarrel", "(II)Z"⟩
abbrev cX5_heardByTwo : ByteArray := prog_1_method_37_code
def yX5_heardByTwo : MethodName := ⟨RX5, "heardByTwo", "(II)I"⟩
abbrev cX5_placesBehind : ByteArray := prog_1_method_38_code
def yX5_placesBehind : MethodName := ⟨RX5, "placesBehind", "(LPlayReader$Row;LPlayReader$Row;)J"⟩
abbrev cX5_placesBehindLine : ByteArray := prog_1_method_39_code
def yX5_placesBehindLine : MethodName := ⟨RX5, "placesBehindLine", "(JLPlayReader$Row;I)J"⟩
abbrev cX5_placesBehindGap : ByteArray := prog_1_method_40_code
def yX5_placesBehindGap : MethodName := ⟨RX5, "placesBehindGap", "(JLPlayReader$Row;)J"⟩
abbrev cX5_gapsHeard : ByteArray := prog_1_method_41_code
def yX5_gapsHeard : MethodName := ⟨RX5, "gapsHeard", "()I"⟩
abbrev cX5_thingsIn : ByteArray := prog_1_method_42_code
def yX5_thingsIn : MethodName := ⟨RX5, "thingsIn", "([LPlayReader$Row;)I"⟩
abbrev cX5_marksOf : ByteArray := prog_1_method_43_code
def yX5_marksOf : MethodName := ⟨RX5, "marksOf", "(I)I"⟩
abbrev cX5_marksOfAll : ByteArray := prog_1_method_44_code
def yX5_marksOfAll : MethodName := ⟨RX5, "marksOfAll", "(LPlayReader$Row;)I"⟩
abbrev cX5_linesWith : ByteArray := prog_1_method_45_code
def yX5_linesWith : MethodName := ⟨RX5, "linesWith", "(LPlayReader$Row;I)I"⟩
abbrev cX5_forbiddenMarks : ByteArray := prog_1_method_46_code
def yX5_forbiddenMarks : MethodName := ⟨RX5, "forbiddenMarks", "(II)I"⟩
abbrev cX5_lastForbiddenDay : ByteArray := prog_1_method_47_code
def yX5_lastForbiddenDay : MethodName := ⟨RX5, "lastForbiddenDay", "(III)I"⟩
abbrev cX5_mixed : ByteArray := prog_1_method_48_code
def yX5_mixed : MethodName := ⟨RX5, "mixed", "(JI)J"⟩
abbrev cX5_mixedRows : ByteArray := prog_1_method_49_code
def yX5_mixedRows : MethodName := ⟨RX5, "mixedRows", "(J[LPlayReader$Row;)J"⟩
abbrev cX5_mixedRules : ByteArray := prog_1_method_50_code
def yX5_mixedRules : MethodName := ⟨RX5, "mixedRules", "(J)J"⟩
abbrev cX5_mixedConditions : ByteArray := prog_1_method_51_code
def yX5_mixedConditions : MethodName := ⟨RX5, "mixedConditions", "(J)J"⟩
def RX6 : String := "PlayReaderModel"
def TX6 : u_T := fun k => match k with
  | 0 => ("PlayReaderModel", "lines", "[I", true)
  | 1 => ("PlayReaderModel", "sizes", "[I", true)
  | 2 => ("PlayReaderModel", "things", "[I", true)
  | 3 => ("PlayReaderModel", "heard", "[I", true)
  | 4 => ("PlayReaderModel", "conditions", "I", false)
  | 5 => ("PlayReaderModel", "sorts", "[I", true)
  | 6 => ("PlayReaderModel", "xs", "[I", true)
  | 7 => ("PlayReaderModel", "ys", "[I", true)
  | 8 => ("PlayReaderModel", "marks", "[I", true)
  | 9 => ("PlayReaderModel", "rules", "I", false)
  | 10 => ("PlayReaderModel", "ruleTown", "[I", true)
  | 11 => ("PlayReaderModel", "ruleMarks", "[I", true)
  | 12 => ("PlayReaderModel", "ruleFrom", "[I", true)
  | 13 => ("PlayReaderModel", "ruleTo", "[I", true)
  | 14 => ("PlayReaderModel", "few", "[I", true)
  | 15 => ("PlayReaderModel", "fewest", "[I", true)
  | 16 => ("PlayReaderModel", "cuts", "[I", true)
  | 17 => ("PlayReaderModel", "toured", "I", false)
  | 18 => ("PlayReaderModel", "tour", "[I", true)
  | _ => ("PlayReaderModel", "fits", "[Z", true)
def tyX6 : Nat → FieldType := fun k => match k with
  | 0 => .array .int
  | 1 => .array .int
  | 2 => .array .int
  | 3 => .array .int
  | 4 => .int
  | 5 => .array .int
  | 6 => .array .int
  | 7 => .array .int
  | 8 => .array .int
  | 9 => .int
  | 10 => .array .int
  | 11 => .array .int
  | 12 => .array .int
  | 13 => .array .int
  | 14 => .array .int
  | 15 => .array .int
  | 16 => .array .int
  | 17 => .int
  | 18 => .array .int
  | _ => .array .boolean
theorem nmX6 : ∀ a, a < 20 → ∀ b, b < 20 → a ≠ b → (TX6 a).2.1 ≠ (TX6 b).2.1 := by decide +kernel
theorem tyX6_ok : ∀ k, k < 20 → parseFieldDescriptor (TX6 k).2.2.1 = some (tyX6 k) := by decide +kernel
abbrev cX6_init : ByteArray := prog_8_method_1_code
def yX6_init : MethodName := ⟨RX6, "<init>", "()V"⟩
abbrev cX6_in : ByteArray := prog_8_method_2_code
def yX6_in : MethodName := ⟨RX6, "in", "(III)Z"⟩
abbrev cX6_isVersion : ByteArray := prog_8_method_3_code
def yX6_isVersion : MethodName := ⟨RX6, "isVersion", "(I)Z"⟩
abbrev cX6_isLine : ByteArray := prog_8_method_4_code
def yX6_isLine : MethodName := ⟨RX6, "isLine", "(I)Z"⟩
abbrev cX6_isHeard : ByteArray := prog_8_method_5_code
def yX6_isHeard : MethodName := ⟨RX6, "isHeard", "(I)Z"⟩
abbrev cX6_put : ByteArray := prog_8_method_6_code
def yX6_put : MethodName := ⟨RX6, "put", "(III)I"⟩
abbrev cX6_take : ByteArray := prog_8_method_7_code
def yX6_take : MethodName := ⟨RX6, "take", "(II)I"⟩
abbrev cX6_copy : ByteArray := prog_8_method_8_code
def yX6_copy : MethodName := ⟨RX6, "copy", "(II)I"⟩
abbrev cX6_lineAt : ByteArray := prog_8_method_9_code
def yX6_lineAt : MethodName := ⟨RX6, "lineAt", "(II)I"⟩
abbrev cX6_isAlike : ByteArray := prog_8_method_10_code
def yX6_isAlike : MethodName := ⟨RX6, "isAlike", "(IIII)Z"⟩
abbrev cX6_findFew : ByteArray := prog_8_method_11_code
def yX6_findFew : MethodName := ⟨RX6, "findFew", "(II)I"⟩
abbrev cX6_differ : ByteArray := prog_8_method_12_code
def yX6_differ : MethodName := ⟨RX6, "differ", "(II)I"⟩
abbrev cX6_step : ByteArray := prog_8_method_13_code
def yX6_step : MethodName := ⟨RX6, "step", "(III)I"⟩
abbrev cX6_condition : ByteArray := prog_8_method_14_code
def yX6_condition : MethodName := ⟨RX6, "condition", "(III)I"⟩
abbrev cX6_clear : ByteArray := prog_8_method_15_code
def yX6_clear : MethodName := ⟨RX6, "clear", "()I"⟩
abbrev cX6_keeps : ByteArray := prog_8_method_16_code
def yX6_keeps : MethodName := ⟨RX6, "keeps", "(II)Z"⟩
abbrev cX6_breaks : ByteArray := prog_8_method_17_code
def yX6_breaks : MethodName := ⟨RX6, "breaks", "(I)I"⟩
abbrev cX6_hear : ByteArray := prog_8_method_18_code
def yX6_hear : MethodName := ⟨RX6, "hear", "(II)I"⟩
abbrev cX6_forget : ByteArray := prog_8_method_19_code
def yX6_forget : MethodName := ⟨RX6, "forget", "(I)I"⟩
abbrev cX6_heard : ByteArray := prog_8_method_20_code
def yX6_heard : MethodName := ⟨RX6, "heard", "(II)I"⟩
abbrev cX6_judged : ByteArray := prog_8_method_21_code
def yX6_judged : MethodName := ⟨RX6, "judged", "(II)I"⟩
abbrev cX6_judge : ByteArray := prog_8_method_22_code
def yX6_judge : MethodName := ⟨RX6, "judge", "(II)I"⟩
abbrev cX6_verdict : ByteArray := prog_8_method_23_code
def yX6_verdict : MethodName := ⟨RX6, "verdict", "(I)I"⟩
abbrev cX6_both : ByteArray := prog_8_method_24_code
def yX6_both : MethodName := ⟨RX6, "both", "(III)I"⟩
abbrev cX6_may : ByteArray := prog_8_method_25_code
def yX6_may : MethodName := ⟨RX6, "may", "(II)I"⟩
abbrev cX6_mark : ByteArray := prog_8_method_26_code
def yX6_mark : MethodName := ⟨RX6, "mark", "(II)I"⟩
abbrev cX6_isTown : ByteArray := prog_8_method_27_code
def yX6_isTown : MethodName := ⟨RX6, "isTown", "(I)Z"⟩
abbrev cX6_isDay : ByteArray := prog_8_method_28_code
def yX6_isDay : MethodName := ⟨RX6, "isDay", "(I)Z"⟩
abbrev cX6_rule : ByteArray := prog_8_method_29_code
def yX6_rule : MethodName := ⟨RX6, "rule", "(IIII)I"⟩
abbrev cX6_forbidden : ByteArray := prog_8_method_30_code
def yX6_forbidden : MethodName := ⟨RX6, "forbidden", "(II)I"⟩
abbrev cX6_cutOf : ByteArray := prog_8_method_31_code
def yX6_cutOf : MethodName := ⟨RX6, "cutOf", "(III)I"⟩
abbrev cX6_cut : ByteArray := prog_8_method_32_code
def yX6_cut : MethodName := ⟨RX6, "cut", "(III)I"⟩
abbrev cX6_fit : ByteArray := prog_8_method_33_code
def yX6_fit : MethodName := ⟨RX6, "fit", "(IIII)I"⟩
abbrev cX6_many : ByteArray := prog_8_method_34_code
def yX6_many : MethodName := ⟨RX6, "many", "(I)I"⟩
abbrev cX6_tour : ByteArray := prog_8_method_35_code
def yX6_tour : MethodName := ⟨RX6, "tour", "(IIII)I"⟩
abbrev cX6_town : ByteArray := prog_8_method_36_code
def yX6_town : MethodName := ⟨RX6, "town", "(I)I"⟩
abbrev cX6_free : ByteArray := prog_8_method_37_code
def yX6_free : MethodName := ⟨RX6, "free", "(III)I"⟩
abbrev cX6_count : ByteArray := prog_8_method_38_code
def yX6_count : MethodName := ⟨RX6, "count", "(I)I"⟩
abbrev cX6_digest : ByteArray := prog_8_method_39_code
def yX6_digest : MethodName := ⟨RX6, "digest", "()J"⟩
def RJ6 : String := "java/lang/Integer"
def TJ6 : u_T := fun k => match k with
  | _ => ("", "", "", false)
def tyJ6 : Nat → FieldType := fun k => match k with
  | _ => .int
abbrev cJ6_bitCount_0f7a4 : ByteArray := prog_9_method_49_code
def yJ6_bitCount_0f7a4 : MethodName := ⟨RJ6, "bitCount", "(I)I"⟩
def RJ9 : String := "java/lang/Math"
def TJ9 : u_T := fun k => match k with
  | _ => ("", "", "", false)
def tyJ9 : Nat → FieldType := fun k => match k with
  | _ => .int
abbrev cJ9_max_7cf53 : ByteArray := prog_10_method_65_code
def yJ9_max_7cf53 : MethodName := ⟨RJ9, "max", "(II)I"⟩
abbrev cJ9_min_7cf53 : ByteArray := prog_10_method_69_code
def yJ9_min_7cf53 : MethodName := ⟨RJ9, "min", "(II)I"⟩
def RL : String := "PlayReaderLaw"
abbrev cL_law : ByteArray := code
def yL_law : MethodName := ⟨RL, "law", "([I)Z"⟩
abbrev vwCl : List vw_C := [(RX0, TX0, 1), (RX1, TX1, 3), (RX2, TX2, 2), (RX3, TX3, 4), (RX4, TX4, 3), (RX5, TX5, 10), (RX6, TX6, 20)]
end
section
theorem dX0_init_0 : decode cX0_init 0 = .ok (.aload_n 0, 1) := by decide +kernel
theorem dX0_init_1 : decode cX0_init 1 = .ok (.invokespecial 3, 3) := by decide +kernel
theorem dX0_init_4 : decode cX0_init 4 = .ok (.aload_n 0, 1) := by decide +kernel
theorem dX0_init_5 : decode cX0_init 5 = .ok (.bipush 41, 2) := by decide +kernel
theorem dX0_init_7 : decode cX0_init 7 = .ok (.bipush 41, 2) := by decide +kernel
theorem dX0_init_9 : decode cX0_init 9 = .ok (.multianewarray 9 2, 4) := by decide +kernel
theorem dX0_init_13 : decode cX0_init 13 = .ok (.putfield 11, 3) := by decide +kernel
theorem dX0_init_16 : decode cX0_init 16 = .ok (.return_, 1) := by decide +kernel
theorem dX0_compare_0 : decode cX0_compare 0 = .ok (.aload_n 1, 1) := by decide +kernel
theorem dX0_compare_1 : decode cX0_compare 1 = .ok (.getfield 16, 3) := by decide +kernel
theorem dX0_compare_4 : decode cX0_compare 4 = .ok (.istore_n 3, 1) := by decide +kernel
theorem dX0_compare_5 : decode cX0_compare 5 = .ok (.iload_n 3, 1) := by decide +kernel
theorem dX0_compare_6 : decode cX0_compare 6 = .ok (.ifCond .lt 44, 3) := by decide +kernel
theorem dX0_compare_9 : decode cX0_compare 9 = .ok (.aload_n 2, 1) := by decide +kernel
theorem dX0_compare_10 : decode cX0_compare 10 = .ok (.getfield 16, 3) := by decide +kernel
theorem dX0_compare_13 : decode cX0_compare 13 = .ok (.istore 4, 2) := by decide +kernel
theorem dX0_compare_15 : decode cX0_compare 15 = .ok (.iload 4, 2) := by decide +kernel
theorem dX0_compare_17 : decode cX0_compare 17 = .ok (.ifCond .lt 27, 3) := by decide +kernel
theorem dX0_compare_20 : decode cX0_compare 20 = .ok (.aload_n 0, 1) := by decide +kernel
theorem dX0_compare_21 : decode cX0_compare 21 = .ok (.getfield 11, 3) := by decide +kernel
theorem dX0_compare_24 : decode cX0_compare 24 = .ok (.iload_n 3, 1) := by decide +kernel
theorem dX0_compare_25 : decode cX0_compare 25 = .ok (.aaload, 1) := by decide +kernel
theorem dX0_compare_26 : decode cX0_compare 26 = .ok (.iload 4, 2) := by decide +kernel
theorem dX0_compare_28 : decode cX0_compare 28 = .ok (.aload_n 0, 1) := by decide +kernel
theorem dX0_compare_29 : decode cX0_compare 29 = .ok (.aload_n 1, 1) := by decide +kernel
theorem dX0_compare_30 : decode cX0_compare 30 = .ok (.iload_n 3, 1) := by decide +kernel
theorem dX0_compare_31 : decode cX0_compare 31 = .ok (.aload_n 2, 1) := by decide +kernel
theorem dX0_compare_32 : decode cX0_compare 32 = .ok (.iload 4, 2) := by decide +kernel
theorem dX0_compare_34 : decode cX0_compare 34 = .ok (.invokevirtual 22, 3) := by decide +kernel
theorem dX0_compare_37 : decode cX0_compare 37 = .ok (.iastore, 1) := by decide +kernel
theorem dX0_compare_38 : decode cX0_compare 38 = .ok (.iinc 4 (-1), 3) := by decide +kernel
theorem dX0_compare_41 : decode cX0_compare 41 = .ok (.goto (-26), 3) := by decide +kernel
theorem dX0_compare_44 : decode cX0_compare 44 = .ok (.iinc 3 (-1), 3) := by decide +kernel
theorem dX0_compare_47 : decode cX0_compare 47 = .ok (.goto (-42), 3) := by decide +kernel
theorem dX0_compare_50 : decode cX0_compare 50 = .ok (.return_, 1) := by decide +kernel
theorem dX0_difference_0 : decode cX0_difference 0 = .ok (.aload_n 0, 1) := by decide +kernel
theorem dX0_difference_1 : decode cX0_difference 1 = .ok (.iconst 0, 1) := by decide +kernel
theorem dX0_difference_2 : decode cX0_difference 2 = .ok (.iconst 0, 1) := by decide +kernel
theorem dX0_difference_3 : decode cX0_difference 3 = .ok (.invokevirtual 26, 3) := by decide +kernel
theorem dX0_difference_6 : decode cX0_difference 6 = .ok (.ireturn, 1) := by decide +kernel
theorem dX0_leftFrom_0 : decode cX0_leftFrom 0 = .ok (.iload_n 1, 1) := by decide +kernel
theorem dX0_leftFrom_1 : decode cX0_leftFrom 1 = .ok (.ifCond .lt 30, 3) := by decide +kernel
theorem dX0_leftFrom_4 : decode cX0_leftFrom 4 = .ok (.iload_n 1, 1) := by decide +kernel
theorem dX0_leftFrom_5 : decode cX0_leftFrom 5 = .ok (.bipush 40, 2) := by decide +kernel
theorem dX0_leftFrom_7 : decode cX0_leftFrom 7 = .ok (.if_icmp .gt 24, 3) := by decide +kernel
theorem dX0_leftFrom_10 : decode cX0_leftFrom 10 = .ok (.iload_n 2, 1) := by decide +kernel
theorem dX0_leftFrom_11 : decode cX0_leftFrom 11 = .ok (.ifCond .lt 20, 3) := by decide +kernel
theorem dX0_leftFrom_14 : decode cX0_leftFrom 14 = .ok (.iload_n 2, 1) := by decide +kernel
theorem dX0_leftFrom_15 : decode cX0_leftFrom 15 = .ok (.bipush 40, 2) := by decide +kernel
theorem dX0_leftFrom_17 : decode cX0_leftFrom 17 = .ok (.if_icmp .gt 14, 3) := by decide +kernel
theorem dX0_leftFrom_20 : decode cX0_leftFrom 20 = .ok (.aload_n 0, 1) := by decide +kernel
theorem dX0_leftFrom_21 : decode cX0_leftFrom 21 = .ok (.getfield 11, 3) := by decide +kernel
theorem dX0_leftFrom_24 : decode cX0_leftFrom 24 = .ok (.iload_n 1, 1) := by decide +kernel
theorem dX0_leftFrom_25 : decode cX0_leftFrom 25 = .ok (.aaload, 1) := by decide +kernel
theorem dX0_leftFrom_26 : decode cX0_leftFrom 26 = .ok (.iload_n 2, 1) := by decide +kernel
theorem dX0_leftFrom_27 : decode cX0_leftFrom 27 = .ok (.iaload, 1) := by decide +kernel
theorem dX0_leftFrom_28 : decode cX0_leftFrom 28 = .ok (.goto 4, 3) := by decide +kernel
theorem dX0_leftFrom_31 : decode cX0_leftFrom 31 = .ok (.iconst 0, 1) := by decide +kernel
theorem dX0_leftFrom_32 : decode cX0_leftFrom 32 = .ok (.ireturn, 1) := by decide +kernel
theorem dX0_differenceFrom_0 : decode cX0_differenceFrom 0 = .ok (.aload_n 1, 1) := by decide +kernel
theorem dX0_differenceFrom_1 : decode cX0_differenceFrom 1 = .ok (.iload_n 2, 1) := by decide +kernel
theorem dX0_differenceFrom_2 : decode cX0_differenceFrom 2 = .ok (.invokevirtual 30, 3) := by decide +kernel
theorem dX0_differenceFrom_5 : decode cX0_differenceFrom 5 = .ok (.ifCond .ne 11, 3) := by decide +kernel
theorem dX0_differenceFrom_8 : decode cX0_differenceFrom 8 = .ok (.aload_n 3, 1) := by decide +kernel
theorem dX0_differenceFrom_9 : decode cX0_differenceFrom 9 = .ok (.getfield 16, 3) := by decide +kernel
theorem dX0_differenceFrom_12 : decode cX0_differenceFrom 12 = .ok (.iload 4, 2) := by decide +kernel
theorem dX0_differenceFrom_14 : decode cX0_differenceFrom 14 = .ok (.isub, 1) := by decide +kernel
theorem dX0_differenceFrom_15 : decode cX0_differenceFrom 15 = .ok (.ireturn, 1) := by decide +kernel
theorem dX0_differenceFrom_16 : decode cX0_differenceFrom 16 = .ok (.aload_n 3, 1) := by decide +kernel
theorem dX0_differenceFrom_17 : decode cX0_differenceFrom 17 = .ok (.iload 4, 2) := by decide +kernel
theorem dX0_differenceFrom_19 : decode cX0_differenceFrom 19 = .ok (.invokevirtual 30, 3) := by decide +kernel
theorem dX0_differenceFrom_22 : decode cX0_differenceFrom 22 = .ok (.ifCond .ne 10, 3) := by decide +kernel
theorem dX0_differenceFrom_25 : decode cX0_differenceFrom 25 = .ok (.aload_n 1, 1) := by decide +kernel
theorem dX0_differenceFrom_26 : decode cX0_differenceFrom 26 = .ok (.getfield 16, 3) := by decide +kernel
theorem dX0_differenceFrom_29 : decode cX0_differenceFrom 29 = .ok (.iload_n 2, 1) := by decide +kernel
theorem dX0_differenceFrom_30 : decode cX0_differenceFrom 30 = .ok (.isub, 1) := by decide +kernel
theorem dX0_differenceFrom_31 : decode cX0_differenceFrom 31 = .ok (.ireturn, 1) := by decide +kernel
theorem dX0_differenceFrom_32 : decode cX0_differenceFrom 32 = .ok (.aload_n 1, 1) := by decide +kernel
theorem dX0_differenceFrom_33 : decode cX0_differenceFrom 33 = .ok (.iload_n 2, 1) := by decide +kernel
theorem dX0_differenceFrom_34 : decode cX0_differenceFrom 34 = .ok (.invokevirtual 34, 3) := by decide +kernel
theorem dX0_differenceFrom_37 : decode cX0_differenceFrom 37 = .ok (.aload_n 3, 1) := by decide +kernel
theorem dX0_differenceFrom_38 : decode cX0_differenceFrom 38 = .ok (.iload 4, 2) := by decide +kernel
theorem dX0_differenceFrom_40 : decode cX0_differenceFrom 40 = .ok (.invokevirtual 34, 3) := by decide +kernel
theorem dX0_differenceFrom_43 : decode cX0_differenceFrom 43 = .ok (.if_icmp .ne 15, 3) := by decide +kernel
theorem dX0_differenceFrom_46 : decode cX0_differenceFrom 46 = .ok (.aload_n 0, 1) := by decide +kernel
theorem dX0_differenceFrom_47 : decode cX0_differenceFrom 47 = .ok (.iload_n 2, 1) := by decide +kernel
theorem dX0_differenceFrom_48 : decode cX0_differenceFrom 48 = .ok (.iconst 1, 1) := by decide +kernel
theorem dX0_differenceFrom_49 : decode cX0_differenceFrom 49 = .ok (.iadd, 1) := by decide +kernel
theorem dX0_differenceFrom_50 : decode cX0_differenceFrom 50 = .ok (.iload 4, 2) := by decide +kernel
theorem dX0_differenceFrom_52 : decode cX0_differenceFrom 52 = .ok (.iconst 1, 1) := by decide +kernel
theorem dX0_differenceFrom_53 : decode cX0_differenceFrom 53 = .ok (.iadd, 1) := by decide +kernel
theorem dX0_differenceFrom_54 : decode cX0_differenceFrom 54 = .ok (.invokevirtual 26, 3) := by decide +kernel
theorem dX0_differenceFrom_57 : decode cX0_differenceFrom 57 = .ok (.ireturn, 1) := by decide +kernel
theorem dX0_differenceFrom_58 : decode cX0_differenceFrom 58 = .ok (.iconst 1, 1) := by decide +kernel
theorem dX0_differenceFrom_59 : decode cX0_differenceFrom 59 = .ok (.aload_n 0, 1) := by decide +kernel
theorem dX0_differenceFrom_60 : decode cX0_differenceFrom 60 = .ok (.iload_n 2, 1) := by decide +kernel
theorem dX0_differenceFrom_61 : decode cX0_differenceFrom 61 = .ok (.iconst 1, 1) := by decide +kernel
theorem dX0_differenceFrom_62 : decode cX0_differenceFrom 62 = .ok (.iadd, 1) := by decide +kernel
theorem dX0_differenceFrom_63 : decode cX0_differenceFrom 63 = .ok (.iload 4, 2) := by decide +kernel
theorem dX0_differenceFrom_65 : decode cX0_differenceFrom 65 = .ok (.invokevirtual 26, 3) := by decide +kernel
theorem dX0_differenceFrom_68 : decode cX0_differenceFrom 68 = .ok (.aload_n 0, 1) := by decide +kernel
theorem dX0_differenceFrom_69 : decode cX0_differenceFrom 69 = .ok (.iload_n 2, 1) := by decide +kernel
theorem dX0_differenceFrom_70 : decode cX0_differenceFrom 70 = .ok (.iload 4, 2) := by decide +kernel
theorem dX0_differenceFrom_72 : decode cX0_differenceFrom 72 = .ok (.iconst 1, 1) := by decide +kernel
theorem dX0_differenceFrom_73 : decode cX0_differenceFrom 73 = .ok (.iadd, 1) := by decide +kernel
theorem dX0_differenceFrom_74 : decode cX0_differenceFrom 74 = .ok (.invokevirtual 26, 3) := by decide +kernel
theorem dX0_differenceFrom_77 : decode cX0_differenceFrom 77 = .ok (.invokestatic 38, 3) := by decide +kernel
theorem dX0_differenceFrom_80 : decode cX0_differenceFrom 80 = .ok (.iadd, 1) := by decide +kernel
theorem dX0_differenceFrom_81 : decode cX0_differenceFrom 81 = .ok (.ireturn, 1) := by decide +kernel
theorem dX0_stepAt_0 : decode cX0_stepAt 0 = .ok (.iconst 0, 1) := by decide +kernel
theorem dX0_stepAt_1 : decode cX0_stepAt 1 = .ok (.istore 4, 2) := by decide +kernel
theorem dX0_stepAt_3 : decode cX0_stepAt 3 = .ok (.iconst 0, 1) := by decide +kernel
theorem dX0_stepAt_4 : decode cX0_stepAt 4 = .ok (.istore 5, 2) := by decide +kernel
theorem dX0_stepAt_6 : decode cX0_stepAt 6 = .ok (.iconst 0, 1) := by decide +kernel
theorem dX0_stepAt_7 : decode cX0_stepAt 7 = .ok (.istore 6, 2) := by decide +kernel
theorem dX0_stepAt_9 : decode cX0_stepAt 9 = .ok (.iload 6, 2) := by decide +kernel
theorem dX0_stepAt_11 : decode cX0_stepAt 11 = .ok (.aload_n 1, 1) := by decide +kernel
theorem dX0_stepAt_12 : decode cX0_stepAt 12 = .ok (.getfield 16, 3) := by decide +kernel
theorem dX0_stepAt_15 : decode cX0_stepAt 15 = .ok (.aload_n 2, 1) := by decide +kernel
theorem dX0_stepAt_16 : decode cX0_stepAt 16 = .ok (.getfield 16, 3) := by decide +kernel
theorem dX0_stepAt_19 : decode cX0_stepAt 19 = .ok (.iadd, 1) := by decide +kernel
theorem dX0_stepAt_20 : decode cX0_stepAt 20 = .ok (.if_icmp .ge 66, 3) := by decide +kernel
theorem dX0_stepAt_23 : decode cX0_stepAt 23 = .ok (.aload_n 1, 1) := by decide +kernel
theorem dX0_stepAt_24 : decode cX0_stepAt 24 = .ok (.iload 4, 2) := by decide +kernel
theorem dX0_stepAt_26 : decode cX0_stepAt 26 = .ok (.invokevirtual 30, 3) := by decide +kernel
theorem dX0_stepAt_29 : decode cX0_stepAt 29 = .ok (.ifCond .ne 12, 3) := by decide +kernel
theorem dX0_stepAt_32 : decode cX0_stepAt 32 = .ok (.aload_n 2, 1) := by decide +kernel
theorem dX0_stepAt_33 : decode cX0_stepAt 33 = .ok (.iload 5, 2) := by decide +kernel
theorem dX0_stepAt_35 : decode cX0_stepAt 35 = .ok (.invokevirtual 30, 3) := by decide +kernel
theorem dX0_stepAt_38 : decode cX0_stepAt 38 = .ok (.ifCond .eq 48, 3) := by decide +kernel
theorem dX0_stepAt_41 : decode cX0_stepAt 41 = .ok (.aload_n 0, 1) := by decide +kernel
theorem dX0_stepAt_42 : decode cX0_stepAt 42 = .ok (.aload_n 1, 1) := by decide +kernel
theorem dX0_stepAt_43 : decode cX0_stepAt 43 = .ok (.iload 4, 2) := by decide +kernel
theorem dX0_stepAt_45 : decode cX0_stepAt 45 = .ok (.aload_n 2, 1) := by decide +kernel
theorem dX0_stepAt_46 : decode cX0_stepAt 46 = .ok (.iload 5, 2) := by decide +kernel
theorem dX0_stepAt_48 : decode cX0_stepAt 48 = .ok (.invokevirtual 43, 3) := by decide +kernel
theorem dX0_stepAt_51 : decode cX0_stepAt 51 = .ok (.istore 7, 2) := by decide +kernel
theorem dX0_stepAt_53 : decode cX0_stepAt 53 = .ok (.iload 6, 2) := by decide +kernel
theorem dX0_stepAt_55 : decode cX0_stepAt 55 = .ok (.iload_n 3, 1) := by decide +kernel
theorem dX0_stepAt_56 : decode cX0_stepAt 56 = .ok (.if_icmp .ne 6, 3) := by decide +kernel
theorem dX0_stepAt_59 : decode cX0_stepAt 59 = .ok (.iload 7, 2) := by decide +kernel
theorem dX0_stepAt_61 : decode cX0_stepAt 61 = .ok (.ireturn, 1) := by decide +kernel
theorem dX0_stepAt_62 : decode cX0_stepAt 62 = .ok (.iload 7, 2) := by decide +kernel
theorem dX0_stepAt_64 : decode cX0_stepAt 64 = .ok (.iconst 2, 1) := by decide +kernel
theorem dX0_stepAt_65 : decode cX0_stepAt 65 = .ok (.if_icmp .eq 6, 3) := by decide +kernel
theorem dX0_stepAt_68 : decode cX0_stepAt 68 = .ok (.iinc 4 1, 3) := by decide +kernel
theorem dX0_stepAt_71 : decode cX0_stepAt 71 = .ok (.iload 7, 2) := by decide +kernel
theorem dX0_stepAt_73 : decode cX0_stepAt 73 = .ok (.iconst 1, 1) := by decide +kernel
theorem dX0_stepAt_74 : decode cX0_stepAt 74 = .ok (.if_icmp .eq 6, 3) := by decide +kernel
theorem dX0_stepAt_77 : decode cX0_stepAt 77 = .ok (.iinc 5 1, 3) := by decide +kernel
theorem dX0_stepAt_80 : decode cX0_stepAt 80 = .ok (.iinc 6 1, 3) := by decide +kernel
theorem dX0_stepAt_83 : decode cX0_stepAt 83 = .ok (.goto (-74), 3) := by decide +kernel
theorem dX0_stepAt_86 : decode cX0_stepAt 86 = .ok (.iconst (-1), 1) := by decide +kernel
theorem dX0_stepAt_87 : decode cX0_stepAt 87 = .ok (.ireturn, 1) := by decide +kernel
theorem dX0_stepFrom_0 : decode cX0_stepFrom 0 = .ok (.aload_n 1, 1) := by decide +kernel
theorem dX0_stepFrom_1 : decode cX0_stepFrom 1 = .ok (.iload_n 2, 1) := by decide +kernel
theorem dX0_stepFrom_2 : decode cX0_stepFrom 2 = .ok (.invokevirtual 30, 3) := by decide +kernel
theorem dX0_stepFrom_5 : decode cX0_stepFrom 5 = .ok (.ifCond .eq 28, 3) := by decide +kernel
theorem dX0_stepFrom_8 : decode cX0_stepFrom 8 = .ok (.aload_n 3, 1) := by decide +kernel
theorem dX0_stepFrom_9 : decode cX0_stepFrom 9 = .ok (.iload 4, 2) := by decide +kernel
theorem dX0_stepFrom_11 : decode cX0_stepFrom 11 = .ok (.invokevirtual 30, 3) := by decide +kernel
theorem dX0_stepFrom_14 : decode cX0_stepFrom 14 = .ok (.ifCond .eq 19, 3) := by decide +kernel
theorem dX0_stepFrom_17 : decode cX0_stepFrom 17 = .ok (.aload_n 1, 1) := by decide +kernel
theorem dX0_stepFrom_18 : decode cX0_stepFrom 18 = .ok (.iload_n 2, 1) := by decide +kernel
theorem dX0_stepFrom_19 : decode cX0_stepFrom 19 = .ok (.invokevirtual 34, 3) := by decide +kernel
theorem dX0_stepFrom_22 : decode cX0_stepFrom 22 = .ok (.aload_n 3, 1) := by decide +kernel
theorem dX0_stepFrom_23 : decode cX0_stepFrom 23 = .ok (.iload 4, 2) := by decide +kernel
theorem dX0_stepFrom_25 : decode cX0_stepFrom 25 = .ok (.invokevirtual 34, 3) := by decide +kernel
theorem dX0_stepFrom_28 : decode cX0_stepFrom 28 = .ok (.if_icmp .ne 5, 3) := by decide +kernel
theorem dX0_stepFrom_31 : decode cX0_stepFrom 31 = .ok (.iconst 0, 1) := by decide +kernel
theorem dX0_stepFrom_32 : decode cX0_stepFrom 32 = .ok (.ireturn, 1) := by decide +kernel
theorem dX0_stepFrom_33 : decode cX0_stepFrom 33 = .ok (.aload_n 1, 1) := by decide +kernel
theorem dX0_stepFrom_34 : decode cX0_stepFrom 34 = .ok (.iload_n 2, 1) := by decide +kernel
theorem dX0_stepFrom_35 : decode cX0_stepFrom 35 = .ok (.invokevirtual 30, 3) := by decide +kernel
theorem dX0_stepFrom_38 : decode cX0_stepFrom 38 = .ok (.ifCond .eq 28, 3) := by decide +kernel
theorem dX0_stepFrom_41 : decode cX0_stepFrom 41 = .ok (.aload_n 0, 1) := by decide +kernel
theorem dX0_stepFrom_42 : decode cX0_stepFrom 42 = .ok (.iload_n 2, 1) := by decide +kernel
theorem dX0_stepFrom_43 : decode cX0_stepFrom 43 = .ok (.iconst 1, 1) := by decide +kernel
theorem dX0_stepFrom_44 : decode cX0_stepFrom 44 = .ok (.iadd, 1) := by decide +kernel
theorem dX0_stepFrom_45 : decode cX0_stepFrom 45 = .ok (.iload 4, 2) := by decide +kernel
theorem dX0_stepFrom_47 : decode cX0_stepFrom 47 = .ok (.invokevirtual 26, 3) := by decide +kernel
theorem dX0_stepFrom_50 : decode cX0_stepFrom 50 = .ok (.iconst 1, 1) := by decide +kernel
theorem dX0_stepFrom_51 : decode cX0_stepFrom 51 = .ok (.iadd, 1) := by decide +kernel
theorem dX0_stepFrom_52 : decode cX0_stepFrom 52 = .ok (.aload_n 0, 1) := by decide +kernel
theorem dX0_stepFrom_53 : decode cX0_stepFrom 53 = .ok (.iload_n 2, 1) := by decide +kernel
theorem dX0_stepFrom_54 : decode cX0_stepFrom 54 = .ok (.iload 4, 2) := by decide +kernel
theorem dX0_stepFrom_56 : decode cX0_stepFrom 56 = .ok (.invokevirtual 26, 3) := by decide +kernel
theorem dX0_stepFrom_59 : decode cX0_stepFrom 59 = .ok (.if_icmp .ne 7, 3) := by decide +kernel
theorem dX0_stepFrom_62 : decode cX0_stepFrom 62 = .ok (.iconst 1, 1) := by decide +kernel
theorem dX0_stepFrom_63 : decode cX0_stepFrom 63 = .ok (.goto 4, 3) := by decide +kernel
theorem dX0_stepFrom_66 : decode cX0_stepFrom 66 = .ok (.iconst 0, 1) := by decide +kernel
theorem dX0_stepFrom_67 : decode cX0_stepFrom 67 = .ok (.istore 5, 2) := by decide +kernel
theorem dX0_stepFrom_69 : decode cX0_stepFrom 69 = .ok (.iload 5, 2) := by decide +kernel
theorem dX0_stepFrom_71 : decode cX0_stepFrom 71 = .ok (.ifCond .eq 7, 3) := by decide +kernel
theorem dX0_stepFrom_74 : decode cX0_stepFrom 74 = .ok (.iconst 1, 1) := by decide +kernel
theorem dX0_stepFrom_75 : decode cX0_stepFrom 75 = .ok (.goto 4, 3) := by decide +kernel
theorem dX0_stepFrom_78 : decode cX0_stepFrom 78 = .ok (.iconst 2, 1) := by decide +kernel
theorem dX0_stepFrom_79 : decode cX0_stepFrom 79 = .ok (.ireturn, 1) := by decide +kernel
theorem dX1_init_0 : decode cX1_init 0 = .ok (.aload_n 0, 1) := by decide +kernel
theorem dX1_init_1 : decode cX1_init 1 = .ok (.invokespecial 3, 3) := by decide +kernel
theorem dX1_init_4 : decode cX1_init 4 = .ok (.aload_n 0, 1) := by decide +kernel
theorem dX1_init_5 : decode cX1_init 5 = .ok (.iload_n 1, 1) := by decide +kernel
theorem dX1_init_6 : decode cX1_init 6 = .ok (.putfield 9, 3) := by decide +kernel
theorem dX1_init_9 : decode cX1_init 9 = .ok (.aload_n 0, 1) := by decide +kernel
theorem dX1_init_10 : decode cX1_init 10 = .ok (.iload_n 2, 1) := by decide +kernel
theorem dX1_init_11 : decode cX1_init 11 = .ok (.putfield 15, 3) := by decide +kernel
theorem dX1_init_14 : decode cX1_init 14 = .ok (.aload_n 0, 1) := by decide +kernel
theorem dX1_init_15 : decode cX1_init 15 = .ok (.iload_n 3, 1) := by decide +kernel
theorem dX1_init_16 : decode cX1_init 16 = .ok (.putfield 18, 3) := by decide +kernel
theorem dX1_init_19 : decode cX1_init 19 = .ok (.return_, 1) := by decide +kernel
theorem dX1_judgement_0 : decode cX1_judgement 0 = .ok (.aload_n 0, 1) := by decide +kernel
theorem dX1_judgement_1 : decode cX1_judgement 1 = .ok (.aload_n 1, 1) := by decide +kernel
theorem dX1_judgement_2 : decode cX1_judgement 2 = .ok (.invokevirtual 21, 3) := by decide +kernel
theorem dX1_judgement_5 : decode cX1_judgement 5 = .ok (.lstore_n 2, 1) := by decide +kernel
theorem dX1_judgement_6 : decode cX1_judgement 6 = .ok (.iconst 0, 1) := by decide +kernel
theorem dX1_judgement_7 : decode cX1_judgement 7 = .ok (.istore 4, 2) := by decide +kernel
theorem dX1_judgement_9 : decode cX1_judgement 9 = .ok (.iconst 0, 1) := by decide +kernel
theorem dX1_judgement_10 : decode cX1_judgement 10 = .ok (.istore 5, 2) := by decide +kernel
theorem dX1_judgement_12 : decode cX1_judgement 12 = .ok (.iconst 0, 1) := by decide +kernel
theorem dX1_judgement_13 : decode cX1_judgement 13 = .ok (.istore 6, 2) := by decide +kernel
theorem dX1_judgement_15 : decode cX1_judgement 15 = .ok (.iload 6, 2) := by decide +kernel
theorem dX1_judgement_17 : decode cX1_judgement 17 = .ok (.aload_n 0, 1) := by decide +kernel
theorem dX1_judgement_18 : decode cX1_judgement 18 = .ok (.invokevirtual 25, 3) := by decide +kernel
theorem dX1_judgement_21 : decode cX1_judgement 21 = .ok (.if_icmp .gt 36, 3) := by decide +kernel
theorem dX1_judgement_24 : decode cX1_judgement 24 = .ok (.lload_n 2, 1) := by decide +kernel
theorem dX1_judgement_25 : decode cX1_judgement 25 = .ok (.iload 6, 2) := by decide +kernel
theorem dX1_judgement_27 : decode cX1_judgement 27 = .ok (.invokestatic 29, 3) := by decide +kernel
theorem dX1_judgement_30 : decode cX1_judgement 30 = .ok (.ifCond .eq 21, 3) := by decide +kernel
theorem dX1_judgement_33 : decode cX1_judgement 33 = .ok (.aload_n 0, 1) := by decide +kernel
theorem dX1_judgement_34 : decode cX1_judgement 34 = .ok (.iload 6, 2) := by decide +kernel
theorem dX1_judgement_36 : decode cX1_judgement 36 = .ok (.invokevirtual 33, 3) := by decide +kernel
theorem dX1_judgement_39 : decode cX1_judgement 39 = .ok (.ifCond .eq 9, 3) := by decide +kernel
theorem dX1_judgement_42 : decode cX1_judgement 42 = .ok (.iconst 1, 1) := by decide +kernel
theorem dX1_judgement_43 : decode cX1_judgement 43 = .ok (.istore 5, 2) := by decide +kernel
theorem dX1_judgement_45 : decode cX1_judgement 45 = .ok (.goto 6, 3) := by decide +kernel
theorem dX1_judgement_48 : decode cX1_judgement 48 = .ok (.iconst 1, 1) := by decide +kernel
theorem dX1_judgement_49 : decode cX1_judgement 49 = .ok (.istore 4, 2) := by decide +kernel
theorem dX1_judgement_51 : decode cX1_judgement 51 = .ok (.iinc 6 1, 3) := by decide +kernel
theorem dX1_judgement_54 : decode cX1_judgement 54 = .ok (.goto (-39), 3) := by decide +kernel
theorem dX1_judgement_57 : decode cX1_judgement 57 = .ok (.iload 5, 2) := by decide +kernel
theorem dX1_judgement_59 : decode cX1_judgement 59 = .ok (.ifCond .ne 5, 3) := by decide +kernel
theorem dX1_judgement_62 : decode cX1_judgement 62 = .ok (.iconst 0, 1) := by decide +kernel
theorem dX1_judgement_63 : decode cX1_judgement 63 = .ok (.ireturn, 1) := by decide +kernel
theorem dX1_judgement_64 : decode cX1_judgement 64 = .ok (.iload 4, 2) := by decide +kernel
theorem dX1_judgement_66 : decode cX1_judgement 66 = .ok (.ifCond .eq 7, 3) := by decide +kernel
theorem dX1_judgement_69 : decode cX1_judgement 69 = .ok (.iconst 1, 1) := by decide +kernel
theorem dX1_judgement_70 : decode cX1_judgement 70 = .ok (.goto 4, 3) := by decide +kernel
theorem dX1_judgement_73 : decode cX1_judgement 73 = .ok (.iconst 2, 1) := by decide +kernel
theorem dX1_judgement_74 : decode cX1_judgement 74 = .ok (.ireturn, 1) := by decide +kernel
theorem dX1_statesBehind_0 : decode cX1_statesBehind 0 = .ok (.lconst 1, 1) := by decide +kernel
theorem dX1_statesBehind_1 : decode cX1_statesBehind 1 = .ok (.lstore_n 2, 1) := by decide +kernel
theorem dX1_statesBehind_2 : decode cX1_statesBehind 2 = .ok (.iconst 0, 1) := by decide +kernel
theorem dX1_statesBehind_3 : decode cX1_statesBehind 3 = .ok (.istore 4, 2) := by decide +kernel
theorem dX1_statesBehind_5 : decode cX1_statesBehind 5 = .ok (.iload 4, 2) := by decide +kernel
theorem dX1_statesBehind_7 : decode cX1_statesBehind 7 = .ok (.aload_n 1, 1) := by decide +kernel
theorem dX1_statesBehind_8 : decode cX1_statesBehind 8 = .ok (.getfield 37, 3) := by decide +kernel
theorem dX1_statesBehind_11 : decode cX1_statesBehind 11 = .ok (.if_icmp .ge 39, 3) := by decide +kernel
theorem dX1_statesBehind_14 : decode cX1_statesBehind 14 = .ok (.aload_n 1, 1) := by decide +kernel
theorem dX1_statesBehind_15 : decode cX1_statesBehind 15 = .ok (.iload 4, 2) := by decide +kernel
theorem dX1_statesBehind_17 : decode cX1_statesBehind 17 = .ok (.invokevirtual 42, 3) := by decide +kernel
theorem dX1_statesBehind_20 : decode cX1_statesBehind 20 = .ok (.istore 5, 2) := by decide +kernel
theorem dX1_statesBehind_22 : decode cX1_statesBehind 22 = .ok (.iload 5, 2) := by decide +kernel
theorem dX1_statesBehind_24 : decode cX1_statesBehind 24 = .ok (.iconst (-1), 1) := by decide +kernel
theorem dX1_statesBehind_25 : decode cX1_statesBehind 25 = .ok (.if_icmp .ne 11, 3) := by decide +kernel
theorem dX1_statesBehind_28 : decode cX1_statesBehind 28 = .ok (.aload_n 0, 1) := by decide +kernel
theorem dX1_statesBehind_29 : decode cX1_statesBehind 29 = .ok (.lload_n 2, 1) := by decide +kernel
theorem dX1_statesBehind_30 : decode cX1_statesBehind 30 = .ok (.invokevirtual 46, 3) := by decide +kernel
theorem dX1_statesBehind_33 : decode cX1_statesBehind 33 = .ok (.goto 10, 3) := by decide +kernel
theorem dX1_statesBehind_36 : decode cX1_statesBehind 36 = .ok (.aload_n 0, 1) := by decide +kernel
theorem dX1_statesBehind_37 : decode cX1_statesBehind 37 = .ok (.lload_n 2, 1) := by decide +kernel
theorem dX1_statesBehind_38 : decode cX1_statesBehind 38 = .ok (.iload 5, 2) := by decide +kernel
theorem dX1_statesBehind_40 : decode cX1_statesBehind 40 = .ok (.invokevirtual 50, 3) := by decide +kernel
theorem dX1_statesBehind_43 : decode cX1_statesBehind 43 = .ok (.lstore_n 2, 1) := by decide +kernel
theorem dX1_statesBehind_44 : decode cX1_statesBehind 44 = .ok (.iinc 4 1, 3) := by decide +kernel
theorem dX1_statesBehind_47 : decode cX1_statesBehind 47 = .ok (.goto (-42), 3) := by decide +kernel
theorem dX1_statesBehind_50 : decode cX1_statesBehind 50 = .ok (.lload_n 2, 1) := by decide +kernel
theorem dX1_statesBehind_51 : decode cX1_statesBehind 51 = .ok (.lreturn, 1) := by decide +kernel
theorem dX1_statesBehindLine_0 : decode cX1_statesBehindLine 0 = .ok (.lconst 0, 1) := by decide +kernel
theorem dX1_statesBehindLine_1 : decode cX1_statesBehindLine 1 = .ok (.lstore 4, 2) := by decide +kernel
theorem dX1_statesBehindLine_3 : decode cX1_statesBehindLine 3 = .ok (.iconst 0, 1) := by decide +kernel
theorem dX1_statesBehindLine_4 : decode cX1_statesBehindLine 4 = .ok (.istore 6, 2) := by decide +kernel
theorem dX1_statesBehindLine_6 : decode cX1_statesBehindLine 6 = .ok (.iload 6, 2) := by decide +kernel
theorem dX1_statesBehindLine_8 : decode cX1_statesBehindLine 8 = .ok (.aload_n 0, 1) := by decide +kernel
theorem dX1_statesBehindLine_9 : decode cX1_statesBehindLine 9 = .ok (.invokevirtual 25, 3) := by decide +kernel
theorem dX1_statesBehindLine_12 : decode cX1_statesBehindLine 12 = .ok (.if_icmp .gt 32, 3) := by decide +kernel
theorem dX1_statesBehindLine_15 : decode cX1_statesBehindLine 15 = .ok (.lload_n 1, 1) := by decide +kernel
theorem dX1_statesBehindLine_16 : decode cX1_statesBehindLine 16 = .ok (.iload 6, 2) := by decide +kernel
theorem dX1_statesBehindLine_18 : decode cX1_statesBehindLine 18 = .ok (.invokestatic 29, 3) := by decide +kernel
theorem dX1_statesBehindLine_21 : decode cX1_statesBehindLine 21 = .ok (.ifCond .eq 17, 3) := by decide +kernel
theorem dX1_statesBehindLine_24 : decode cX1_statesBehindLine 24 = .ok (.lload 4, 2) := by decide +kernel
theorem dX1_statesBehindLine_26 : decode cX1_statesBehindLine 26 = .ok (.lconst 1, 1) := by decide +kernel
theorem dX1_statesBehindLine_27 : decode cX1_statesBehindLine 27 = .ok (.aload_n 0, 1) := by decide +kernel
theorem dX1_statesBehindLine_28 : decode cX1_statesBehindLine 28 = .ok (.iload 6, 2) := by decide +kernel
theorem dX1_statesBehindLine_30 : decode cX1_statesBehindLine 30 = .ok (.iload_n 3, 1) := by decide +kernel
theorem dX1_statesBehindLine_31 : decode cX1_statesBehindLine 31 = .ok (.invokevirtual 54, 3) := by decide +kernel
theorem dX1_statesBehindLine_34 : decode cX1_statesBehindLine 34 = .ok (.lshl, 1) := by decide +kernel
theorem dX1_statesBehindLine_35 : decode cX1_statesBehindLine 35 = .ok (.lor, 1) := by decide +kernel
theorem dX1_statesBehindLine_36 : decode cX1_statesBehindLine 36 = .ok (.lstore 4, 2) := by decide +kernel
theorem dX1_statesBehindLine_38 : decode cX1_statesBehindLine 38 = .ok (.iinc 6 1, 3) := by decide +kernel
theorem dX1_statesBehindLine_41 : decode cX1_statesBehindLine 41 = .ok (.goto (-35), 3) := by decide +kernel
theorem dX1_statesBehindLine_44 : decode cX1_statesBehindLine 44 = .ok (.lload 4, 2) := by decide +kernel
theorem dX1_statesBehindLine_46 : decode cX1_statesBehindLine 46 = .ok (.lreturn, 1) := by decide +kernel
theorem dX1_statesBehindGap_0 : decode cX1_statesBehindGap 0 = .ok (.lload_n 1, 1) := by decide +kernel
theorem dX1_statesBehindGap_1 : decode cX1_statesBehindGap 1 = .ok (.lstore_n 3, 1) := by decide +kernel
theorem dX1_statesBehindGap_2 : decode cX1_statesBehindGap 2 = .ok (.iconst 0, 1) := by decide +kernel
theorem dX1_statesBehindGap_3 : decode cX1_statesBehindGap 3 = .ok (.istore 5, 2) := by decide +kernel
theorem dX1_statesBehindGap_5 : decode cX1_statesBehindGap 5 = .ok (.iload 5, 2) := by decide +kernel
theorem dX1_statesBehindGap_7 : decode cX1_statesBehindGap 7 = .ok (.aload_n 0, 1) := by decide +kernel
theorem dX1_statesBehindGap_8 : decode cX1_statesBehindGap 8 = .ok (.invokevirtual 25, 3) := by decide +kernel
theorem dX1_statesBehindGap_11 : decode cX1_statesBehindGap 11 = .ok (.if_icmp .gt 91, 3) := by decide +kernel
theorem dX1_statesBehindGap_14 : decode cX1_statesBehindGap 14 = .ok (.lload_n 3, 1) := by decide +kernel
theorem dX1_statesBehindGap_15 : decode cX1_statesBehindGap 15 = .ok (.lstore 6, 2) := by decide +kernel
theorem dX1_statesBehindGap_17 : decode cX1_statesBehindGap 17 = .ok (.iconst 0, 1) := by decide +kernel
theorem dX1_statesBehindGap_18 : decode cX1_statesBehindGap 18 = .ok (.istore 8, 2) := by decide +kernel
theorem dX1_statesBehindGap_20 : decode cX1_statesBehindGap 20 = .ok (.iload 8, 2) := by decide +kernel
theorem dX1_statesBehindGap_22 : decode cX1_statesBehindGap 22 = .ok (.aload_n 0, 1) := by decide +kernel
theorem dX1_statesBehindGap_23 : decode cX1_statesBehindGap 23 = .ok (.invokevirtual 25, 3) := by decide +kernel
theorem dX1_statesBehindGap_26 : decode cX1_statesBehindGap 26 = .ok (.if_icmp .gt 60, 3) := by decide +kernel
theorem dX1_statesBehindGap_29 : decode cX1_statesBehindGap 29 = .ok (.lload_n 3, 1) := by decide +kernel
theorem dX1_statesBehindGap_30 : decode cX1_statesBehindGap 30 = .ok (.iload 8, 2) := by decide +kernel
theorem dX1_statesBehindGap_32 : decode cX1_statesBehindGap 32 = .ok (.invokestatic 29, 3) := by decide +kernel
theorem dX1_statesBehindGap_35 : decode cX1_statesBehindGap 35 = .ok (.ifCond .eq 45, 3) := by decide +kernel
theorem dX1_statesBehindGap_38 : decode cX1_statesBehindGap 38 = .ok (.lload_n 3, 1) := by decide +kernel
theorem dX1_statesBehindGap_39 : decode cX1_statesBehindGap 39 = .ok (.lconst 1, 1) := by decide +kernel
theorem dX1_statesBehindGap_40 : decode cX1_statesBehindGap 40 = .ok (.aload_n 0, 1) := by decide +kernel
theorem dX1_statesBehindGap_41 : decode cX1_statesBehindGap 41 = .ok (.iload 8, 2) := by decide +kernel
theorem dX1_statesBehindGap_43 : decode cX1_statesBehindGap 43 = .ok (.aload_n 0, 1) := by decide +kernel
theorem dX1_statesBehindGap_44 : decode cX1_statesBehindGap 44 = .ok (.getfield 15, 3) := by decide +kernel
theorem dX1_statesBehindGap_47 : decode cX1_statesBehindGap 47 = .ok (.invokevirtual 54, 3) := by decide +kernel
theorem dX1_statesBehindGap_50 : decode cX1_statesBehindGap 50 = .ok (.lshl, 1) := by decide +kernel
theorem dX1_statesBehindGap_51 : decode cX1_statesBehindGap 51 = .ok (.lor, 1) := by decide +kernel
theorem dX1_statesBehindGap_52 : decode cX1_statesBehindGap 52 = .ok (.lstore_n 3, 1) := by decide +kernel
theorem dX1_statesBehindGap_53 : decode cX1_statesBehindGap 53 = .ok (.lload_n 3, 1) := by decide +kernel
theorem dX1_statesBehindGap_54 : decode cX1_statesBehindGap 54 = .ok (.lconst 1, 1) := by decide +kernel
theorem dX1_statesBehindGap_55 : decode cX1_statesBehindGap 55 = .ok (.aload_n 0, 1) := by decide +kernel
theorem dX1_statesBehindGap_56 : decode cX1_statesBehindGap 56 = .ok (.iload 8, 2) := by decide +kernel
theorem dX1_statesBehindGap_58 : decode cX1_statesBehindGap 58 = .ok (.aload_n 0, 1) := by decide +kernel
theorem dX1_statesBehindGap_59 : decode cX1_statesBehindGap 59 = .ok (.getfield 18, 3) := by decide +kernel
theorem dX1_statesBehindGap_62 : decode cX1_statesBehindGap 62 = .ok (.invokevirtual 54, 3) := by decide +kernel
theorem dX1_statesBehindGap_65 : decode cX1_statesBehindGap 65 = .ok (.lshl, 1) := by decide +kernel
theorem dX1_statesBehindGap_66 : decode cX1_statesBehindGap 66 = .ok (.lor, 1) := by decide +kernel
theorem dX1_statesBehindGap_67 : decode cX1_statesBehindGap 67 = .ok (.lstore_n 3, 1) := by decide +kernel
theorem dX1_statesBehindGap_68 : decode cX1_statesBehindGap 68 = .ok (.lload_n 3, 1) := by decide +kernel
theorem dX1_statesBehindGap_69 : decode cX1_statesBehindGap 69 = .ok (.lconst 1, 1) := by decide +kernel
theorem dX1_statesBehindGap_70 : decode cX1_statesBehindGap 70 = .ok (.aload_n 0, 1) := by decide +kernel
theorem dX1_statesBehindGap_71 : decode cX1_statesBehindGap 71 = .ok (.iload 8, 2) := by decide +kernel
theorem dX1_statesBehindGap_73 : decode cX1_statesBehindGap 73 = .ok (.iconst (-1), 1) := by decide +kernel
theorem dX1_statesBehindGap_74 : decode cX1_statesBehindGap 74 = .ok (.invokevirtual 54, 3) := by decide +kernel
theorem dX1_statesBehindGap_77 : decode cX1_statesBehindGap 77 = .ok (.lshl, 1) := by decide +kernel
theorem dX1_statesBehindGap_78 : decode cX1_statesBehindGap 78 = .ok (.lor, 1) := by decide +kernel
theorem dX1_statesBehindGap_79 : decode cX1_statesBehindGap 79 = .ok (.lstore_n 3, 1) := by decide +kernel
theorem dX1_statesBehindGap_80 : decode cX1_statesBehindGap 80 = .ok (.iinc 8 1, 3) := by decide +kernel
theorem dX1_statesBehindGap_83 : decode cX1_statesBehindGap 83 = .ok (.goto (-63), 3) := by decide +kernel
theorem dX1_statesBehindGap_86 : decode cX1_statesBehindGap 86 = .ok (.lload_n 3, 1) := by decide +kernel
theorem dX1_statesBehindGap_87 : decode cX1_statesBehindGap 87 = .ok (.lload 6, 2) := by decide +kernel
theorem dX1_statesBehindGap_89 : decode cX1_statesBehindGap 89 = .ok (.lcmp, 1) := by decide +kernel
theorem dX1_statesBehindGap_90 : decode cX1_statesBehindGap 90 = .ok (.ifCond .ne 6, 3) := by decide +kernel
theorem dX1_statesBehindGap_93 : decode cX1_statesBehindGap 93 = .ok (.goto 9, 3) := by decide +kernel
theorem dX1_statesBehindGap_96 : decode cX1_statesBehindGap 96 = .ok (.iinc 5 1, 3) := by decide +kernel
theorem dX1_statesBehindGap_99 : decode cX1_statesBehindGap 99 = .ok (.goto (-94), 3) := by decide +kernel
theorem dX1_statesBehindGap_102 : decode cX1_statesBehindGap 102 = .ok (.lload_n 3, 1) := by decide +kernel
theorem dX1_statesBehindGap_103 : decode cX1_statesBehindGap 103 = .ok (.lreturn, 1) := by decide +kernel
theorem dX1_lastState_0 : decode cX1_lastState 0 = .ok (.aload_n 0, 1) := by decide +kernel
theorem dX1_lastState_1 : decode cX1_lastState 1 = .ok (.getfield 9, 3) := by decide +kernel
theorem dX1_lastState_4 : decode cX1_lastState 4 = .ok (.iconst 1, 1) := by decide +kernel
theorem dX1_lastState_5 : decode cX1_lastState 5 = .ok (.if_icmp .ne 12, 3) := by decide +kernel
theorem dX1_lastState_8 : decode cX1_lastState 8 = .ok (.aload_n 0, 1) := by decide +kernel
theorem dX1_lastState_9 : decode cX1_lastState 9 = .ok (.getfield 18, 3) := by decide +kernel
theorem dX1_lastState_12 : decode cX1_lastState 12 = .ok (.iconst 1, 1) := by decide +kernel
theorem dX1_lastState_13 : decode cX1_lastState 13 = .ok (.iadd, 1) := by decide +kernel
theorem dX1_lastState_14 : decode cX1_lastState 14 = .ok (.goto 4, 3) := by decide +kernel
theorem dX1_lastState_17 : decode cX1_lastState 17 = .ok (.iconst 3, 1) := by decide +kernel
theorem dX1_lastState_18 : decode cX1_lastState 18 = .ok (.ireturn, 1) := by decide +kernel
theorem dX1_next_0 : decode cX1_next 0 = .ok (.aload_n 0, 1) := by decide +kernel
theorem dX1_next_1 : decode cX1_next 1 = .ok (.getfield 9, 3) := by decide +kernel
theorem dX1_next_4 : decode cX1_next 4 = .ok (.tableswitch 189 1 6 #[40, 64, 94, 189, 124, 157], 40) := by decide +kernel
theorem dX1_next_44 : decode cX1_next 44 = .ok (.iload_n 2, 1) := by decide +kernel
theorem dX1_next_45 : decode cX1_next 45 = .ok (.aload_n 0, 1) := by decide +kernel
theorem dX1_next_46 : decode cX1_next 46 = .ok (.getfield 15, 3) := by decide +kernel
theorem dX1_next_49 : decode cX1_next 49 = .ok (.if_icmp .ne 17, 3) := by decide +kernel
theorem dX1_next_52 : decode cX1_next 52 = .ok (.iload_n 1, 1) := by decide +kernel
theorem dX1_next_53 : decode cX1_next 53 = .ok (.aload_n 0, 1) := by decide +kernel
theorem dX1_next_54 : decode cX1_next 54 = .ok (.getfield 18, 3) := by decide +kernel
theorem dX1_next_57 : decode cX1_next 57 = .ok (.if_icmp .gt 9, 3) := by decide +kernel
theorem dX1_next_60 : decode cX1_next 60 = .ok (.iload_n 1, 1) := by decide +kernel
theorem dX1_next_61 : decode cX1_next 61 = .ok (.iconst 1, 1) := by decide +kernel
theorem dX1_next_62 : decode cX1_next 62 = .ok (.iadd, 1) := by decide +kernel
theorem dX1_next_63 : decode cX1_next 63 = .ok (.goto 4, 3) := by decide +kernel
theorem dX1_next_66 : decode cX1_next 66 = .ok (.iload_n 1, 1) := by decide +kernel
theorem dX1_next_67 : decode cX1_next 67 = .ok (.ireturn, 1) := by decide +kernel
theorem dX1_next_68 : decode cX1_next 68 = .ok (.iload_n 1, 1) := by decide +kernel
theorem dX1_next_69 : decode cX1_next 69 = .ok (.ifCond .eq 5, 3) := by decide +kernel
theorem dX1_next_72 : decode cX1_next 72 = .ok (.iload_n 1, 1) := by decide +kernel
theorem dX1_next_73 : decode cX1_next 73 = .ok (.ireturn, 1) := by decide +kernel
theorem dX1_next_74 : decode cX1_next 74 = .ok (.iload_n 2, 1) := by decide +kernel
theorem dX1_next_75 : decode cX1_next 75 = .ok (.aload_n 0, 1) := by decide +kernel
theorem dX1_next_76 : decode cX1_next 76 = .ok (.getfield 15, 3) := by decide +kernel
theorem dX1_next_79 : decode cX1_next 79 = .ok (.if_icmp .ne 5, 3) := by decide +kernel
theorem dX1_next_82 : decode cX1_next 82 = .ok (.iconst 2, 1) := by decide +kernel
theorem dX1_next_83 : decode cX1_next 83 = .ok (.ireturn, 1) := by decide +kernel
theorem dX1_next_84 : decode cX1_next 84 = .ok (.iload_n 2, 1) := by decide +kernel
theorem dX1_next_85 : decode cX1_next 85 = .ok (.aload_n 0, 1) := by decide +kernel
theorem dX1_next_86 : decode cX1_next 86 = .ok (.getfield 18, 3) := by decide +kernel
theorem dX1_next_89 : decode cX1_next 89 = .ok (.if_icmp .ne 7, 3) := by decide +kernel
theorem dX1_next_92 : decode cX1_next 92 = .ok (.iconst 1, 1) := by decide +kernel
theorem dX1_next_93 : decode cX1_next 93 = .ok (.goto 4, 3) := by decide +kernel
theorem dX1_next_96 : decode cX1_next 96 = .ok (.iconst 0, 1) := by decide +kernel
theorem dX1_next_97 : decode cX1_next 97 = .ok (.ireturn, 1) := by decide +kernel
theorem dX1_next_98 : decode cX1_next 98 = .ok (.iload_n 1, 1) := by decide +kernel
theorem dX1_next_99 : decode cX1_next 99 = .ok (.iload_n 2, 1) := by decide +kernel
theorem dX1_next_100 : decode cX1_next 100 = .ok (.aload_n 0, 1) := by decide +kernel
theorem dX1_next_101 : decode cX1_next 101 = .ok (.getfield 15, 3) := by decide +kernel
theorem dX1_next_104 : decode cX1_next 104 = .ok (.if_icmp .ne 7, 3) := by decide +kernel
theorem dX1_next_107 : decode cX1_next 107 = .ok (.iconst 1, 1) := by decide +kernel
theorem dX1_next_108 : decode cX1_next 108 = .ok (.goto 4, 3) := by decide +kernel
theorem dX1_next_111 : decode cX1_next 111 = .ok (.iconst 0, 1) := by decide +kernel
theorem dX1_next_112 : decode cX1_next 112 = .ok (.ior, 1) := by decide +kernel
theorem dX1_next_113 : decode cX1_next 113 = .ok (.iload_n 2, 1) := by decide +kernel
theorem dX1_next_114 : decode cX1_next 114 = .ok (.aload_n 0, 1) := by decide +kernel
theorem dX1_next_115 : decode cX1_next 115 = .ok (.getfield 18, 3) := by decide +kernel
theorem dX1_next_118 : decode cX1_next 118 = .ok (.if_icmp .ne 7, 3) := by decide +kernel
theorem dX1_next_121 : decode cX1_next 121 = .ok (.iconst 2, 1) := by decide +kernel
theorem dX1_next_122 : decode cX1_next 122 = .ok (.goto 4, 3) := by decide +kernel
theorem dX1_next_125 : decode cX1_next 125 = .ok (.iconst 0, 1) := by decide +kernel
theorem dX1_next_126 : decode cX1_next 126 = .ok (.ior, 1) := by decide +kernel
theorem dX1_next_127 : decode cX1_next 127 = .ok (.ireturn, 1) := by decide +kernel
theorem dX1_next_128 : decode cX1_next 128 = .ok (.iload_n 1, 1) := by decide +kernel
theorem dX1_next_129 : decode cX1_next 129 = .ok (.iconst 2, 1) := by decide +kernel
theorem dX1_next_130 : decode cX1_next 130 = .ok (.if_icmp .eq 15, 3) := by decide +kernel
theorem dX1_next_133 : decode cX1_next 133 = .ok (.iload_n 1, 1) := by decide +kernel
theorem dX1_next_134 : decode cX1_next 134 = .ok (.ifCond .ne 13, 3) := by decide +kernel
theorem dX1_next_137 : decode cX1_next 137 = .ok (.iload_n 2, 1) := by decide +kernel
theorem dX1_next_138 : decode cX1_next 138 = .ok (.aload_n 0, 1) := by decide +kernel
theorem dX1_next_139 : decode cX1_next 139 = .ok (.getfield 15, 3) := by decide +kernel
theorem dX1_next_142 : decode cX1_next 142 = .ok (.if_icmp .ne 5, 3) := by decide +kernel
theorem dX1_next_145 : decode cX1_next 145 = .ok (.iconst 2, 1) := by decide +kernel
theorem dX1_next_146 : decode cX1_next 146 = .ok (.ireturn, 1) := by decide +kernel
theorem dX1_next_147 : decode cX1_next 147 = .ok (.iload_n 2, 1) := by decide +kernel
theorem dX1_next_148 : decode cX1_next 148 = .ok (.aload_n 0, 1) := by decide +kernel
theorem dX1_next_149 : decode cX1_next 149 = .ok (.getfield 18, 3) := by decide +kernel
theorem dX1_next_152 : decode cX1_next 152 = .ok (.if_icmp .ne 7, 3) := by decide +kernel
theorem dX1_next_155 : decode cX1_next 155 = .ok (.iconst 1, 1) := by decide +kernel
theorem dX1_next_156 : decode cX1_next 156 = .ok (.goto 4, 3) := by decide +kernel
theorem dX1_next_159 : decode cX1_next 159 = .ok (.iconst 0, 1) := by decide +kernel
theorem dX1_next_160 : decode cX1_next 160 = .ok (.ireturn, 1) := by decide +kernel
theorem dX1_next_161 : decode cX1_next 161 = .ok (.iload_n 1, 1) := by decide +kernel
theorem dX1_next_162 : decode cX1_next 162 = .ok (.ifCond .ne 17, 3) := by decide +kernel
theorem dX1_next_165 : decode cX1_next 165 = .ok (.iload_n 2, 1) := by decide +kernel
theorem dX1_next_166 : decode cX1_next 166 = .ok (.aload_n 0, 1) := by decide +kernel
theorem dX1_next_167 : decode cX1_next 167 = .ok (.getfield 15, 3) := by decide +kernel
theorem dX1_next_170 : decode cX1_next 170 = .ok (.if_icmp .ne 7, 3) := by decide +kernel
theorem dX1_next_173 : decode cX1_next 173 = .ok (.iconst 1, 1) := by decide +kernel
theorem dX1_next_174 : decode cX1_next 174 = .ok (.goto 4, 3) := by decide +kernel
theorem dX1_next_177 : decode cX1_next 177 = .ok (.iconst 0, 1) := by decide +kernel
theorem dX1_next_178 : decode cX1_next 178 = .ok (.ireturn, 1) := by decide +kernel
theorem dX1_next_179 : decode cX1_next 179 = .ok (.iload_n 2, 1) := by decide +kernel
theorem dX1_next_180 : decode cX1_next 180 = .ok (.aload_n 0, 1) := by decide +kernel
theorem dX1_next_181 : decode cX1_next 181 = .ok (.getfield 18, 3) := by decide +kernel
theorem dX1_next_184 : decode cX1_next 184 = .ok (.if_icmp .ne 7, 3) := by decide +kernel
theorem dX1_next_187 : decode cX1_next 187 = .ok (.iconst 2, 1) := by decide +kernel
theorem dX1_next_188 : decode cX1_next 188 = .ok (.goto 4, 3) := by decide +kernel
theorem dX1_next_191 : decode cX1_next 191 = .ok (.iload_n 1, 1) := by decide +kernel
theorem dX1_next_192 : decode cX1_next 192 = .ok (.ireturn, 1) := by decide +kernel
theorem dX1_next_193 : decode cX1_next 193 = .ok (.iload_n 2, 1) := by decide +kernel
theorem dX1_next_194 : decode cX1_next 194 = .ok (.aload_n 0, 1) := by decide +kernel
theorem dX1_next_195 : decode cX1_next 195 = .ok (.getfield 15, 3) := by decide +kernel
theorem dX1_next_198 : decode cX1_next 198 = .ok (.if_icmp .ne 7, 3) := by decide +kernel
theorem dX1_next_201 : decode cX1_next 201 = .ok (.iconst 1, 1) := by decide +kernel
theorem dX1_next_202 : decode cX1_next 202 = .ok (.goto 4, 3) := by decide +kernel
theorem dX1_next_205 : decode cX1_next 205 = .ok (.iload_n 1, 1) := by decide +kernel
theorem dX1_next_206 : decode cX1_next 206 = .ok (.ireturn, 1) := by decide +kernel
theorem dX1_isBroken_0 : decode cX1_isBroken 0 = .ok (.aload_n 0, 1) := by decide +kernel
theorem dX1_isBroken_1 : decode cX1_isBroken 1 = .ok (.getfield 9, 3) := by decide +kernel
theorem dX1_isBroken_4 : decode cX1_isBroken 4 = .ok (.tableswitch 82 0 4 #[36, 47, 82, 61, 72], 36) := by decide +kernel
theorem dX1_isBroken_40 : decode cX1_isBroken 40 = .ok (.iload_n 1, 1) := by decide +kernel
theorem dX1_isBroken_41 : decode cX1_isBroken 41 = .ok (.iconst 1, 1) := by decide +kernel
theorem dX1_isBroken_42 : decode cX1_isBroken 42 = .ok (.if_icmp .ne 7, 3) := by decide +kernel
theorem dX1_isBroken_45 : decode cX1_isBroken 45 = .ok (.iconst 1, 1) := by decide +kernel
theorem dX1_isBroken_46 : decode cX1_isBroken 46 = .ok (.goto 4, 3) := by decide +kernel
theorem dX1_isBroken_49 : decode cX1_isBroken 49 = .ok (.iconst 0, 1) := by decide +kernel
theorem dX1_isBroken_50 : decode cX1_isBroken 50 = .ok (.ireturn, 1) := by decide +kernel
theorem dX1_isBroken_51 : decode cX1_isBroken 51 = .ok (.iload_n 1, 1) := by decide +kernel
theorem dX1_isBroken_52 : decode cX1_isBroken 52 = .ok (.aload_n 0, 1) := by decide +kernel
theorem dX1_isBroken_53 : decode cX1_isBroken 53 = .ok (.getfield 18, 3) := by decide +kernel
theorem dX1_isBroken_56 : decode cX1_isBroken 56 = .ok (.if_icmp .le 7, 3) := by decide +kernel
theorem dX1_isBroken_59 : decode cX1_isBroken 59 = .ok (.iconst 1, 1) := by decide +kernel
theorem dX1_isBroken_60 : decode cX1_isBroken 60 = .ok (.goto 4, 3) := by decide +kernel
theorem dX1_isBroken_63 : decode cX1_isBroken 63 = .ok (.iconst 0, 1) := by decide +kernel
theorem dX1_isBroken_64 : decode cX1_isBroken 64 = .ok (.ireturn, 1) := by decide +kernel
theorem dX1_isBroken_65 : decode cX1_isBroken 65 = .ok (.iload_n 1, 1) := by decide +kernel
theorem dX1_isBroken_66 : decode cX1_isBroken 66 = .ok (.iconst 3, 1) := by decide +kernel
theorem dX1_isBroken_67 : decode cX1_isBroken 67 = .ok (.if_icmp .ne 7, 3) := by decide +kernel
theorem dX1_isBroken_70 : decode cX1_isBroken 70 = .ok (.iconst 1, 1) := by decide +kernel
theorem dX1_isBroken_71 : decode cX1_isBroken 71 = .ok (.goto 4, 3) := by decide +kernel
theorem dX1_isBroken_74 : decode cX1_isBroken 74 = .ok (.iconst 0, 1) := by decide +kernel
theorem dX1_isBroken_75 : decode cX1_isBroken 75 = .ok (.ireturn, 1) := by decide +kernel
theorem dX1_isBroken_76 : decode cX1_isBroken 76 = .ok (.iload_n 1, 1) := by decide +kernel
theorem dX1_isBroken_77 : decode cX1_isBroken 77 = .ok (.ifCond .ne 7, 3) := by decide +kernel
theorem dX1_isBroken_80 : decode cX1_isBroken 80 = .ok (.iconst 1, 1) := by decide +kernel
theorem dX1_isBroken_81 : decode cX1_isBroken 81 = .ok (.goto 4, 3) := by decide +kernel
theorem dX1_isBroken_84 : decode cX1_isBroken 84 = .ok (.iconst 0, 1) := by decide +kernel
theorem dX1_isBroken_85 : decode cX1_isBroken 85 = .ok (.ireturn, 1) := by decide +kernel
theorem dX1_isBroken_86 : decode cX1_isBroken 86 = .ok (.iload_n 1, 1) := by decide +kernel
theorem dX1_isBroken_87 : decode cX1_isBroken 87 = .ok (.iconst 2, 1) := by decide +kernel
theorem dX1_isBroken_88 : decode cX1_isBroken 88 = .ok (.if_icmp .ne 7, 3) := by decide +kernel
theorem dX1_isBroken_91 : decode cX1_isBroken 91 = .ok (.iconst 1, 1) := by decide +kernel
theorem dX1_isBroken_92 : decode cX1_isBroken 92 = .ok (.goto 4, 3) := by decide +kernel
theorem dX1_isBroken_95 : decode cX1_isBroken 95 = .ok (.iconst 0, 1) := by decide +kernel
theorem dX1_isBroken_96 : decode cX1_isBroken 96 = .ok (.ireturn, 1) := by decide +kernel
theorem dX2_init_0 : decode cX2_init 0 = .ok (.aload_n 0, 1) := by decide +kernel
theorem dX2_init_1 : decode cX2_init 1 = .ok (.invokespecial 3, 3) := by decide +kernel
theorem dX2_init_4 : decode cX2_init 4 = .ok (.aload_n 0, 1) := by decide +kernel
theorem dX2_init_5 : decode cX2_init 5 = .ok (.bipush 40, 2) := by decide +kernel
theorem dX2_init_7 : decode cX2_init 7 = .ok (.newarray .int, 2) := by decide +kernel
theorem dX2_init_9 : decode cX2_init 9 = .ok (.putfield 9, 3) := by decide +kernel
theorem dX2_init_12 : decode cX2_init 12 = .ok (.aload_n 0, 1) := by decide +kernel
theorem dX2_init_13 : decode cX2_init 13 = .ok (.iconst 0, 1) := by decide +kernel
theorem dX2_init_14 : decode cX2_init 14 = .ok (.putfield 15, 3) := by decide +kernel
theorem dX2_init_17 : decode cX2_init 17 = .ok (.return_, 1) := by decide +kernel
theorem dX2_has_0 : decode cX2_has 0 = .ok (.iload_n 1, 1) := by decide +kernel
theorem dX2_has_1 : decode cX2_has 1 = .ok (.ifCond .lt 24, 3) := by decide +kernel
theorem dX2_has_4 : decode cX2_has 4 = .ok (.iload_n 1, 1) := by decide +kernel
theorem dX2_has_5 : decode cX2_has 5 = .ok (.aload_n 0, 1) := by decide +kernel
theorem dX2_has_6 : decode cX2_has 6 = .ok (.getfield 15, 3) := by decide +kernel
theorem dX2_has_9 : decode cX2_has 9 = .ok (.if_icmp .ge 16, 3) := by decide +kernel
theorem dX2_has_12 : decode cX2_has 12 = .ok (.iload_n 1, 1) := by decide +kernel
theorem dX2_has_13 : decode cX2_has 13 = .ok (.aload_n 0, 1) := by decide +kernel
theorem dX2_has_14 : decode cX2_has 14 = .ok (.getfield 9, 3) := by decide +kernel
theorem dX2_has_17 : decode cX2_has 17 = .ok (.arraylength, 1) := by decide +kernel
theorem dX2_has_18 : decode cX2_has 18 = .ok (.if_icmp .ge 7, 3) := by decide +kernel
theorem dX2_has_21 : decode cX2_has 21 = .ok (.iconst 1, 1) := by decide +kernel
theorem dX2_has_22 : decode cX2_has 22 = .ok (.goto 4, 3) := by decide +kernel
theorem dX2_has_25 : decode cX2_has 25 = .ok (.iconst 0, 1) := by decide +kernel
theorem dX2_has_26 : decode cX2_has 26 = .ok (.ireturn, 1) := by decide +kernel
theorem dX2_at_0 : decode cX2_at 0 = .ok (.aload_n 0, 1) := by decide +kernel
theorem dX2_at_1 : decode cX2_at 1 = .ok (.iload_n 1, 1) := by decide +kernel
theorem dX2_at_2 : decode cX2_at 2 = .ok (.invokevirtual 19, 3) := by decide +kernel
theorem dX2_at_5 : decode cX2_at 5 = .ok (.ifCond .eq 12, 3) := by decide +kernel
theorem dX2_at_8 : decode cX2_at 8 = .ok (.aload_n 0, 1) := by decide +kernel
theorem dX2_at_9 : decode cX2_at 9 = .ok (.getfield 9, 3) := by decide +kernel
theorem dX2_at_12 : decode cX2_at 12 = .ok (.iload_n 1, 1) := by decide +kernel
theorem dX2_at_13 : decode cX2_at 13 = .ok (.iaload, 1) := by decide +kernel
theorem dX2_at_14 : decode cX2_at 14 = .ok (.goto 4, 3) := by decide +kernel
theorem dX2_at_17 : decode cX2_at 17 = .ok (.iconst (-1), 1) := by decide +kernel
theorem dX2_at_18 : decode cX2_at 18 = .ok (.ireturn, 1) := by decide +kernel
theorem dX2_isFull_0 : decode cX2_isFull 0 = .ok (.aload_n 0, 1) := by decide +kernel
theorem dX2_isFull_1 : decode cX2_isFull 1 = .ok (.getfield 15, 3) := by decide +kernel
theorem dX2_isFull_4 : decode cX2_isFull 4 = .ok (.aload_n 0, 1) := by decide +kernel
theorem dX2_isFull_5 : decode cX2_isFull 5 = .ok (.getfield 9, 3) := by decide +kernel
theorem dX2_isFull_8 : decode cX2_isFull 8 = .ok (.arraylength, 1) := by decide +kernel
theorem dX2_isFull_9 : decode cX2_isFull 9 = .ok (.if_icmp .lt 7, 3) := by decide +kernel
theorem dX2_isFull_12 : decode cX2_isFull 12 = .ok (.iconst 1, 1) := by decide +kernel
theorem dX2_isFull_13 : decode cX2_isFull 13 = .ok (.goto 4, 3) := by decide +kernel
theorem dX2_isFull_16 : decode cX2_isFull 16 = .ok (.iconst 0, 1) := by decide +kernel
theorem dX2_isFull_17 : decode cX2_isFull 17 = .ok (.ireturn, 1) := by decide +kernel
theorem dX2_insert_0 : decode cX2_insert 0 = .ok (.iload_n 1, 1) := by decide +kernel
theorem dX2_insert_1 : decode cX2_insert 1 = .ok (.ifCond .lt 18, 3) := by decide +kernel
theorem dX2_insert_4 : decode cX2_insert 4 = .ok (.iload_n 1, 1) := by decide +kernel
theorem dX2_insert_5 : decode cX2_insert 5 = .ok (.aload_n 0, 1) := by decide +kernel
theorem dX2_insert_6 : decode cX2_insert 6 = .ok (.getfield 15, 3) := by decide +kernel
theorem dX2_insert_9 : decode cX2_insert 9 = .ok (.if_icmp .gt 10, 3) := by decide +kernel
theorem dX2_insert_12 : decode cX2_insert 12 = .ok (.aload_n 0, 1) := by decide +kernel
theorem dX2_insert_13 : decode cX2_insert 13 = .ok (.invokevirtual 23, 3) := by decide +kernel
theorem dX2_insert_16 : decode cX2_insert 16 = .ok (.ifCond .eq 4, 3) := by decide +kernel
theorem dX2_insert_19 : decode cX2_insert 19 = .ok (.return_, 1) := by decide +kernel
theorem dX2_insert_20 : decode cX2_insert 20 = .ok (.aload_n 0, 1) := by decide +kernel
theorem dX2_insert_21 : decode cX2_insert 21 = .ok (.getfield 15, 3) := by decide +kernel
theorem dX2_insert_24 : decode cX2_insert 24 = .ok (.istore_n 3, 1) := by decide +kernel
theorem dX2_insert_25 : decode cX2_insert 25 = .ok (.iload_n 3, 1) := by decide +kernel
theorem dX2_insert_26 : decode cX2_insert 26 = .ok (.iload_n 1, 1) := by decide +kernel
theorem dX2_insert_27 : decode cX2_insert 27 = .ok (.if_icmp .le 23, 3) := by decide +kernel
theorem dX2_insert_30 : decode cX2_insert 30 = .ok (.aload_n 0, 1) := by decide +kernel
theorem dX2_insert_31 : decode cX2_insert 31 = .ok (.getfield 9, 3) := by decide +kernel
theorem dX2_insert_34 : decode cX2_insert 34 = .ok (.iload_n 3, 1) := by decide +kernel
theorem dX2_insert_35 : decode cX2_insert 35 = .ok (.aload_n 0, 1) := by decide +kernel
theorem dX2_insert_36 : decode cX2_insert 36 = .ok (.getfield 9, 3) := by decide +kernel
theorem dX2_insert_39 : decode cX2_insert 39 = .ok (.iload_n 3, 1) := by decide +kernel
theorem dX2_insert_40 : decode cX2_insert 40 = .ok (.iconst 1, 1) := by decide +kernel
theorem dX2_insert_41 : decode cX2_insert 41 = .ok (.isub, 1) := by decide +kernel
theorem dX2_insert_42 : decode cX2_insert 42 = .ok (.iaload, 1) := by decide +kernel
theorem dX2_insert_43 : decode cX2_insert 43 = .ok (.iastore, 1) := by decide +kernel
theorem dX2_insert_44 : decode cX2_insert 44 = .ok (.iinc 3 (-1), 3) := by decide +kernel
theorem dX2_insert_47 : decode cX2_insert 47 = .ok (.goto (-22), 3) := by decide +kernel
theorem dX2_insert_50 : decode cX2_insert 50 = .ok (.aload_n 0, 1) := by decide +kernel
theorem dX2_insert_51 : decode cX2_insert 51 = .ok (.getfield 9, 3) := by decide +kernel
theorem dX2_insert_54 : decode cX2_insert 54 = .ok (.iload_n 1, 1) := by decide +kernel
theorem dX2_insert_55 : decode cX2_insert 55 = .ok (.iload_n 2, 1) := by decide +kernel
theorem dX2_insert_56 : decode cX2_insert 56 = .ok (.iastore, 1) := by decide +kernel
theorem dX2_insert_57 : decode cX2_insert 57 = .ok (.aload_n 0, 1) := by decide +kernel
theorem dX2_insert_58 : decode cX2_insert 58 = .ok (.dup, 1) := by decide +kernel
theorem dX2_insert_59 : decode cX2_insert 59 = .ok (.getfield 15, 3) := by decide +kernel
theorem dX2_insert_62 : decode cX2_insert 62 = .ok (.iconst 1, 1) := by decide +kernel
theorem dX2_insert_63 : decode cX2_insert 63 = .ok (.iadd, 1) := by decide +kernel
theorem dX2_insert_64 : decode cX2_insert 64 = .ok (.putfield 15, 3) := by decide +kernel
theorem dX2_insert_67 : decode cX2_insert 67 = .ok (.return_, 1) := by decide +kernel
theorem dX2_remove_0 : decode cX2_remove 0 = .ok (.aload_n 0, 1) := by decide +kernel
theorem dX2_remove_1 : decode cX2_remove 1 = .ok (.iload_n 1, 1) := by decide +kernel
theorem dX2_remove_2 : decode cX2_remove 2 = .ok (.invokevirtual 19, 3) := by decide +kernel
theorem dX2_remove_5 : decode cX2_remove 5 = .ok (.ifCond .ne 4, 3) := by decide +kernel
theorem dX2_remove_8 : decode cX2_remove 8 = .ok (.return_, 1) := by decide +kernel
theorem dX2_remove_9 : decode cX2_remove 9 = .ok (.iload_n 1, 1) := by decide +kernel
theorem dX2_remove_10 : decode cX2_remove 10 = .ok (.istore_n 2, 1) := by decide +kernel
theorem dX2_remove_11 : decode cX2_remove 11 = .ok (.iload_n 2, 1) := by decide +kernel
theorem dX2_remove_12 : decode cX2_remove 12 = .ok (.iconst 1, 1) := by decide +kernel
theorem dX2_remove_13 : decode cX2_remove 13 = .ok (.iadd, 1) := by decide +kernel
theorem dX2_remove_14 : decode cX2_remove 14 = .ok (.aload_n 0, 1) := by decide +kernel
theorem dX2_remove_15 : decode cX2_remove 15 = .ok (.getfield 15, 3) := by decide +kernel
theorem dX2_remove_18 : decode cX2_remove 18 = .ok (.if_icmp .ge 23, 3) := by decide +kernel
theorem dX2_remove_21 : decode cX2_remove 21 = .ok (.aload_n 0, 1) := by decide +kernel
theorem dX2_remove_22 : decode cX2_remove 22 = .ok (.getfield 9, 3) := by decide +kernel
theorem dX2_remove_25 : decode cX2_remove 25 = .ok (.iload_n 2, 1) := by decide +kernel
theorem dX2_remove_26 : decode cX2_remove 26 = .ok (.aload_n 0, 1) := by decide +kernel
theorem dX2_remove_27 : decode cX2_remove 27 = .ok (.getfield 9, 3) := by decide +kernel
theorem dX2_remove_30 : decode cX2_remove 30 = .ok (.iload_n 2, 1) := by decide +kernel
theorem dX2_remove_31 : decode cX2_remove 31 = .ok (.iconst 1, 1) := by decide +kernel
theorem dX2_remove_32 : decode cX2_remove 32 = .ok (.iadd, 1) := by decide +kernel
theorem dX2_remove_33 : decode cX2_remove 33 = .ok (.iaload, 1) := by decide +kernel
theorem dX2_remove_34 : decode cX2_remove 34 = .ok (.iastore, 1) := by decide +kernel
theorem dX2_remove_35 : decode cX2_remove 35 = .ok (.iinc 2 1, 3) := by decide +kernel
theorem dX2_remove_38 : decode cX2_remove 38 = .ok (.goto (-27), 3) := by decide +kernel
theorem dX2_remove_41 : decode cX2_remove 41 = .ok (.aload_n 0, 1) := by decide +kernel
theorem dX2_remove_42 : decode cX2_remove 42 = .ok (.dup, 1) := by decide +kernel
theorem dX2_remove_43 : decode cX2_remove 43 = .ok (.getfield 15, 3) := by decide +kernel
theorem dX2_remove_46 : decode cX2_remove 46 = .ok (.iconst 1, 1) := by decide +kernel
theorem dX2_remove_47 : decode cX2_remove 47 = .ok (.isub, 1) := by decide +kernel
theorem dX2_remove_48 : decode cX2_remove 48 = .ok (.putfield 15, 3) := by decide +kernel
theorem dX2_remove_51 : decode cX2_remove 51 = .ok (.return_, 1) := by decide +kernel
theorem dX2_empty_0 : decode cX2_empty 0 = .ok (.aload_n 0, 1) := by decide +kernel
theorem dX2_empty_1 : decode cX2_empty 1 = .ok (.iconst 0, 1) := by decide +kernel
theorem dX2_empty_2 : decode cX2_empty 2 = .ok (.putfield 15, 3) := by decide +kernel
theorem dX2_empty_5 : decode cX2_empty 5 = .ok (.return_, 1) := by decide +kernel
theorem dX2_become_0 : decode cX2_become 0 = .ok (.iconst 0, 1) := by decide +kernel
theorem dX2_become_1 : decode cX2_become 1 = .ok (.istore_n 2, 1) := by decide +kernel
theorem dX2_become_2 : decode cX2_become 2 = .ok (.iload_n 2, 1) := by decide +kernel
theorem dX2_become_3 : decode cX2_become 3 = .ok (.aload_n 1, 1) := by decide +kernel
theorem dX2_become_4 : decode cX2_become 4 = .ok (.getfield 15, 3) := by decide +kernel
theorem dX2_become_7 : decode cX2_become 7 = .ok (.if_icmp .ge 29, 3) := by decide +kernel
theorem dX2_become_10 : decode cX2_become 10 = .ok (.iload_n 2, 1) := by decide +kernel
theorem dX2_become_11 : decode cX2_become 11 = .ok (.aload_n 0, 1) := by decide +kernel
theorem dX2_become_12 : decode cX2_become 12 = .ok (.getfield 9, 3) := by decide +kernel
theorem dX2_become_15 : decode cX2_become 15 = .ok (.arraylength, 1) := by decide +kernel
theorem dX2_become_16 : decode cX2_become 16 = .ok (.if_icmp .ge 20, 3) := by decide +kernel
theorem dX2_become_19 : decode cX2_become 19 = .ok (.aload_n 0, 1) := by decide +kernel
theorem dX2_become_20 : decode cX2_become 20 = .ok (.getfield 9, 3) := by decide +kernel
theorem dX2_become_23 : decode cX2_become 23 = .ok (.iload_n 2, 1) := by decide +kernel
theorem dX2_become_24 : decode cX2_become 24 = .ok (.aload_n 1, 1) := by decide +kernel
theorem dX2_become_25 : decode cX2_become 25 = .ok (.iload_n 2, 1) := by decide +kernel
theorem dX2_become_26 : decode cX2_become 26 = .ok (.invokevirtual 27, 3) := by decide +kernel
theorem dX2_become_29 : decode cX2_become 29 = .ok (.iastore, 1) := by decide +kernel
theorem dX2_become_30 : decode cX2_become 30 = .ok (.iinc 2 1, 3) := by decide +kernel
theorem dX2_become_33 : decode cX2_become 33 = .ok (.goto (-31), 3) := by decide +kernel
theorem dX2_become_36 : decode cX2_become 36 = .ok (.aload_n 0, 1) := by decide +kernel
theorem dX2_become_37 : decode cX2_become 37 = .ok (.aload_n 1, 1) := by decide +kernel
theorem dX2_become_38 : decode cX2_become 38 = .ok (.getfield 15, 3) := by decide +kernel
theorem dX2_become_41 : decode cX2_become 41 = .ok (.putfield 15, 3) := by decide +kernel
theorem dX2_become_44 : decode cX2_become 44 = .ok (.return_, 1) := by decide +kernel
theorem dX3_init_0 : decode cX3_init 0 = .ok (.aload_n 0, 1) := by decide +kernel
theorem dX3_init_1 : decode cX3_init 1 = .ok (.invokespecial 1, 3) := by decide +kernel
theorem dX3_init_4 : decode cX3_init 4 = .ok (.aload_n 0, 1) := by decide +kernel
theorem dX3_init_5 : decode cX3_init 5 = .ok (.iload_n 1, 1) := by decide +kernel
theorem dX3_init_6 : decode cX3_init 6 = .ok (.putfield 7, 3) := by decide +kernel
theorem dX3_init_9 : decode cX3_init 9 = .ok (.aload_n 0, 1) := by decide +kernel
theorem dX3_init_10 : decode cX3_init 10 = .ok (.iload_n 2, 1) := by decide +kernel
theorem dX3_init_11 : decode cX3_init 11 = .ok (.putfield 13, 3) := by decide +kernel
theorem dX3_init_14 : decode cX3_init 14 = .ok (.aload_n 0, 1) := by decide +kernel
theorem dX3_init_15 : decode cX3_init 15 = .ok (.iload_n 3, 1) := by decide +kernel
theorem dX3_init_16 : decode cX3_init 16 = .ok (.putfield 16, 3) := by decide +kernel
theorem dX3_init_19 : decode cX3_init 19 = .ok (.aload_n 0, 1) := by decide +kernel
theorem dX3_init_20 : decode cX3_init 20 = .ok (.iload 4, 2) := by decide +kernel
theorem dX3_init_22 : decode cX3_init 22 = .ok (.putfield 19, 3) := by decide +kernel
theorem dX3_init_25 : decode cX3_init 25 = .ok (.return_, 1) := by decide +kernel
theorem dX3_isInForce_0 : decode cX3_isInForce 0 = .ok (.iload_n 1, 1) := by decide +kernel
theorem dX3_isInForce_1 : decode cX3_isInForce 1 = .ok (.aload_n 0, 1) := by decide +kernel
theorem dX3_isInForce_2 : decode cX3_isInForce 2 = .ok (.getfield 7, 3) := by decide +kernel
theorem dX3_isInForce_5 : decode cX3_isInForce 5 = .ok (.if_icmp .ne 23, 3) := by decide +kernel
theorem dX3_isInForce_8 : decode cX3_isInForce 8 = .ok (.iload_n 2, 1) := by decide +kernel
theorem dX3_isInForce_9 : decode cX3_isInForce 9 = .ok (.aload_n 0, 1) := by decide +kernel
theorem dX3_isInForce_10 : decode cX3_isInForce 10 = .ok (.getfield 16, 3) := by decide +kernel
theorem dX3_isInForce_13 : decode cX3_isInForce 13 = .ok (.if_icmp .lt 15, 3) := by decide +kernel
theorem dX3_isInForce_16 : decode cX3_isInForce 16 = .ok (.iload_n 2, 1) := by decide +kernel
theorem dX3_isInForce_17 : decode cX3_isInForce 17 = .ok (.aload_n 0, 1) := by decide +kernel
theorem dX3_isInForce_18 : decode cX3_isInForce 18 = .ok (.getfield 19, 3) := by decide +kernel
theorem dX3_isInForce_21 : decode cX3_isInForce 21 = .ok (.if_icmp .gt 7, 3) := by decide +kernel
theorem dX3_isInForce_24 : decode cX3_isInForce 24 = .ok (.iconst 1, 1) := by decide +kernel
theorem dX3_isInForce_25 : decode cX3_isInForce 25 = .ok (.goto 4, 3) := by decide +kernel
theorem dX3_isInForce_28 : decode cX3_isInForce 28 = .ok (.iconst 0, 1) := by decide +kernel
theorem dX3_isInForce_29 : decode cX3_isInForce 29 = .ok (.ireturn, 1) := by decide +kernel
theorem dX4_init_0 : decode cX4_init 0 = .ok (.aload_n 0, 1) := by decide +kernel
theorem dX4_init_1 : decode cX4_init 1 = .ok (.invokespecial 3, 3) := by decide +kernel
theorem dX4_init_4 : decode cX4_init 4 = .ok (.aload_n 0, 1) := by decide +kernel
theorem dX4_init_5 : decode cX4_init 5 = .ok (.new 9, 3) := by decide +kernel
theorem dX4_init_8 : decode cX4_init 8 = .ok (.dup, 1) := by decide +kernel
theorem dX4_init_9 : decode cX4_init 9 = .ok (.invokespecial 11, 3) := by decide +kernel
theorem dX4_init_12 : decode cX4_init 12 = .ok (.putfield 12, 3) := by decide +kernel
theorem dX4_init_15 : decode cX4_init 15 = .ok (.aload_n 0, 1) := by decide +kernel
theorem dX4_init_16 : decode cX4_init 16 = .ok (.bipush 8, 2) := by decide +kernel
theorem dX4_init_18 : decode cX4_init 18 = .ok (.bipush 8, 2) := by decide +kernel
theorem dX4_init_20 : decode cX4_init 20 = .ok (.multianewarray 18 2, 4) := by decide +kernel
theorem dX4_init_24 : decode cX4_init 24 = .ok (.putfield 20, 3) := by decide +kernel
theorem dX4_init_27 : decode cX4_init 27 = .ok (.aload_n 0, 1) := by decide +kernel
theorem dX4_init_28 : decode cX4_init 28 = .ok (.sipush 256, 3) := by decide +kernel
theorem dX4_init_31 : decode cX4_init 31 = .ok (.newarray .int, 2) := by decide +kernel
theorem dX4_init_33 : decode cX4_init 33 = .ok (.putfield 23, 3) := by decide +kernel
theorem dX4_init_36 : decode cX4_init 36 = .ok (.return_, 1) := by decide +kernel
theorem dX4_setCuts_0 : decode cX4_setCuts 0 = .ok (.iload_n 1, 1) := by decide +kernel
theorem dX4_setCuts_1 : decode cX4_setCuts 1 = .ok (.invokestatic 27, 3) := by decide +kernel
theorem dX4_setCuts_4 : decode cX4_setCuts 4 = .ok (.ifCond .eq 19, 3) := by decide +kernel
theorem dX4_setCuts_7 : decode cX4_setCuts 7 = .ok (.iload_n 2, 1) := by decide +kernel
theorem dX4_setCuts_8 : decode cX4_setCuts 8 = .ok (.invokestatic 27, 3) := by decide +kernel
theorem dX4_setCuts_11 : decode cX4_setCuts 11 = .ok (.ifCond .eq 12, 3) := by decide +kernel
theorem dX4_setCuts_14 : decode cX4_setCuts 14 = .ok (.aload_n 0, 1) := by decide +kernel
theorem dX4_setCuts_15 : decode cX4_setCuts 15 = .ok (.getfield 20, 3) := by decide +kernel
theorem dX4_setCuts_18 : decode cX4_setCuts 18 = .ok (.iload_n 1, 1) := by decide +kernel
theorem dX4_setCuts_19 : decode cX4_setCuts 19 = .ok (.aaload, 1) := by decide +kernel
theorem dX4_setCuts_20 : decode cX4_setCuts 20 = .ok (.iload_n 2, 1) := by decide +kernel
theorem dX4_setCuts_21 : decode cX4_setCuts 21 = .ok (.iload_n 3, 1) := by decide +kernel
theorem dX4_setCuts_22 : decode cX4_setCuts 22 = .ok (.iastore, 1) := by decide +kernel
theorem dX4_setCuts_23 : decode cX4_setCuts 23 = .ok (.return_, 1) := by decide +kernel
theorem dX4_find_0 : decode cX4_find 0 = .ok (.sipush 255, 3) := by decide +kernel
theorem dX4_find_3 : decode cX4_find 3 = .ok (.istore_n 2, 1) := by decide +kernel
theorem dX4_find_4 : decode cX4_find 4 = .ok (.iload_n 2, 1) := by decide +kernel
theorem dX4_find_5 : decode cX4_find 5 = .ok (.ifCond .lt 29, 3) := by decide +kernel
theorem dX4_find_8 : decode cX4_find 8 = .ok (.iload_n 2, 1) := by decide +kernel
theorem dX4_find_9 : decode cX4_find 9 = .ok (.iload_n 1, 1) := by decide +kernel
theorem dX4_find_10 : decode cX4_find 10 = .ok (.iconst (-1), 1) := by decide +kernel
theorem dX4_find_11 : decode cX4_find 11 = .ok (.ixor, 1) := by decide +kernel
theorem dX4_find_12 : decode cX4_find 12 = .ok (.iand, 1) := by decide +kernel
theorem dX4_find_13 : decode cX4_find 13 = .ok (.ifCond .ne 15, 3) := by decide +kernel
theorem dX4_find_16 : decode cX4_find 16 = .ok (.aload_n 0, 1) := by decide +kernel
theorem dX4_find_17 : decode cX4_find 17 = .ok (.getfield 23, 3) := by decide +kernel
theorem dX4_find_20 : decode cX4_find 20 = .ok (.iload_n 2, 1) := by decide +kernel
theorem dX4_find_21 : decode cX4_find 21 = .ok (.aload_n 0, 1) := by decide +kernel
theorem dX4_find_22 : decode cX4_find 22 = .ok (.iload_n 1, 1) := by decide +kernel
theorem dX4_find_23 : decode cX4_find 23 = .ok (.iload_n 2, 1) := by decide +kernel
theorem dX4_find_24 : decode cX4_find 24 = .ok (.invokevirtual 31, 3) := by decide +kernel
theorem dX4_find_27 : decode cX4_find 27 = .ok (.iastore, 1) := by decide +kernel
theorem dX4_find_28 : decode cX4_find 28 = .ok (.iinc 2 (-1), 3) := by decide +kernel
theorem dX4_find_31 : decode cX4_find 31 = .ok (.goto (-27), 3) := by decide +kernel
theorem dX4_find_34 : decode cX4_find 34 = .ok (.aload_n 0, 1) := by decide +kernel
theorem dX4_find_35 : decode cX4_find 35 = .ok (.getfield 12, 3) := by decide +kernel
theorem dX4_find_38 : decode cX4_find 38 = .ok (.invokevirtual 35, 3) := by decide +kernel
theorem dX4_find_41 : decode cX4_find 41 = .ok (.iconst 0, 1) := by decide +kernel
theorem dX4_find_42 : decode cX4_find 42 = .ok (.istore_n 2, 1) := by decide +kernel
theorem dX4_find_43 : decode cX4_find 43 = .ok (.iconst 0, 1) := by decide +kernel
theorem dX4_find_44 : decode cX4_find 44 = .ok (.istore_n 3, 1) := by decide +kernel
theorem dX4_find_45 : decode cX4_find 45 = .ok (.iload_n 3, 1) := by decide +kernel
theorem dX4_find_46 : decode cX4_find 46 = .ok (.bipush 8, 2) := by decide +kernel
theorem dX4_find_48 : decode cX4_find 48 = .ok (.if_icmp .ge 39, 3) := by decide +kernel
theorem dX4_find_51 : decode cX4_find 51 = .ok (.iload_n 2, 1) := by decide +kernel
theorem dX4_find_52 : decode cX4_find 52 = .ok (.iload_n 1, 1) := by decide +kernel
theorem dX4_find_53 : decode cX4_find 53 = .ok (.if_icmp .eq 34, 3) := by decide +kernel
theorem dX4_find_56 : decode cX4_find 56 = .ok (.aload_n 0, 1) := by decide +kernel
theorem dX4_find_57 : decode cX4_find 57 = .ok (.iload_n 1, 1) := by decide +kernel
theorem dX4_find_58 : decode cX4_find 58 = .ok (.iload_n 2, 1) := by decide +kernel
theorem dX4_find_59 : decode cX4_find 59 = .ok (.invokevirtual 38, 3) := by decide +kernel
theorem dX4_find_62 : decode cX4_find 62 = .ok (.istore 4, 2) := by decide +kernel
theorem dX4_find_64 : decode cX4_find 64 = .ok (.aload_n 0, 1) := by decide +kernel
theorem dX4_find_65 : decode cX4_find 65 = .ok (.getfield 12, 3) := by decide +kernel
theorem dX4_find_68 : decode cX4_find 68 = .ok (.iload_n 3, 1) := by decide +kernel
theorem dX4_find_69 : decode cX4_find 69 = .ok (.iload 4, 2) := by decide +kernel
theorem dX4_find_71 : decode cX4_find 71 = .ok (.invokevirtual 41, 3) := by decide +kernel
theorem dX4_find_74 : decode cX4_find 74 = .ok (.iload_n 2, 1) := by decide +kernel
theorem dX4_find_75 : decode cX4_find 75 = .ok (.iconst 1, 1) := by decide +kernel
theorem dX4_find_76 : decode cX4_find 76 = .ok (.iload 4, 2) := by decide +kernel
theorem dX4_find_78 : decode cX4_find 78 = .ok (.ishl, 1) := by decide +kernel
theorem dX4_find_79 : decode cX4_find 79 = .ok (.ior, 1) := by decide +kernel
theorem dX4_find_80 : decode cX4_find 80 = .ok (.istore_n 2, 1) := by decide +kernel
theorem dX4_find_81 : decode cX4_find 81 = .ok (.iinc 3 1, 3) := by decide +kernel
theorem dX4_find_84 : decode cX4_find 84 = .ok (.goto (-39), 3) := by decide +kernel
theorem dX4_find_87 : decode cX4_find 87 = .ok (.aload_n 0, 1) := by decide +kernel
theorem dX4_find_88 : decode cX4_find 88 = .ok (.getfield 23, 3) := by decide +kernel
theorem dX4_find_91 : decode cX4_find 91 = .ok (.iconst 0, 1) := by decide +kernel
theorem dX4_find_92 : decode cX4_find 92 = .ok (.iaload, 1) := by decide +kernel
theorem dX4_find_93 : decode cX4_find 93 = .ok (.ireturn, 1) := by decide +kernel
theorem dX4_fewestBehind_0 : decode cX4_fewestBehind 0 = .ok (.aload_n 0, 1) := by decide +kernel
theorem dX4_fewestBehind_1 : decode cX4_fewestBehind 1 = .ok (.iload_n 1, 1) := by decide +kernel
theorem dX4_fewestBehind_2 : decode cX4_fewestBehind 2 = .ok (.iload_n 2, 1) := by decide +kernel
theorem dX4_fewestBehind_3 : decode cX4_fewestBehind 3 = .ok (.invokevirtual 38, 3) := by decide +kernel
theorem dX4_fewestBehind_6 : decode cX4_fewestBehind 6 = .ok (.istore_n 3, 1) := by decide +kernel
theorem dX4_fewestBehind_7 : decode cX4_fewestBehind 7 = .ok (.iload_n 3, 1) := by decide +kernel
theorem dX4_fewestBehind_8 : decode cX4_fewestBehind 8 = .ok (.iconst (-1), 1) := by decide +kernel
theorem dX4_fewestBehind_9 : decode cX4_fewestBehind 9 = .ok (.if_icmp .ne 7, 3) := by decide +kernel
theorem dX4_fewestBehind_12 : decode cX4_fewestBehind 12 = .ok (.iconst 0, 1) := by decide +kernel
theorem dX4_fewestBehind_13 : decode cX4_fewestBehind 13 = .ok (.goto 9, 3) := by decide +kernel
theorem dX4_fewestBehind_16 : decode cX4_fewestBehind 16 = .ok (.aload_n 0, 1) := by decide +kernel
theorem dX4_fewestBehind_17 : decode cX4_fewestBehind 17 = .ok (.iload_n 3, 1) := by decide +kernel
theorem dX4_fewestBehind_18 : decode cX4_fewestBehind 18 = .ok (.iload_n 2, 1) := by decide +kernel
theorem dX4_fewestBehind_19 : decode cX4_fewestBehind 19 = .ok (.invokevirtual 45, 3) := by decide +kernel
theorem dX4_fewestBehind_22 : decode cX4_fewestBehind 22 = .ok (.ireturn, 1) := by decide +kernel
theorem dX4_nextTown_0 : decode cX4_nextTown 0 = .ok (.iconst (-1), 1) := by decide +kernel
theorem dX4_nextTown_1 : decode cX4_nextTown 1 = .ok (.istore_n 3, 1) := by decide +kernel
theorem dX4_nextTown_2 : decode cX4_nextTown 2 = .ok (.iconst 0, 1) := by decide +kernel
theorem dX4_nextTown_3 : decode cX4_nextTown 3 = .ok (.istore 4, 2) := by decide +kernel
theorem dX4_nextTown_5 : decode cX4_nextTown 5 = .ok (.iload 4, 2) := by decide +kernel
theorem dX4_nextTown_7 : decode cX4_nextTown 7 = .ok (.bipush 8, 2) := by decide +kernel
theorem dX4_nextTown_9 : decode cX4_nextTown 9 = .ok (.if_icmp .ge 47, 3) := by decide +kernel
theorem dX4_nextTown_12 : decode cX4_nextTown 12 = .ok (.iload_n 1, 1) := by decide +kernel
theorem dX4_nextTown_13 : decode cX4_nextTown 13 = .ok (.iload_n 2, 1) := by decide +kernel
theorem dX4_nextTown_14 : decode cX4_nextTown 14 = .ok (.iconst (-1), 1) := by decide +kernel
theorem dX4_nextTown_15 : decode cX4_nextTown 15 = .ok (.ixor, 1) := by decide +kernel
theorem dX4_nextTown_16 : decode cX4_nextTown 16 = .ok (.iand, 1) := by decide +kernel
theorem dX4_nextTown_17 : decode cX4_nextTown 17 = .ok (.i2l, 1) := by decide +kernel
theorem dX4_nextTown_18 : decode cX4_nextTown 18 = .ok (.iload 4, 2) := by decide +kernel
theorem dX4_nextTown_20 : decode cX4_nextTown 20 = .ok (.invokestatic 48, 3) := by decide +kernel
theorem dX4_nextTown_23 : decode cX4_nextTown 23 = .ok (.ifCond .eq 27, 3) := by decide +kernel
theorem dX4_nextTown_26 : decode cX4_nextTown 26 = .ok (.iload_n 3, 1) := by decide +kernel
theorem dX4_nextTown_27 : decode cX4_nextTown 27 = .ok (.iconst (-1), 1) := by decide +kernel
theorem dX4_nextTown_28 : decode cX4_nextTown 28 = .ok (.if_icmp .eq 19, 3) := by decide +kernel
theorem dX4_nextTown_31 : decode cX4_nextTown 31 = .ok (.aload_n 0, 1) := by decide +kernel
theorem dX4_nextTown_32 : decode cX4_nextTown 32 = .ok (.iload 4, 2) := by decide +kernel
theorem dX4_nextTown_34 : decode cX4_nextTown 34 = .ok (.iload_n 2, 1) := by decide +kernel
theorem dX4_nextTown_35 : decode cX4_nextTown 35 = .ok (.invokevirtual 45, 3) := by decide +kernel
theorem dX4_nextTown_38 : decode cX4_nextTown 38 = .ok (.aload_n 0, 1) := by decide +kernel
theorem dX4_nextTown_39 : decode cX4_nextTown 39 = .ok (.iload_n 3, 1) := by decide +kernel
theorem dX4_nextTown_40 : decode cX4_nextTown 40 = .ok (.iload_n 2, 1) := by decide +kernel
theorem dX4_nextTown_41 : decode cX4_nextTown 41 = .ok (.invokevirtual 45, 3) := by decide +kernel
theorem dX4_nextTown_44 : decode cX4_nextTown 44 = .ok (.if_icmp .ge 6, 3) := by decide +kernel
theorem dX4_nextTown_47 : decode cX4_nextTown 47 = .ok (.iload 4, 2) := by decide +kernel
theorem dX4_nextTown_49 : decode cX4_nextTown 49 = .ok (.istore_n 3, 1) := by decide +kernel
theorem dX4_nextTown_50 : decode cX4_nextTown 50 = .ok (.iinc 4 1, 3) := by decide +kernel
theorem dX4_nextTown_53 : decode cX4_nextTown 53 = .ok (.goto (-48), 3) := by decide +kernel
theorem dX4_nextTown_56 : decode cX4_nextTown 56 = .ok (.iload_n 3, 1) := by decide +kernel
theorem dX4_nextTown_57 : decode cX4_nextTown 57 = .ok (.ireturn, 1) := by decide +kernel
theorem dX4_cutsBy_0 : decode cX4_cutsBy 0 = .ok (.iload_n 2, 1) := by decide +kernel
theorem dX4_cutsBy_1 : decode cX4_cutsBy 1 = .ok (.invokestatic 52, 3) := by decide +kernel
theorem dX4_cutsBy_4 : decode cX4_cutsBy 4 = .ok (.istore_n 3, 1) := by decide +kernel
theorem dX4_cutsBy_5 : decode cX4_cutsBy 5 = .ok (.iload_n 2, 1) := by decide +kernel
theorem dX4_cutsBy_6 : decode cX4_cutsBy 6 = .ok (.iconst 1, 1) := by decide +kernel
theorem dX4_cutsBy_7 : decode cX4_cutsBy 7 = .ok (.iload_n 1, 1) := by decide +kernel
theorem dX4_cutsBy_8 : decode cX4_cutsBy 8 = .ok (.ishl, 1) := by decide +kernel
theorem dX4_cutsBy_9 : decode cX4_cutsBy 9 = .ok (.ior, 1) := by decide +kernel
theorem dX4_cutsBy_10 : decode cX4_cutsBy 10 = .ok (.istore 4, 2) := by decide +kernel
theorem dX4_cutsBy_12 : decode cX4_cutsBy 12 = .ok (.iload_n 1, 1) := by decide +kernel
theorem dX4_cutsBy_13 : decode cX4_cutsBy 13 = .ok (.invokestatic 27, 3) := by decide +kernel
theorem dX4_cutsBy_16 : decode cX4_cutsBy 16 = .ok (.ifCond .eq 23, 3) := by decide +kernel
theorem dX4_cutsBy_19 : decode cX4_cutsBy 19 = .ok (.iload_n 3, 1) := by decide +kernel
theorem dX4_cutsBy_20 : decode cX4_cutsBy 20 = .ok (.invokestatic 27, 3) := by decide +kernel
theorem dX4_cutsBy_23 : decode cX4_cutsBy 23 = .ok (.ifCond .eq 16, 3) := by decide +kernel
theorem dX4_cutsBy_26 : decode cX4_cutsBy 26 = .ok (.iload 4, 2) := by decide +kernel
theorem dX4_cutsBy_28 : decode cX4_cutsBy 28 = .ok (.ifCond .lt 11, 3) := by decide +kernel
theorem dX4_cutsBy_31 : decode cX4_cutsBy 31 = .ok (.iload 4, 2) := by decide +kernel
theorem dX4_cutsBy_33 : decode cX4_cutsBy 33 = .ok (.sipush 255, 3) := by decide +kernel
theorem dX4_cutsBy_36 : decode cX4_cutsBy 36 = .ok (.if_icmp .le 5, 3) := by decide +kernel
theorem dX4_cutsBy_39 : decode cX4_cutsBy 39 = .ok (.iconst 0, 1) := by decide +kernel
theorem dX4_cutsBy_40 : decode cX4_cutsBy 40 = .ok (.ireturn, 1) := by decide +kernel
theorem dX4_cutsBy_41 : decode cX4_cutsBy 41 = .ok (.aload_n 0, 1) := by decide +kernel
theorem dX4_cutsBy_42 : decode cX4_cutsBy 42 = .ok (.getfield 20, 3) := by decide +kernel
theorem dX4_cutsBy_45 : decode cX4_cutsBy 45 = .ok (.iload_n 1, 1) := by decide +kernel
theorem dX4_cutsBy_46 : decode cX4_cutsBy 46 = .ok (.aaload, 1) := by decide +kernel
theorem dX4_cutsBy_47 : decode cX4_cutsBy 47 = .ok (.iload_n 3, 1) := by decide +kernel
theorem dX4_cutsBy_48 : decode cX4_cutsBy 48 = .ok (.iaload, 1) := by decide +kernel
theorem dX4_cutsBy_49 : decode cX4_cutsBy 49 = .ok (.aload_n 0, 1) := by decide +kernel
theorem dX4_cutsBy_50 : decode cX4_cutsBy 50 = .ok (.getfield 23, 3) := by decide +kernel
theorem dX4_cutsBy_53 : decode cX4_cutsBy 53 = .ok (.iload 4, 2) := by decide +kernel
theorem dX4_cutsBy_55 : decode cX4_cutsBy 55 = .ok (.iaload, 1) := by decide +kernel
theorem dX4_cutsBy_56 : decode cX4_cutsBy 56 = .ok (.iadd, 1) := by decide +kernel
theorem dX4_cutsBy_57 : decode cX4_cutsBy 57 = .ok (.ireturn, 1) := by decide +kernel
end
section
theorem dX5_init_0 : decode cX5_init 0 = .ok (.aload_n 0, 1) := by decide +kernel
theorem dX5_init_1 : decode cX5_init 1 = .ok (.invokespecial 1, 3) := by decide +kernel
theorem dX5_init_4 : decode cX5_init 4 = .ok (.aload_n 0, 1) := by decide +kernel
theorem dX5_init_5 : decode cX5_init 5 = .ok (.bipush 8, 2) := by decide +kernel
theorem dX5_init_7 : decode cX5_init 7 = .ok (.anewarray 9, 3) := by decide +kernel
theorem dX5_init_10 : decode cX5_init 10 = .ok (.putfield 11, 3) := by decide +kernel
theorem dX5_init_13 : decode cX5_init 13 = .ok (.aload_n 0, 1) := by decide +kernel
theorem dX5_init_14 : decode cX5_init 14 = .ok (.iconst 4, 1) := by decide +kernel
theorem dX5_init_15 : decode cX5_init 15 = .ok (.anewarray 9, 3) := by decide +kernel
theorem dX5_init_18 : decode cX5_init 18 = .ok (.putfield 15, 3) := by decide +kernel
theorem dX5_init_21 : decode cX5_init 21 = .ok (.aload_n 0, 1) := by decide +kernel
theorem dX5_init_22 : decode cX5_init 22 = .ok (.bipush 12, 2) := by decide +kernel
theorem dX5_init_24 : decode cX5_init 24 = .ok (.anewarray 18, 3) := by decide +kernel
theorem dX5_init_27 : decode cX5_init 27 = .ok (.putfield 20, 3) := by decide +kernel
theorem dX5_init_30 : decode cX5_init 30 = .ok (.aload_n 0, 1) := by decide +kernel
theorem dX5_init_31 : decode cX5_init 31 = .ok (.bipush 20, 2) := by decide +kernel
theorem dX5_init_33 : decode cX5_init 33 = .ok (.anewarray 24, 3) := by decide +kernel
theorem dX5_init_36 : decode cX5_init 36 = .ok (.putfield 26, 3) := by decide +kernel
theorem dX5_init_39 : decode cX5_init 39 = .ok (.aload_n 0, 1) := by decide +kernel
theorem dX5_init_40 : decode cX5_init 40 = .ok (.bipush 100, 2) := by decide +kernel
theorem dX5_init_42 : decode cX5_init 42 = .ok (.newarray .int, 2) := by decide +kernel
theorem dX5_init_44 : decode cX5_init 44 = .ok (.putfield 30, 3) := by decide +kernel
theorem dX5_init_47 : decode cX5_init 47 = .ok (.aload_n 0, 1) := by decide +kernel
theorem dX5_init_48 : decode cX5_init 48 = .ok (.new 34, 3) := by decide +kernel
theorem dX5_init_51 : decode cX5_init 51 = .ok (.dup, 1) := by decide +kernel
theorem dX5_init_52 : decode cX5_init 52 = .ok (.invokespecial 36, 3) := by decide +kernel
theorem dX5_init_55 : decode cX5_init 55 = .ok (.putfield 37, 3) := by decide +kernel
theorem dX5_init_58 : decode cX5_init 58 = .ok (.aload_n 0, 1) := by decide +kernel
theorem dX5_init_59 : decode cX5_init 59 = .ok (.new 41, 3) := by decide +kernel
theorem dX5_init_62 : decode cX5_init 62 = .ok (.dup, 1) := by decide +kernel
theorem dX5_init_63 : decode cX5_init 63 = .ok (.invokespecial 43, 3) := by decide +kernel
theorem dX5_init_66 : decode cX5_init 66 = .ok (.putfield 44, 3) := by decide +kernel
theorem dX5_init_69 : decode cX5_init 69 = .ok (.aload_n 0, 1) := by decide +kernel
theorem dX5_init_70 : decode cX5_init 70 = .ok (.new 9, 3) := by decide +kernel
theorem dX5_init_73 : decode cX5_init 73 = .ok (.dup, 1) := by decide +kernel
theorem dX5_init_74 : decode cX5_init 74 = .ok (.invokespecial 48, 3) := by decide +kernel
theorem dX5_init_77 : decode cX5_init 77 = .ok (.putfield 49, 3) := by decide +kernel
theorem dX5_init_80 : decode cX5_init 80 = .ok (.aload_n 0, 1) := by decide +kernel
theorem dX5_init_81 : decode cX5_init 81 = .ok (.iconst 0, 1) := by decide +kernel
theorem dX5_init_82 : decode cX5_init 82 = .ok (.putfield 53, 3) := by decide +kernel
theorem dX5_init_85 : decode cX5_init 85 = .ok (.aload_n 0, 1) := by decide +kernel
theorem dX5_init_86 : decode cX5_init 86 = .ok (.iconst 0, 1) := by decide +kernel
theorem dX5_init_87 : decode cX5_init 87 = .ok (.putfield 57, 3) := by decide +kernel
theorem dX5_init_90 : decode cX5_init 90 = .ok (.iconst 0, 1) := by decide +kernel
theorem dX5_init_91 : decode cX5_init 91 = .ok (.istore_n 1, 1) := by decide +kernel
theorem dX5_init_92 : decode cX5_init 92 = .ok (.iload_n 1, 1) := by decide +kernel
theorem dX5_init_93 : decode cX5_init 93 = .ok (.bipush 8, 2) := by decide +kernel
theorem dX5_init_95 : decode cX5_init 95 = .ok (.if_icmp .ge 22, 3) := by decide +kernel
theorem dX5_init_98 : decode cX5_init 98 = .ok (.aload_n 0, 1) := by decide +kernel
theorem dX5_init_99 : decode cX5_init 99 = .ok (.getfield 11, 3) := by decide +kernel
theorem dX5_init_102 : decode cX5_init 102 = .ok (.iload_n 1, 1) := by decide +kernel
theorem dX5_init_103 : decode cX5_init 103 = .ok (.new 9, 3) := by decide +kernel
theorem dX5_init_106 : decode cX5_init 106 = .ok (.dup, 1) := by decide +kernel
theorem dX5_init_107 : decode cX5_init 107 = .ok (.invokespecial 48, 3) := by decide +kernel
theorem dX5_init_110 : decode cX5_init 110 = .ok (.aastore, 1) := by decide +kernel
theorem dX5_init_111 : decode cX5_init 111 = .ok (.iinc 1 1, 3) := by decide +kernel
theorem dX5_init_114 : decode cX5_init 114 = .ok (.goto (-22), 3) := by decide +kernel
theorem dX5_init_117 : decode cX5_init 117 = .ok (.iconst 0, 1) := by decide +kernel
theorem dX5_init_118 : decode cX5_init 118 = .ok (.istore_n 1, 1) := by decide +kernel
theorem dX5_init_119 : decode cX5_init 119 = .ok (.iload_n 1, 1) := by decide +kernel
theorem dX5_init_120 : decode cX5_init 120 = .ok (.iconst 4, 1) := by decide +kernel
theorem dX5_init_121 : decode cX5_init 121 = .ok (.if_icmp .ge 22, 3) := by decide +kernel
theorem dX5_init_124 : decode cX5_init 124 = .ok (.aload_n 0, 1) := by decide +kernel
theorem dX5_init_125 : decode cX5_init 125 = .ok (.getfield 15, 3) := by decide +kernel
theorem dX5_init_128 : decode cX5_init 128 = .ok (.iload_n 1, 1) := by decide +kernel
theorem dX5_init_129 : decode cX5_init 129 = .ok (.new 9, 3) := by decide +kernel
theorem dX5_init_132 : decode cX5_init 132 = .ok (.dup, 1) := by decide +kernel
theorem dX5_init_133 : decode cX5_init 133 = .ok (.invokespecial 48, 3) := by decide +kernel
theorem dX5_init_136 : decode cX5_init 136 = .ok (.aastore, 1) := by decide +kernel
theorem dX5_init_137 : decode cX5_init 137 = .ok (.iinc 1 1, 3) := by decide +kernel
theorem dX5_init_140 : decode cX5_init 140 = .ok (.goto (-21), 3) := by decide +kernel
theorem dX5_init_143 : decode cX5_init 143 = .ok (.return_, 1) := by decide +kernel
theorem dX5_put_0 : decode cX5_put 0 = .ok (.aload_n 0, 1) := by decide +kernel
theorem dX5_put_1 : decode cX5_put 1 = .ok (.getfield 11, 3) := by decide +kernel
theorem dX5_put_4 : decode cX5_put 4 = .ok (.iload_n 1, 1) := by decide +kernel
theorem dX5_put_5 : decode cX5_put 5 = .ok (.invokestatic 60, 3) := by decide +kernel
theorem dX5_put_8 : decode cX5_put 8 = .ok (.astore 4, 2) := by decide +kernel
theorem dX5_put_10 : decode cX5_put 10 = .ok (.aload 4, 2) := by decide +kernel
theorem dX5_put_12 : decode cX5_put 12 = .ok (.ifnull 23, 3) := by decide +kernel
theorem dX5_put_15 : decode cX5_put 15 = .ok (.iload_n 2, 1) := by decide +kernel
theorem dX5_put_16 : decode cX5_put 16 = .ok (.ifCond .lt 19, 3) := by decide +kernel
theorem dX5_put_19 : decode cX5_put 19 = .ok (.iload_n 2, 1) := by decide +kernel
theorem dX5_put_20 : decode cX5_put 20 = .ok (.aload 4, 2) := by decide +kernel
theorem dX5_put_22 : decode cX5_put 22 = .ok (.getfield 64, 3) := by decide +kernel
theorem dX5_put_25 : decode cX5_put 25 = .ok (.if_icmp .gt 10, 3) := by decide +kernel
theorem dX5_put_28 : decode cX5_put 28 = .ok (.iload_n 3, 1) := by decide +kernel
theorem dX5_put_29 : decode cX5_put 29 = .ok (.invokestatic 67, 3) := by decide +kernel
theorem dX5_put_32 : decode cX5_put 32 = .ok (.ifCond .ne 6, 3) := by decide +kernel
theorem dX5_put_35 : decode cX5_put 35 = .ok (.bipush (-2), 2) := by decide +kernel
theorem dX5_put_37 : decode cX5_put 37 = .ok (.ireturn, 1) := by decide +kernel
theorem dX5_put_38 : decode cX5_put 38 = .ok (.aload 4, 2) := by decide +kernel
theorem dX5_put_40 : decode cX5_put 40 = .ok (.invokevirtual 71, 3) := by decide +kernel
theorem dX5_put_43 : decode cX5_put 43 = .ok (.ifCond .eq 6, 3) := by decide +kernel
theorem dX5_put_46 : decode cX5_put 46 = .ok (.bipush (-4), 2) := by decide +kernel
theorem dX5_put_48 : decode cX5_put 48 = .ok (.ireturn, 1) := by decide +kernel
theorem dX5_put_49 : decode cX5_put 49 = .ok (.aload 4, 2) := by decide +kernel
theorem dX5_put_51 : decode cX5_put 51 = .ok (.iload_n 2, 1) := by decide +kernel
theorem dX5_put_52 : decode cX5_put 52 = .ok (.iload_n 3, 1) := by decide +kernel
theorem dX5_put_53 : decode cX5_put 53 = .ok (.invokevirtual 75, 3) := by decide +kernel
theorem dX5_put_56 : decode cX5_put 56 = .ok (.aload 4, 2) := by decide +kernel
theorem dX5_put_58 : decode cX5_put 58 = .ok (.getfield 64, 3) := by decide +kernel
theorem dX5_put_61 : decode cX5_put 61 = .ok (.ireturn, 1) := by decide +kernel
theorem dX5_take_0 : decode cX5_take 0 = .ok (.aload_n 0, 1) := by decide +kernel
theorem dX5_take_1 : decode cX5_take 1 = .ok (.getfield 11, 3) := by decide +kernel
theorem dX5_take_4 : decode cX5_take 4 = .ok (.iload_n 1, 1) := by decide +kernel
theorem dX5_take_5 : decode cX5_take 5 = .ok (.invokestatic 60, 3) := by decide +kernel
theorem dX5_take_8 : decode cX5_take 8 = .ok (.astore_n 3, 1) := by decide +kernel
theorem dX5_take_9 : decode cX5_take 9 = .ok (.aload_n 3, 1) := by decide +kernel
theorem dX5_take_10 : decode cX5_take 10 = .ok (.ifnull 11, 3) := by decide +kernel
theorem dX5_take_13 : decode cX5_take 13 = .ok (.aload_n 3, 1) := by decide +kernel
theorem dX5_take_14 : decode cX5_take 14 = .ok (.iload_n 2, 1) := by decide +kernel
theorem dX5_take_15 : decode cX5_take 15 = .ok (.invokevirtual 79, 3) := by decide +kernel
theorem dX5_take_18 : decode cX5_take 18 = .ok (.ifCond .ne 6, 3) := by decide +kernel
theorem dX5_take_21 : decode cX5_take 21 = .ok (.bipush (-2), 2) := by decide +kernel
theorem dX5_take_23 : decode cX5_take 23 = .ok (.ireturn, 1) := by decide +kernel
theorem dX5_take_24 : decode cX5_take 24 = .ok (.aload_n 3, 1) := by decide +kernel
theorem dX5_take_25 : decode cX5_take 25 = .ok (.iload_n 2, 1) := by decide +kernel
theorem dX5_take_26 : decode cX5_take 26 = .ok (.invokevirtual 82, 3) := by decide +kernel
theorem dX5_take_29 : decode cX5_take 29 = .ok (.istore 4, 2) := by decide +kernel
theorem dX5_take_31 : decode cX5_take 31 = .ok (.aload_n 3, 1) := by decide +kernel
theorem dX5_take_32 : decode cX5_take 32 = .ok (.iload_n 2, 1) := by decide +kernel
theorem dX5_take_33 : decode cX5_take 33 = .ok (.invokevirtual 86, 3) := by decide +kernel
theorem dX5_take_36 : decode cX5_take 36 = .ok (.iload 4, 2) := by decide +kernel
theorem dX5_take_38 : decode cX5_take 38 = .ok (.ireturn, 1) := by decide +kernel
theorem dX5_copy_0 : decode cX5_copy 0 = .ok (.aload_n 0, 1) := by decide +kernel
theorem dX5_copy_1 : decode cX5_copy 1 = .ok (.getfield 11, 3) := by decide +kernel
theorem dX5_copy_4 : decode cX5_copy 4 = .ok (.iload_n 1, 1) := by decide +kernel
theorem dX5_copy_5 : decode cX5_copy 5 = .ok (.invokestatic 60, 3) := by decide +kernel
theorem dX5_copy_8 : decode cX5_copy 8 = .ok (.astore_n 3, 1) := by decide +kernel
theorem dX5_copy_9 : decode cX5_copy 9 = .ok (.aload_n 0, 1) := by decide +kernel
theorem dX5_copy_10 : decode cX5_copy 10 = .ok (.getfield 11, 3) := by decide +kernel
theorem dX5_copy_13 : decode cX5_copy 13 = .ok (.iload_n 2, 1) := by decide +kernel
theorem dX5_copy_14 : decode cX5_copy 14 = .ok (.invokestatic 60, 3) := by decide +kernel
theorem dX5_copy_17 : decode cX5_copy 17 = .ok (.astore 4, 2) := by decide +kernel
theorem dX5_copy_19 : decode cX5_copy 19 = .ok (.aload_n 3, 1) := by decide +kernel
theorem dX5_copy_20 : decode cX5_copy 20 = .ok (.ifnull 8, 3) := by decide +kernel
theorem dX5_copy_23 : decode cX5_copy 23 = .ok (.aload 4, 2) := by decide +kernel
theorem dX5_copy_25 : decode cX5_copy 25 = .ok (.ifnonnull 6, 3) := by decide +kernel
theorem dX5_copy_28 : decode cX5_copy 28 = .ok (.bipush (-2), 2) := by decide +kernel
theorem dX5_copy_30 : decode cX5_copy 30 = .ok (.ireturn, 1) := by decide +kernel
theorem dX5_copy_31 : decode cX5_copy 31 = .ok (.aload 4, 2) := by decide +kernel
theorem dX5_copy_33 : decode cX5_copy 33 = .ok (.aload_n 3, 1) := by decide +kernel
theorem dX5_copy_34 : decode cX5_copy 34 = .ok (.invokevirtual 90, 3) := by decide +kernel
theorem dX5_copy_37 : decode cX5_copy 37 = .ok (.aload 4, 2) := by decide +kernel
theorem dX5_copy_39 : decode cX5_copy 39 = .ok (.getfield 64, 3) := by decide +kernel
theorem dX5_copy_42 : decode cX5_copy 42 = .ok (.ireturn, 1) := by decide +kernel
theorem dX5_lineAt_0 : decode cX5_lineAt 0 = .ok (.aload_n 0, 1) := by decide +kernel
theorem dX5_lineAt_1 : decode cX5_lineAt 1 = .ok (.getfield 11, 3) := by decide +kernel
theorem dX5_lineAt_4 : decode cX5_lineAt 4 = .ok (.iload_n 1, 1) := by decide +kernel
theorem dX5_lineAt_5 : decode cX5_lineAt 5 = .ok (.invokestatic 60, 3) := by decide +kernel
theorem dX5_lineAt_8 : decode cX5_lineAt 8 = .ok (.astore_n 3, 1) := by decide +kernel
theorem dX5_lineAt_9 : decode cX5_lineAt 9 = .ok (.aload_n 3, 1) := by decide +kernel
theorem dX5_lineAt_10 : decode cX5_lineAt 10 = .ok (.ifnonnull 8, 3) := by decide +kernel
theorem dX5_lineAt_13 : decode cX5_lineAt 13 = .ok (.bipush (-2), 2) := by decide +kernel
theorem dX5_lineAt_15 : decode cX5_lineAt 15 = .ok (.goto 8, 3) := by decide +kernel
theorem dX5_lineAt_18 : decode cX5_lineAt 18 = .ok (.aload_n 3, 1) := by decide +kernel
theorem dX5_lineAt_19 : decode cX5_lineAt 19 = .ok (.iload_n 2, 1) := by decide +kernel
theorem dX5_lineAt_20 : decode cX5_lineAt 20 = .ok (.invokevirtual 82, 3) := by decide +kernel
theorem dX5_lineAt_23 : decode cX5_lineAt 23 = .ok (.ireturn, 1) := by decide +kernel
theorem dX5_differ_0 : decode cX5_differ 0 = .ok (.aload_n 0, 1) := by decide +kernel
theorem dX5_differ_1 : decode cX5_differ 1 = .ok (.getfield 11, 3) := by decide +kernel
theorem dX5_differ_4 : decode cX5_differ 4 = .ok (.iload_n 1, 1) := by decide +kernel
theorem dX5_differ_5 : decode cX5_differ 5 = .ok (.invokestatic 60, 3) := by decide +kernel
theorem dX5_differ_8 : decode cX5_differ 8 = .ok (.astore_n 3, 1) := by decide +kernel
theorem dX5_differ_9 : decode cX5_differ 9 = .ok (.aload_n 0, 1) := by decide +kernel
theorem dX5_differ_10 : decode cX5_differ 10 = .ok (.getfield 11, 3) := by decide +kernel
theorem dX5_differ_13 : decode cX5_differ 13 = .ok (.iload_n 2, 1) := by decide +kernel
theorem dX5_differ_14 : decode cX5_differ 14 = .ok (.invokestatic 60, 3) := by decide +kernel
theorem dX5_differ_17 : decode cX5_differ 17 = .ok (.astore 4, 2) := by decide +kernel
theorem dX5_differ_19 : decode cX5_differ 19 = .ok (.aload_n 3, 1) := by decide +kernel
theorem dX5_differ_20 : decode cX5_differ 20 = .ok (.ifnull 8, 3) := by decide +kernel
theorem dX5_differ_23 : decode cX5_differ 23 = .ok (.aload 4, 2) := by decide +kernel
theorem dX5_differ_25 : decode cX5_differ 25 = .ok (.ifnonnull 6, 3) := by decide +kernel
theorem dX5_differ_28 : decode cX5_differ 28 = .ok (.bipush (-2), 2) := by decide +kernel
theorem dX5_differ_30 : decode cX5_differ 30 = .ok (.ireturn, 1) := by decide +kernel
theorem dX5_differ_31 : decode cX5_differ 31 = .ok (.aload_n 0, 1) := by decide +kernel
theorem dX5_differ_32 : decode cX5_differ 32 = .ok (.getfield 37, 3) := by decide +kernel
theorem dX5_differ_35 : decode cX5_differ 35 = .ok (.aload_n 3, 1) := by decide +kernel
theorem dX5_differ_36 : decode cX5_differ 36 = .ok (.aload 4, 2) := by decide +kernel
theorem dX5_differ_38 : decode cX5_differ 38 = .ok (.invokevirtual 94, 3) := by decide +kernel
theorem dX5_differ_41 : decode cX5_differ 41 = .ok (.aload_n 0, 1) := by decide +kernel
theorem dX5_differ_42 : decode cX5_differ 42 = .ok (.getfield 37, 3) := by decide +kernel
theorem dX5_differ_45 : decode cX5_differ 45 = .ok (.invokevirtual 98, 3) := by decide +kernel
theorem dX5_differ_48 : decode cX5_differ 48 = .ok (.ireturn, 1) := by decide +kernel
theorem dX5_step_0 : decode cX5_step 0 = .ok (.aload_n 0, 1) := by decide +kernel
theorem dX5_step_1 : decode cX5_step 1 = .ok (.getfield 11, 3) := by decide +kernel
theorem dX5_step_4 : decode cX5_step 4 = .ok (.iload_n 1, 1) := by decide +kernel
theorem dX5_step_5 : decode cX5_step 5 = .ok (.invokestatic 60, 3) := by decide +kernel
theorem dX5_step_8 : decode cX5_step 8 = .ok (.astore 4, 2) := by decide +kernel
theorem dX5_step_10 : decode cX5_step 10 = .ok (.aload_n 0, 1) := by decide +kernel
theorem dX5_step_11 : decode cX5_step 11 = .ok (.getfield 11, 3) := by decide +kernel
theorem dX5_step_14 : decode cX5_step 14 = .ok (.iload_n 2, 1) := by decide +kernel
theorem dX5_step_15 : decode cX5_step 15 = .ok (.invokestatic 60, 3) := by decide +kernel
theorem dX5_step_18 : decode cX5_step 18 = .ok (.astore 5, 2) := by decide +kernel
theorem dX5_step_20 : decode cX5_step 20 = .ok (.aload 4, 2) := by decide +kernel
theorem dX5_step_22 : decode cX5_step 22 = .ok (.ifnull 8, 3) := by decide +kernel
theorem dX5_step_25 : decode cX5_step 25 = .ok (.aload 5, 2) := by decide +kernel
theorem dX5_step_27 : decode cX5_step 27 = .ok (.ifnonnull 6, 3) := by decide +kernel
theorem dX5_step_30 : decode cX5_step 30 = .ok (.bipush (-2), 2) := by decide +kernel
theorem dX5_step_32 : decode cX5_step 32 = .ok (.ireturn, 1) := by decide +kernel
theorem dX5_step_33 : decode cX5_step 33 = .ok (.iload_n 3, 1) := by decide +kernel
theorem dX5_step_34 : decode cX5_step 34 = .ok (.ifCond .lt 18, 3) := by decide +kernel
theorem dX5_step_37 : decode cX5_step 37 = .ok (.iload_n 3, 1) := by decide +kernel
theorem dX5_step_38 : decode cX5_step 38 = .ok (.aload 4, 2) := by decide +kernel
theorem dX5_step_40 : decode cX5_step 40 = .ok (.getfield 64, 3) := by decide +kernel
theorem dX5_step_43 : decode cX5_step 43 = .ok (.aload 5, 2) := by decide +kernel
theorem dX5_step_45 : decode cX5_step 45 = .ok (.getfield 64, 3) := by decide +kernel
theorem dX5_step_48 : decode cX5_step 48 = .ok (.iadd, 1) := by decide +kernel
theorem dX5_step_49 : decode cX5_step 49 = .ok (.if_icmp .lt 5, 3) := by decide +kernel
theorem dX5_step_52 : decode cX5_step 52 = .ok (.iconst (-1), 1) := by decide +kernel
theorem dX5_step_53 : decode cX5_step 53 = .ok (.ireturn, 1) := by decide +kernel
theorem dX5_step_54 : decode cX5_step 54 = .ok (.aload_n 0, 1) := by decide +kernel
theorem dX5_step_55 : decode cX5_step 55 = .ok (.getfield 37, 3) := by decide +kernel
theorem dX5_step_58 : decode cX5_step 58 = .ok (.aload 4, 2) := by decide +kernel
theorem dX5_step_60 : decode cX5_step 60 = .ok (.aload 5, 2) := by decide +kernel
theorem dX5_step_62 : decode cX5_step 62 = .ok (.invokevirtual 94, 3) := by decide +kernel
theorem dX5_step_65 : decode cX5_step 65 = .ok (.aload_n 0, 1) := by decide +kernel
theorem dX5_step_66 : decode cX5_step 66 = .ok (.getfield 37, 3) := by decide +kernel
theorem dX5_step_69 : decode cX5_step 69 = .ok (.aload 4, 2) := by decide +kernel
theorem dX5_step_71 : decode cX5_step 71 = .ok (.aload 5, 2) := by decide +kernel
theorem dX5_step_73 : decode cX5_step 73 = .ok (.iload_n 3, 1) := by decide +kernel
theorem dX5_step_74 : decode cX5_step 74 = .ok (.invokevirtual 102, 3) := by decide +kernel
theorem dX5_step_77 : decode cX5_step 77 = .ok (.ireturn, 1) := by decide +kernel
theorem dX5_condition_0 : decode cX5_condition 0 = .ok (.iload_n 1, 1) := by decide +kernel
theorem dX5_condition_1 : decode cX5_condition 1 = .ok (.ifCond .lt 23, 3) := by decide +kernel
theorem dX5_condition_4 : decode cX5_condition 4 = .ok (.iload_n 1, 1) := by decide +kernel
theorem dX5_condition_5 : decode cX5_condition 5 = .ok (.bipush 6, 2) := by decide +kernel
theorem dX5_condition_7 : decode cX5_condition 7 = .ok (.if_icmp .gt 17, 3) := by decide +kernel
theorem dX5_condition_10 : decode cX5_condition 10 = .ok (.iload_n 2, 1) := by decide +kernel
theorem dX5_condition_11 : decode cX5_condition 11 = .ok (.invokestatic 67, 3) := by decide +kernel
theorem dX5_condition_14 : decode cX5_condition 14 = .ok (.ifCond .eq 10, 3) := by decide +kernel
theorem dX5_condition_17 : decode cX5_condition 17 = .ok (.iload_n 3, 1) := by decide +kernel
theorem dX5_condition_18 : decode cX5_condition 18 = .ok (.invokestatic 67, 3) := by decide +kernel
theorem dX5_condition_21 : decode cX5_condition 21 = .ok (.ifCond .ne 6, 3) := by decide +kernel
theorem dX5_condition_24 : decode cX5_condition 24 = .ok (.bipush (-2), 2) := by decide +kernel
theorem dX5_condition_26 : decode cX5_condition 26 = .ok (.ireturn, 1) := by decide +kernel
theorem dX5_condition_27 : decode cX5_condition 27 = .ok (.iload_n 1, 1) := by decide +kernel
theorem dX5_condition_28 : decode cX5_condition 28 = .ok (.iconst 1, 1) := by decide +kernel
theorem dX5_condition_29 : decode cX5_condition 29 = .ok (.if_icmp .ne 12, 3) := by decide +kernel
theorem dX5_condition_32 : decode cX5_condition 32 = .ok (.iload_n 3, 1) := by decide +kernel
theorem dX5_condition_33 : decode cX5_condition 33 = .ok (.bipush 40, 2) := by decide +kernel
theorem dX5_condition_35 : decode cX5_condition 35 = .ok (.if_icmp .le 6, 3) := by decide +kernel
theorem dX5_condition_38 : decode cX5_condition 38 = .ok (.bipush (-2), 2) := by decide +kernel
theorem dX5_condition_40 : decode cX5_condition 40 = .ok (.ireturn, 1) := by decide +kernel
theorem dX5_condition_41 : decode cX5_condition 41 = .ok (.aload_n 0, 1) := by decide +kernel
theorem dX5_condition_42 : decode cX5_condition 42 = .ok (.getfield 53, 3) := by decide +kernel
theorem dX5_condition_45 : decode cX5_condition 45 = .ok (.bipush 12, 2) := by decide +kernel
theorem dX5_condition_47 : decode cX5_condition 47 = .ok (.if_icmp .lt 6, 3) := by decide +kernel
theorem dX5_condition_50 : decode cX5_condition 50 = .ok (.bipush (-4), 2) := by decide +kernel
theorem dX5_condition_52 : decode cX5_condition 52 = .ok (.ireturn, 1) := by decide +kernel
theorem dX5_condition_53 : decode cX5_condition 53 = .ok (.aload_n 0, 1) := by decide +kernel
theorem dX5_condition_54 : decode cX5_condition 54 = .ok (.getfield 20, 3) := by decide +kernel
theorem dX5_condition_57 : decode cX5_condition 57 = .ok (.aload_n 0, 1) := by decide +kernel
theorem dX5_condition_58 : decode cX5_condition 58 = .ok (.getfield 53, 3) := by decide +kernel
theorem dX5_condition_61 : decode cX5_condition 61 = .ok (.new 18, 3) := by decide +kernel
theorem dX5_condition_64 : decode cX5_condition 64 = .ok (.dup, 1) := by decide +kernel
theorem dX5_condition_65 : decode cX5_condition 65 = .ok (.iload_n 1, 1) := by decide +kernel
theorem dX5_condition_66 : decode cX5_condition 66 = .ok (.iload_n 2, 1) := by decide +kernel
theorem dX5_condition_67 : decode cX5_condition 67 = .ok (.iload_n 3, 1) := by decide +kernel
theorem dX5_condition_68 : decode cX5_condition 68 = .ok (.invokespecial 106, 3) := by decide +kernel
theorem dX5_condition_71 : decode cX5_condition 71 = .ok (.aastore, 1) := by decide +kernel
theorem dX5_condition_72 : decode cX5_condition 72 = .ok (.aload_n 0, 1) := by decide +kernel
theorem dX5_condition_73 : decode cX5_condition 73 = .ok (.dup, 1) := by decide +kernel
theorem dX5_condition_74 : decode cX5_condition 74 = .ok (.getfield 53, 3) := by decide +kernel
theorem dX5_condition_77 : decode cX5_condition 77 = .ok (.iconst 1, 1) := by decide +kernel
theorem dX5_condition_78 : decode cX5_condition 78 = .ok (.iadd, 1) := by decide +kernel
theorem dX5_condition_79 : decode cX5_condition 79 = .ok (.putfield 53, 3) := by decide +kernel
theorem dX5_condition_82 : decode cX5_condition 82 = .ok (.aload_n 0, 1) := by decide +kernel
theorem dX5_condition_83 : decode cX5_condition 83 = .ok (.getfield 53, 3) := by decide +kernel
theorem dX5_condition_86 : decode cX5_condition 86 = .ok (.iconst 1, 1) := by decide +kernel
theorem dX5_condition_87 : decode cX5_condition 87 = .ok (.isub, 1) := by decide +kernel
theorem dX5_condition_88 : decode cX5_condition 88 = .ok (.ireturn, 1) := by decide +kernel
theorem dX5_clear_0 : decode cX5_clear 0 = .ok (.aload_n 0, 1) := by decide +kernel
theorem dX5_clear_1 : decode cX5_clear 1 = .ok (.getfield 53, 3) := by decide +kernel
theorem dX5_clear_4 : decode cX5_clear 4 = .ok (.istore_n 1, 1) := by decide +kernel
theorem dX5_clear_5 : decode cX5_clear 5 = .ok (.aload_n 0, 1) := by decide +kernel
theorem dX5_clear_6 : decode cX5_clear 6 = .ok (.iconst 0, 1) := by decide +kernel
theorem dX5_clear_7 : decode cX5_clear 7 = .ok (.putfield 53, 3) := by decide +kernel
theorem dX5_clear_10 : decode cX5_clear 10 = .ok (.iload_n 1, 1) := by decide +kernel
theorem dX5_clear_11 : decode cX5_clear 11 = .ok (.ireturn, 1) := by decide +kernel
theorem dX5_breaks_0 : decode cX5_breaks 0 = .ok (.aload_n 0, 1) := by decide +kernel
theorem dX5_breaks_1 : decode cX5_breaks 1 = .ok (.getfield 11, 3) := by decide +kernel
theorem dX5_breaks_4 : decode cX5_breaks 4 = .ok (.iload_n 1, 1) := by decide +kernel
theorem dX5_breaks_5 : decode cX5_breaks 5 = .ok (.invokestatic 60, 3) := by decide +kernel
theorem dX5_breaks_8 : decode cX5_breaks 8 = .ok (.astore_n 2, 1) := by decide +kernel
theorem dX5_breaks_9 : decode cX5_breaks 9 = .ok (.aload_n 2, 1) := by decide +kernel
theorem dX5_breaks_10 : decode cX5_breaks 10 = .ok (.ifnonnull 6, 3) := by decide +kernel
theorem dX5_breaks_13 : decode cX5_breaks 13 = .ok (.bipush (-2), 2) := by decide +kernel
theorem dX5_breaks_15 : decode cX5_breaks 15 = .ok (.ireturn, 1) := by decide +kernel
theorem dX5_breaks_16 : decode cX5_breaks 16 = .ok (.iconst 0, 1) := by decide +kernel
theorem dX5_breaks_17 : decode cX5_breaks 17 = .ok (.istore_n 3, 1) := by decide +kernel
theorem dX5_breaks_18 : decode cX5_breaks 18 = .ok (.iload_n 3, 1) := by decide +kernel
theorem dX5_breaks_19 : decode cX5_breaks 19 = .ok (.aload_n 0, 1) := by decide +kernel
theorem dX5_breaks_20 : decode cX5_breaks 20 = .ok (.getfield 53, 3) := by decide +kernel
theorem dX5_breaks_23 : decode cX5_breaks 23 = .ok (.if_icmp .ge 24, 3) := by decide +kernel
theorem dX5_breaks_26 : decode cX5_breaks 26 = .ok (.aload_n 2, 1) := by decide +kernel
theorem dX5_breaks_27 : decode cX5_breaks 27 = .ok (.aload_n 0, 1) := by decide +kernel
theorem dX5_breaks_28 : decode cX5_breaks 28 = .ok (.iload_n 3, 1) := by decide +kernel
theorem dX5_breaks_29 : decode cX5_breaks 29 = .ok (.invokevirtual 109, 3) := by decide +kernel
theorem dX5_breaks_32 : decode cX5_breaks 32 = .ok (.invokestatic 113, 3) := by decide +kernel
theorem dX5_breaks_35 : decode cX5_breaks 35 = .ok (.iconst 2, 1) := by decide +kernel
theorem dX5_breaks_36 : decode cX5_breaks 36 = .ok (.if_icmp .ne 5, 3) := by decide +kernel
theorem dX5_breaks_39 : decode cX5_breaks 39 = .ok (.iload_n 3, 1) := by decide +kernel
theorem dX5_breaks_40 : decode cX5_breaks 40 = .ok (.ireturn, 1) := by decide +kernel
theorem dX5_breaks_41 : decode cX5_breaks 41 = .ok (.iinc 3 1, 3) := by decide +kernel
theorem dX5_breaks_44 : decode cX5_breaks 44 = .ok (.goto (-26), 3) := by decide +kernel
theorem dX5_breaks_47 : decode cX5_breaks 47 = .ok (.iconst (-1), 1) := by decide +kernel
theorem dX5_breaks_48 : decode cX5_breaks 48 = .ok (.ireturn, 1) := by decide +kernel
theorem dX5_hear_0 : decode cX5_hear 0 = .ok (.aload_n 0, 1) := by decide +kernel
theorem dX5_hear_1 : decode cX5_hear 1 = .ok (.getfield 15, 3) := by decide +kernel
theorem dX5_hear_4 : decode cX5_hear 4 = .ok (.iload_n 1, 1) := by decide +kernel
theorem dX5_hear_5 : decode cX5_hear 5 = .ok (.invokestatic 60, 3) := by decide +kernel
theorem dX5_hear_8 : decode cX5_hear 8 = .ok (.astore_n 3, 1) := by decide +kernel
theorem dX5_hear_9 : decode cX5_hear 9 = .ok (.aload_n 3, 1) := by decide +kernel
theorem dX5_hear_10 : decode cX5_hear 10 = .ok (.ifnull 15, 3) := by decide +kernel
theorem dX5_hear_13 : decode cX5_hear 13 = .ok (.iload_n 2, 1) := by decide +kernel
theorem dX5_hear_14 : decode cX5_hear 14 = .ok (.iconst (-1), 1) := by decide +kernel
theorem dX5_hear_15 : decode cX5_hear 15 = .ok (.if_icmp .eq 13, 3) := by decide +kernel
theorem dX5_hear_18 : decode cX5_hear 18 = .ok (.iload_n 2, 1) := by decide +kernel
theorem dX5_hear_19 : decode cX5_hear 19 = .ok (.invokestatic 67, 3) := by decide +kernel
theorem dX5_hear_22 : decode cX5_hear 22 = .ok (.ifCond .ne 6, 3) := by decide +kernel
theorem dX5_hear_25 : decode cX5_hear 25 = .ok (.bipush (-2), 2) := by decide +kernel
theorem dX5_hear_27 : decode cX5_hear 27 = .ok (.ireturn, 1) := by decide +kernel
theorem dX5_hear_28 : decode cX5_hear 28 = .ok (.aload_n 3, 1) := by decide +kernel
theorem dX5_hear_29 : decode cX5_hear 29 = .ok (.invokevirtual 71, 3) := by decide +kernel
theorem dX5_hear_32 : decode cX5_hear 32 = .ok (.ifCond .eq 6, 3) := by decide +kernel
theorem dX5_hear_35 : decode cX5_hear 35 = .ok (.bipush (-4), 2) := by decide +kernel
theorem dX5_hear_37 : decode cX5_hear 37 = .ok (.ireturn, 1) := by decide +kernel
theorem dX5_hear_38 : decode cX5_hear 38 = .ok (.aload_n 3, 1) := by decide +kernel
theorem dX5_hear_39 : decode cX5_hear 39 = .ok (.aload_n 3, 1) := by decide +kernel
theorem dX5_hear_40 : decode cX5_hear 40 = .ok (.getfield 64, 3) := by decide +kernel
theorem dX5_hear_43 : decode cX5_hear 43 = .ok (.iload_n 2, 1) := by decide +kernel
theorem dX5_hear_44 : decode cX5_hear 44 = .ok (.invokevirtual 75, 3) := by decide +kernel
theorem dX5_hear_47 : decode cX5_hear 47 = .ok (.aload_n 3, 1) := by decide +kernel
theorem dX5_hear_48 : decode cX5_hear 48 = .ok (.getfield 64, 3) := by decide +kernel
theorem dX5_hear_51 : decode cX5_hear 51 = .ok (.ireturn, 1) := by decide +kernel
theorem dX5_forget_0 : decode cX5_forget 0 = .ok (.aload_n 0, 1) := by decide +kernel
theorem dX5_forget_1 : decode cX5_forget 1 = .ok (.getfield 15, 3) := by decide +kernel
theorem dX5_forget_4 : decode cX5_forget 4 = .ok (.iload_n 1, 1) := by decide +kernel
theorem dX5_forget_5 : decode cX5_forget 5 = .ok (.invokestatic 60, 3) := by decide +kernel
theorem dX5_forget_8 : decode cX5_forget 8 = .ok (.astore_n 2, 1) := by decide +kernel
theorem dX5_forget_9 : decode cX5_forget 9 = .ok (.aload_n 2, 1) := by decide +kernel
theorem dX5_forget_10 : decode cX5_forget 10 = .ok (.ifnonnull 6, 3) := by decide +kernel
theorem dX5_forget_13 : decode cX5_forget 13 = .ok (.bipush (-2), 2) := by decide +kernel
theorem dX5_forget_15 : decode cX5_forget 15 = .ok (.ireturn, 1) := by decide +kernel
theorem dX5_forget_16 : decode cX5_forget 16 = .ok (.aload_n 2, 1) := by decide +kernel
theorem dX5_forget_17 : decode cX5_forget 17 = .ok (.getfield 64, 3) := by decide +kernel
theorem dX5_forget_20 : decode cX5_forget 20 = .ok (.istore_n 3, 1) := by decide +kernel
theorem dX5_forget_21 : decode cX5_forget 21 = .ok (.aload_n 2, 1) := by decide +kernel
theorem dX5_forget_22 : decode cX5_forget 22 = .ok (.invokevirtual 117, 3) := by decide +kernel
theorem dX5_forget_25 : decode cX5_forget 25 = .ok (.iload_n 3, 1) := by decide +kernel
theorem dX5_forget_26 : decode cX5_forget 26 = .ok (.ireturn, 1) := by decide +kernel
theorem dX5_heard_0 : decode cX5_heard 0 = .ok (.aload_n 0, 1) := by decide +kernel
theorem dX5_heard_1 : decode cX5_heard 1 = .ok (.getfield 15, 3) := by decide +kernel
theorem dX5_heard_4 : decode cX5_heard 4 = .ok (.iload_n 1, 1) := by decide +kernel
theorem dX5_heard_5 : decode cX5_heard 5 = .ok (.invokestatic 60, 3) := by decide +kernel
theorem dX5_heard_8 : decode cX5_heard 8 = .ok (.astore_n 3, 1) := by decide +kernel
theorem dX5_heard_9 : decode cX5_heard 9 = .ok (.aload_n 3, 1) := by decide +kernel
theorem dX5_heard_10 : decode cX5_heard 10 = .ok (.ifnull 11, 3) := by decide +kernel
theorem dX5_heard_13 : decode cX5_heard 13 = .ok (.aload_n 3, 1) := by decide +kernel
theorem dX5_heard_14 : decode cX5_heard 14 = .ok (.iload_n 2, 1) := by decide +kernel
theorem dX5_heard_15 : decode cX5_heard 15 = .ok (.invokevirtual 79, 3) := by decide +kernel
theorem dX5_heard_18 : decode cX5_heard 18 = .ok (.ifCond .ne 8, 3) := by decide +kernel
theorem dX5_heard_21 : decode cX5_heard 21 = .ok (.bipush (-2), 2) := by decide +kernel
theorem dX5_heard_23 : decode cX5_heard 23 = .ok (.goto 8, 3) := by decide +kernel
theorem dX5_heard_26 : decode cX5_heard 26 = .ok (.aload_n 3, 1) := by decide +kernel
theorem dX5_heard_27 : decode cX5_heard 27 = .ok (.iload_n 2, 1) := by decide +kernel
theorem dX5_heard_28 : decode cX5_heard 28 = .ok (.invokevirtual 82, 3) := by decide +kernel
theorem dX5_heard_31 : decode cX5_heard 31 = .ok (.ireturn, 1) := by decide +kernel
theorem dX5_judge_0 : decode cX5_judge 0 = .ok (.aload_n 0, 1) := by decide +kernel
theorem dX5_judge_1 : decode cX5_judge 1 = .ok (.getfield 15, 3) := by decide +kernel
theorem dX5_judge_4 : decode cX5_judge 4 = .ok (.iload_n 1, 1) := by decide +kernel
theorem dX5_judge_5 : decode cX5_judge 5 = .ok (.invokestatic 60, 3) := by decide +kernel
theorem dX5_judge_8 : decode cX5_judge 8 = .ok (.astore_n 3, 1) := by decide +kernel
theorem dX5_judge_9 : decode cX5_judge 9 = .ok (.aload_n 0, 1) := by decide +kernel
theorem dX5_judge_10 : decode cX5_judge 10 = .ok (.iload_n 2, 1) := by decide +kernel
theorem dX5_judge_11 : decode cX5_judge 11 = .ok (.invokevirtual 109, 3) := by decide +kernel
theorem dX5_judge_14 : decode cX5_judge 14 = .ok (.astore 4, 2) := by decide +kernel
theorem dX5_judge_16 : decode cX5_judge 16 = .ok (.aload_n 3, 1) := by decide +kernel
theorem dX5_judge_17 : decode cX5_judge 17 = .ok (.ifnull 8, 3) := by decide +kernel
theorem dX5_judge_20 : decode cX5_judge 20 = .ok (.aload 4, 2) := by decide +kernel
theorem dX5_judge_22 : decode cX5_judge 22 = .ok (.ifnonnull 8, 3) := by decide +kernel
theorem dX5_judge_25 : decode cX5_judge 25 = .ok (.bipush (-2), 2) := by decide +kernel
theorem dX5_judge_27 : decode cX5_judge 27 = .ok (.goto 9, 3) := by decide +kernel
theorem dX5_judge_30 : decode cX5_judge 30 = .ok (.aload_n 3, 1) := by decide +kernel
theorem dX5_judge_31 : decode cX5_judge 31 = .ok (.aload 4, 2) := by decide +kernel
theorem dX5_judge_33 : decode cX5_judge 33 = .ok (.invokestatic 113, 3) := by decide +kernel
theorem dX5_judge_36 : decode cX5_judge 36 = .ok (.ireturn, 1) := by decide +kernel
theorem dX5_verdict_0 : decode cX5_verdict 0 = .ok (.aload_n 0, 1) := by decide +kernel
theorem dX5_verdict_1 : decode cX5_verdict 1 = .ok (.getfield 15, 3) := by decide +kernel
theorem dX5_verdict_4 : decode cX5_verdict 4 = .ok (.iload_n 1, 1) := by decide +kernel
theorem dX5_verdict_5 : decode cX5_verdict 5 = .ok (.invokestatic 60, 3) := by decide +kernel
theorem dX5_verdict_8 : decode cX5_verdict 8 = .ok (.astore_n 2, 1) := by decide +kernel
theorem dX5_verdict_9 : decode cX5_verdict 9 = .ok (.aload_n 2, 1) := by decide +kernel
theorem dX5_verdict_10 : decode cX5_verdict 10 = .ok (.ifnonnull 6, 3) := by decide +kernel
theorem dX5_verdict_13 : decode cX5_verdict 13 = .ok (.bipush (-2), 2) := by decide +kernel
theorem dX5_verdict_15 : decode cX5_verdict 15 = .ok (.ireturn, 1) := by decide +kernel
theorem dX5_verdict_16 : decode cX5_verdict 16 = .ok (.iconst 0, 1) := by decide +kernel
theorem dX5_verdict_17 : decode cX5_verdict 17 = .ok (.istore_n 3, 1) := by decide +kernel
theorem dX5_verdict_18 : decode cX5_verdict 18 = .ok (.iconst 0, 1) := by decide +kernel
theorem dX5_verdict_19 : decode cX5_verdict 19 = .ok (.istore 4, 2) := by decide +kernel
theorem dX5_verdict_21 : decode cX5_verdict 21 = .ok (.iload 4, 2) := by decide +kernel
theorem dX5_verdict_23 : decode cX5_verdict 23 = .ok (.aload_n 0, 1) := by decide +kernel
theorem dX5_verdict_24 : decode cX5_verdict 24 = .ok (.getfield 53, 3) := by decide +kernel
theorem dX5_verdict_27 : decode cX5_verdict 27 = .ok (.if_icmp .ge 24, 3) := by decide +kernel
theorem dX5_verdict_30 : decode cX5_verdict 30 = .ok (.iload_n 3, 1) := by decide +kernel
theorem dX5_verdict_31 : decode cX5_verdict 31 = .ok (.aload_n 2, 1) := by decide +kernel
theorem dX5_verdict_32 : decode cX5_verdict 32 = .ok (.aload_n 0, 1) := by decide +kernel
theorem dX5_verdict_33 : decode cX5_verdict 33 = .ok (.iload 4, 2) := by decide +kernel
theorem dX5_verdict_35 : decode cX5_verdict 35 = .ok (.invokevirtual 109, 3) := by decide +kernel
theorem dX5_verdict_38 : decode cX5_verdict 38 = .ok (.invokestatic 113, 3) := by decide +kernel
theorem dX5_verdict_41 : decode cX5_verdict 41 = .ok (.invokestatic 120, 3) := by decide +kernel
theorem dX5_verdict_44 : decode cX5_verdict 44 = .ok (.istore_n 3, 1) := by decide +kernel
theorem dX5_verdict_45 : decode cX5_verdict 45 = .ok (.iinc 4 1, 3) := by decide +kernel
theorem dX5_verdict_48 : decode cX5_verdict 48 = .ok (.goto (-27), 3) := by decide +kernel
theorem dX5_verdict_51 : decode cX5_verdict 51 = .ok (.iload_n 3, 1) := by decide +kernel
theorem dX5_verdict_52 : decode cX5_verdict 52 = .ok (.ireturn, 1) := by decide +kernel
theorem dX5_both_0 : decode cX5_both 0 = .ok (.aload_n 0, 1) := by decide +kernel
theorem dX5_both_1 : decode cX5_both 1 = .ok (.getfield 15, 3) := by decide +kernel
theorem dX5_both_4 : decode cX5_both 4 = .ok (.iload_n 1, 1) := by decide +kernel
theorem dX5_both_5 : decode cX5_both 5 = .ok (.invokestatic 60, 3) := by decide +kernel
theorem dX5_both_8 : decode cX5_both 8 = .ok (.astore 4, 2) := by decide +kernel
theorem dX5_both_10 : decode cX5_both 10 = .ok (.aload_n 0, 1) := by decide +kernel
theorem dX5_both_11 : decode cX5_both 11 = .ok (.getfield 15, 3) := by decide +kernel
theorem dX5_both_14 : decode cX5_both 14 = .ok (.iload_n 2, 1) := by decide +kernel
theorem dX5_both_15 : decode cX5_both 15 = .ok (.invokestatic 60, 3) := by decide +kernel
theorem dX5_both_18 : decode cX5_both 18 = .ok (.astore 5, 2) := by decide +kernel
theorem dX5_both_20 : decode cX5_both 20 = .ok (.aload_n 0, 1) := by decide +kernel
theorem dX5_both_21 : decode cX5_both 21 = .ok (.getfield 15, 3) := by decide +kernel
theorem dX5_both_24 : decode cX5_both 24 = .ok (.iload_n 3, 1) := by decide +kernel
theorem dX5_both_25 : decode cX5_both 25 = .ok (.invokestatic 60, 3) := by decide +kernel
theorem dX5_both_28 : decode cX5_both 28 = .ok (.astore 6, 2) := by decide +kernel
theorem dX5_both_30 : decode cX5_both 30 = .ok (.aload 4, 2) := by decide +kernel
theorem dX5_both_32 : decode cX5_both 32 = .ok (.ifnull 13, 3) := by decide +kernel
theorem dX5_both_35 : decode cX5_both 35 = .ok (.aload 5, 2) := by decide +kernel
theorem dX5_both_37 : decode cX5_both 37 = .ok (.ifnull 8, 3) := by decide +kernel
theorem dX5_both_40 : decode cX5_both 40 = .ok (.aload 6, 2) := by decide +kernel
theorem dX5_both_42 : decode cX5_both 42 = .ok (.ifnonnull 6, 3) := by decide +kernel
theorem dX5_both_45 : decode cX5_both 45 = .ok (.bipush (-2), 2) := by decide +kernel
theorem dX5_both_47 : decode cX5_both 47 = .ok (.ireturn, 1) := by decide +kernel
theorem dX5_both_48 : decode cX5_both 48 = .ok (.aload 4, 2) := by decide +kernel
theorem dX5_both_50 : decode cX5_both 50 = .ok (.getfield 64, 3) := by decide +kernel
theorem dX5_both_53 : decode cX5_both 53 = .ok (.aload 5, 2) := by decide +kernel
theorem dX5_both_55 : decode cX5_both 55 = .ok (.getfield 64, 3) := by decide +kernel
theorem dX5_both_58 : decode cX5_both 58 = .ok (.if_icmp .eq 6, 3) := by decide +kernel
theorem dX5_both_61 : decode cX5_both 61 = .ok (.bipush (-3), 2) := by decide +kernel
theorem dX5_both_63 : decode cX5_both 63 = .ok (.ireturn, 1) := by decide +kernel
theorem dX5_both_64 : decode cX5_both 64 = .ok (.iconst 0, 1) := by decide +kernel
theorem dX5_both_65 : decode cX5_both 65 = .ok (.istore 7, 2) := by decide +kernel
theorem dX5_both_67 : decode cX5_both 67 = .ok (.aload_n 0, 1) := by decide +kernel
theorem dX5_both_68 : decode cX5_both 68 = .ok (.getfield 49, 3) := by decide +kernel
theorem dX5_both_71 : decode cX5_both 71 = .ok (.invokevirtual 117, 3) := by decide +kernel
theorem dX5_both_74 : decode cX5_both 74 = .ok (.iconst 0, 1) := by decide +kernel
theorem dX5_both_75 : decode cX5_both 75 = .ok (.istore 8, 2) := by decide +kernel
theorem dX5_both_77 : decode cX5_both 77 = .ok (.iload 8, 2) := by decide +kernel
theorem dX5_both_79 : decode cX5_both 79 = .ok (.aload 4, 2) := by decide +kernel
theorem dX5_both_81 : decode cX5_both 81 = .ok (.getfield 64, 3) := by decide +kernel
theorem dX5_both_84 : decode cX5_both 84 = .ok (.if_icmp .ge 58, 3) := by decide +kernel
theorem dX5_both_87 : decode cX5_both 87 = .ok (.aload 4, 2) := by decide +kernel
theorem dX5_both_89 : decode cX5_both 89 = .ok (.iload 8, 2) := by decide +kernel
theorem dX5_both_91 : decode cX5_both 91 = .ok (.invokevirtual 82, 3) := by decide +kernel
theorem dX5_both_94 : decode cX5_both 94 = .ok (.aload 5, 2) := by decide +kernel
theorem dX5_both_96 : decode cX5_both 96 = .ok (.iload 8, 2) := by decide +kernel
theorem dX5_both_98 : decode cX5_both 98 = .ok (.invokevirtual 82, 3) := by decide +kernel
theorem dX5_both_101 : decode cX5_both 101 = .ok (.invokestatic 126, 3) := by decide +kernel
theorem dX5_both_104 : decode cX5_both 104 = .ok (.ifCond .eq 6, 3) := by decide +kernel
theorem dX5_both_107 : decode cX5_both 107 = .ok (.iinc 7 1, 3) := by decide +kernel
theorem dX5_both_110 : decode cX5_both 110 = .ok (.aload_n 0, 1) := by decide +kernel
theorem dX5_both_111 : decode cX5_both 111 = .ok (.getfield 49, 3) := by decide +kernel
theorem dX5_both_114 : decode cX5_both 114 = .ok (.iload 8, 2) := by decide +kernel
theorem dX5_both_116 : decode cX5_both 116 = .ok (.aload 4, 2) := by decide +kernel
theorem dX5_both_118 : decode cX5_both 118 = .ok (.iload 8, 2) := by decide +kernel
theorem dX5_both_120 : decode cX5_both 120 = .ok (.invokevirtual 82, 3) := by decide +kernel
theorem dX5_both_123 : decode cX5_both 123 = .ok (.aload 5, 2) := by decide +kernel
theorem dX5_both_125 : decode cX5_both 125 = .ok (.iload 8, 2) := by decide +kernel
theorem dX5_both_127 : decode cX5_both 127 = .ok (.invokevirtual 82, 3) := by decide +kernel
theorem dX5_both_130 : decode cX5_both 130 = .ok (.invokestatic 130, 3) := by decide +kernel
theorem dX5_both_133 : decode cX5_both 133 = .ok (.invokevirtual 75, 3) := by decide +kernel
theorem dX5_both_136 : decode cX5_both 136 = .ok (.iinc 8 1, 3) := by decide +kernel
theorem dX5_both_139 : decode cX5_both 139 = .ok (.goto (-62), 3) := by decide +kernel
theorem dX5_both_142 : decode cX5_both 142 = .ok (.aload 6, 2) := by decide +kernel
theorem dX5_both_144 : decode cX5_both 144 = .ok (.aload_n 0, 1) := by decide +kernel
theorem dX5_both_145 : decode cX5_both 145 = .ok (.getfield 49, 3) := by decide +kernel
theorem dX5_both_148 : decode cX5_both 148 = .ok (.invokevirtual 90, 3) := by decide +kernel
theorem dX5_both_151 : decode cX5_both 151 = .ok (.iload 7, 2) := by decide +kernel
theorem dX5_both_153 : decode cX5_both 153 = .ok (.ireturn, 1) := by decide +kernel
theorem dX5_may_0 : decode cX5_may 0 = .ok (.aload_n 0, 1) := by decide +kernel
theorem dX5_may_1 : decode cX5_may 1 = .ok (.getfield 15, 3) := by decide +kernel
theorem dX5_may_4 : decode cX5_may 4 = .ok (.iload_n 1, 1) := by decide +kernel
theorem dX5_may_5 : decode cX5_may 5 = .ok (.invokestatic 60, 3) := by decide +kernel
theorem dX5_may_8 : decode cX5_may 8 = .ok (.astore_n 3, 1) := by decide +kernel
theorem dX5_may_9 : decode cX5_may 9 = .ok (.aload_n 0, 1) := by decide +kernel
theorem dX5_may_10 : decode cX5_may 10 = .ok (.getfield 11, 3) := by decide +kernel
theorem dX5_may_13 : decode cX5_may 13 = .ok (.iload_n 2, 1) := by decide +kernel
theorem dX5_may_14 : decode cX5_may 14 = .ok (.invokestatic 60, 3) := by decide +kernel
theorem dX5_may_17 : decode cX5_may 17 = .ok (.astore 4, 2) := by decide +kernel
theorem dX5_may_19 : decode cX5_may 19 = .ok (.aload_n 3, 1) := by decide +kernel
theorem dX5_may_20 : decode cX5_may 20 = .ok (.ifnull 8, 3) := by decide +kernel
theorem dX5_may_23 : decode cX5_may 23 = .ok (.aload 4, 2) := by decide +kernel
theorem dX5_may_25 : decode cX5_may 25 = .ok (.ifnonnull 6, 3) := by decide +kernel
theorem dX5_may_28 : decode cX5_may 28 = .ok (.bipush (-2), 2) := by decide +kernel
theorem dX5_may_30 : decode cX5_may 30 = .ok (.ireturn, 1) := by decide +kernel
theorem dX5_may_31 : decode cX5_may 31 = .ok (.aload_n 3, 1) := by decide +kernel
theorem dX5_may_32 : decode cX5_may 32 = .ok (.aload 4, 2) := by decide +kernel
theorem dX5_may_34 : decode cX5_may 34 = .ok (.invokestatic 133, 3) := by decide +kernel
theorem dX5_may_37 : decode cX5_may 37 = .ok (.lstore 5, 2) := by decide +kernel
theorem dX5_may_39 : decode cX5_may 39 = .ok (.lload 5, 2) := by decide +kernel
theorem dX5_may_41 : decode cX5_may 41 = .ok (.aload 4, 2) := by decide +kernel
theorem dX5_may_43 : decode cX5_may 43 = .ok (.getfield 64, 3) := by decide +kernel
theorem dX5_may_46 : decode cX5_may 46 = .ok (.invokestatic 137, 3) := by decide +kernel
theorem dX5_may_49 : decode cX5_may 49 = .ok (.ifCond .eq 7, 3) := by decide +kernel
theorem dX5_may_52 : decode cX5_may 52 = .ok (.iconst 1, 1) := by decide +kernel
theorem dX5_may_53 : decode cX5_may 53 = .ok (.goto 4, 3) := by decide +kernel
theorem dX5_may_56 : decode cX5_may 56 = .ok (.iconst 0, 1) := by decide +kernel
theorem dX5_may_57 : decode cX5_may 57 = .ok (.ireturn, 1) := by decide +kernel
theorem dX5_mark_0 : decode cX5_mark 0 = .ok (.iload_n 1, 1) := by decide +kernel
theorem dX5_mark_1 : decode cX5_mark 1 = .ok (.invokestatic 67, 3) := by decide +kernel
theorem dX5_mark_4 : decode cX5_mark 4 = .ok (.ifCond .eq 10, 3) := by decide +kernel
theorem dX5_mark_7 : decode cX5_mark 7 = .ok (.iload_n 2, 1) := by decide +kernel
theorem dX5_mark_8 : decode cX5_mark 8 = .ok (.invokestatic 141, 3) := by decide +kernel
theorem dX5_mark_11 : decode cX5_mark 11 = .ok (.ifCond .ne 6, 3) := by decide +kernel
theorem dX5_mark_14 : decode cX5_mark 14 = .ok (.bipush (-2), 2) := by decide +kernel
theorem dX5_mark_16 : decode cX5_mark 16 = .ok (.ireturn, 1) := by decide +kernel
theorem dX5_mark_17 : decode cX5_mark 17 = .ok (.aload_n 0, 1) := by decide +kernel
theorem dX5_mark_18 : decode cX5_mark 18 = .ok (.getfield 30, 3) := by decide +kernel
theorem dX5_mark_21 : decode cX5_mark 21 = .ok (.iload_n 1, 1) := by decide +kernel
theorem dX5_mark_22 : decode cX5_mark 22 = .ok (.iaload, 1) := by decide +kernel
theorem dX5_mark_23 : decode cX5_mark 23 = .ok (.istore_n 3, 1) := by decide +kernel
theorem dX5_mark_24 : decode cX5_mark 24 = .ok (.aload_n 0, 1) := by decide +kernel
theorem dX5_mark_25 : decode cX5_mark 25 = .ok (.getfield 30, 3) := by decide +kernel
theorem dX5_mark_28 : decode cX5_mark 28 = .ok (.iload_n 1, 1) := by decide +kernel
theorem dX5_mark_29 : decode cX5_mark 29 = .ok (.iload_n 2, 1) := by decide +kernel
theorem dX5_mark_30 : decode cX5_mark 30 = .ok (.iastore, 1) := by decide +kernel
theorem dX5_mark_31 : decode cX5_mark 31 = .ok (.iload_n 3, 1) := by decide +kernel
theorem dX5_mark_32 : decode cX5_mark 32 = .ok (.ireturn, 1) := by decide +kernel
theorem dX5_rule_0 : decode cX5_rule 0 = .ok (.iload_n 1, 1) := by decide +kernel
theorem dX5_rule_1 : decode cX5_rule 1 = .ok (.invokestatic 144, 3) := by decide +kernel
theorem dX5_rule_4 : decode cX5_rule 4 = .ok (.ifCond .eq 31, 3) := by decide +kernel
theorem dX5_rule_7 : decode cX5_rule 7 = .ok (.iload_n 2, 1) := by decide +kernel
theorem dX5_rule_8 : decode cX5_rule 8 = .ok (.invokestatic 141, 3) := by decide +kernel
theorem dX5_rule_11 : decode cX5_rule 11 = .ok (.ifCond .eq 24, 3) := by decide +kernel
theorem dX5_rule_14 : decode cX5_rule 14 = .ok (.iload_n 3, 1) := by decide +kernel
theorem dX5_rule_15 : decode cX5_rule 15 = .ok (.invokestatic 147, 3) := by decide +kernel
theorem dX5_rule_18 : decode cX5_rule 18 = .ok (.ifCond .eq 17, 3) := by decide +kernel
theorem dX5_rule_21 : decode cX5_rule 21 = .ok (.iload 4, 2) := by decide +kernel
theorem dX5_rule_23 : decode cX5_rule 23 = .ok (.invokestatic 147, 3) := by decide +kernel
theorem dX5_rule_26 : decode cX5_rule 26 = .ok (.ifCond .eq 9, 3) := by decide +kernel
theorem dX5_rule_29 : decode cX5_rule 29 = .ok (.iload_n 3, 1) := by decide +kernel
theorem dX5_rule_30 : decode cX5_rule 30 = .ok (.iload 4, 2) := by decide +kernel
theorem dX5_rule_32 : decode cX5_rule 32 = .ok (.if_icmp .le 6, 3) := by decide +kernel
theorem dX5_rule_35 : decode cX5_rule 35 = .ok (.bipush (-2), 2) := by decide +kernel
theorem dX5_rule_37 : decode cX5_rule 37 = .ok (.ireturn, 1) := by decide +kernel
theorem dX5_rule_38 : decode cX5_rule 38 = .ok (.aload_n 0, 1) := by decide +kernel
theorem dX5_rule_39 : decode cX5_rule 39 = .ok (.getfield 57, 3) := by decide +kernel
theorem dX5_rule_42 : decode cX5_rule 42 = .ok (.bipush 20, 2) := by decide +kernel
theorem dX5_rule_44 : decode cX5_rule 44 = .ok (.if_icmp .lt 6, 3) := by decide +kernel
theorem dX5_rule_47 : decode cX5_rule 47 = .ok (.bipush (-4), 2) := by decide +kernel
theorem dX5_rule_49 : decode cX5_rule 49 = .ok (.ireturn, 1) := by decide +kernel
theorem dX5_rule_50 : decode cX5_rule 50 = .ok (.aload_n 0, 1) := by decide +kernel
theorem dX5_rule_51 : decode cX5_rule 51 = .ok (.getfield 26, 3) := by decide +kernel
theorem dX5_rule_54 : decode cX5_rule 54 = .ok (.aload_n 0, 1) := by decide +kernel
theorem dX5_rule_55 : decode cX5_rule 55 = .ok (.getfield 57, 3) := by decide +kernel
theorem dX5_rule_58 : decode cX5_rule 58 = .ok (.new 24, 3) := by decide +kernel
theorem dX5_rule_61 : decode cX5_rule 61 = .ok (.dup, 1) := by decide +kernel
theorem dX5_rule_62 : decode cX5_rule 62 = .ok (.iload_n 1, 1) := by decide +kernel
theorem dX5_rule_63 : decode cX5_rule 63 = .ok (.iload_n 2, 1) := by decide +kernel
theorem dX5_rule_64 : decode cX5_rule 64 = .ok (.iload_n 3, 1) := by decide +kernel
theorem dX5_rule_65 : decode cX5_rule 65 = .ok (.iload 4, 2) := by decide +kernel
theorem dX5_rule_67 : decode cX5_rule 67 = .ok (.invokespecial 150, 3) := by decide +kernel
theorem dX5_rule_70 : decode cX5_rule 70 = .ok (.aastore, 1) := by decide +kernel
theorem dX5_rule_71 : decode cX5_rule 71 = .ok (.aload_n 0, 1) := by decide +kernel
theorem dX5_rule_72 : decode cX5_rule 72 = .ok (.dup, 1) := by decide +kernel
theorem dX5_rule_73 : decode cX5_rule 73 = .ok (.getfield 57, 3) := by decide +kernel
theorem dX5_rule_76 : decode cX5_rule 76 = .ok (.iconst 1, 1) := by decide +kernel
theorem dX5_rule_77 : decode cX5_rule 77 = .ok (.iadd, 1) := by decide +kernel
theorem dX5_rule_78 : decode cX5_rule 78 = .ok (.putfield 57, 3) := by decide +kernel
theorem dX5_rule_81 : decode cX5_rule 81 = .ok (.aload_n 0, 1) := by decide +kernel
theorem dX5_rule_82 : decode cX5_rule 82 = .ok (.getfield 57, 3) := by decide +kernel
theorem dX5_rule_85 : decode cX5_rule 85 = .ok (.iconst 1, 1) := by decide +kernel
theorem dX5_rule_86 : decode cX5_rule 86 = .ok (.isub, 1) := by decide +kernel
theorem dX5_rule_87 : decode cX5_rule 87 = .ok (.ireturn, 1) := by decide +kernel
theorem dX5_cut_0 : decode cX5_cut 0 = .ok (.aload_n 0, 1) := by decide +kernel
theorem dX5_cut_1 : decode cX5_cut 1 = .ok (.getfield 11, 3) := by decide +kernel
theorem dX5_cut_4 : decode cX5_cut 4 = .ok (.iload_n 1, 1) := by decide +kernel
theorem dX5_cut_5 : decode cX5_cut 5 = .ok (.invokestatic 60, 3) := by decide +kernel
theorem dX5_cut_8 : decode cX5_cut 8 = .ok (.astore 4, 2) := by decide +kernel
theorem dX5_cut_10 : decode cX5_cut 10 = .ok (.aload 4, 2) := by decide +kernel
theorem dX5_cut_12 : decode cX5_cut 12 = .ok (.ifnull 17, 3) := by decide +kernel
theorem dX5_cut_15 : decode cX5_cut 15 = .ok (.iload_n 2, 1) := by decide +kernel
theorem dX5_cut_16 : decode cX5_cut 16 = .ok (.invokestatic 144, 3) := by decide +kernel
theorem dX5_cut_19 : decode cX5_cut 19 = .ok (.ifCond .eq 10, 3) := by decide +kernel
theorem dX5_cut_22 : decode cX5_cut 22 = .ok (.iload_n 3, 1) := by decide +kernel
theorem dX5_cut_23 : decode cX5_cut 23 = .ok (.invokestatic 147, 3) := by decide +kernel
theorem dX5_cut_26 : decode cX5_cut 26 = .ok (.ifCond .ne 6, 3) := by decide +kernel
theorem dX5_cut_29 : decode cX5_cut 29 = .ok (.bipush (-2), 2) := by decide +kernel
theorem dX5_cut_31 : decode cX5_cut 31 = .ok (.ireturn, 1) := by decide +kernel
theorem dX5_cut_32 : decode cX5_cut 32 = .ok (.aload_n 0, 1) := by decide +kernel
theorem dX5_cut_33 : decode cX5_cut 33 = .ok (.aload 4, 2) := by decide +kernel
theorem dX5_cut_35 : decode cX5_cut 35 = .ok (.aload_n 0, 1) := by decide +kernel
theorem dX5_cut_36 : decode cX5_cut 36 = .ok (.iload_n 2, 1) := by decide +kernel
theorem dX5_cut_37 : decode cX5_cut 37 = .ok (.iload_n 3, 1) := by decide +kernel
theorem dX5_cut_38 : decode cX5_cut 38 = .ok (.invokevirtual 153, 3) := by decide +kernel
theorem dX5_cut_41 : decode cX5_cut 41 = .ok (.invokevirtual 156, 3) := by decide +kernel
theorem dX5_cut_44 : decode cX5_cut 44 = .ok (.ireturn, 1) := by decide +kernel
theorem dX5_fit_0 : decode cX5_fit 0 = .ok (.aload_n 0, 1) := by decide +kernel
theorem dX5_fit_1 : decode cX5_fit 1 = .ok (.getfield 11, 3) := by decide +kernel
theorem dX5_fit_4 : decode cX5_fit 4 = .ok (.iload_n 1, 1) := by decide +kernel
theorem dX5_fit_5 : decode cX5_fit 5 = .ok (.invokestatic 60, 3) := by decide +kernel
theorem dX5_fit_8 : decode cX5_fit 8 = .ok (.astore 5, 2) := by decide +kernel
theorem dX5_fit_10 : decode cX5_fit 10 = .ok (.aload_n 0, 1) := by decide +kernel
theorem dX5_fit_11 : decode cX5_fit 11 = .ok (.getfield 11, 3) := by decide +kernel
theorem dX5_fit_14 : decode cX5_fit 14 = .ok (.iload 4, 2) := by decide +kernel
theorem dX5_fit_16 : decode cX5_fit 16 = .ok (.invokestatic 60, 3) := by decide +kernel
theorem dX5_fit_19 : decode cX5_fit 19 = .ok (.astore 6, 2) := by decide +kernel
theorem dX5_fit_21 : decode cX5_fit 21 = .ok (.aload 5, 2) := by decide +kernel
theorem dX5_fit_23 : decode cX5_fit 23 = .ok (.ifnull 22, 3) := by decide +kernel
theorem dX5_fit_26 : decode cX5_fit 26 = .ok (.aload 6, 2) := by decide +kernel
theorem dX5_fit_28 : decode cX5_fit 28 = .ok (.ifnull 17, 3) := by decide +kernel
theorem dX5_fit_31 : decode cX5_fit 31 = .ok (.iload_n 2, 1) := by decide +kernel
theorem dX5_fit_32 : decode cX5_fit 32 = .ok (.invokestatic 144, 3) := by decide +kernel
theorem dX5_fit_35 : decode cX5_fit 35 = .ok (.ifCond .eq 10, 3) := by decide +kernel
theorem dX5_fit_38 : decode cX5_fit 38 = .ok (.iload_n 3, 1) := by decide +kernel
theorem dX5_fit_39 : decode cX5_fit 39 = .ok (.invokestatic 147, 3) := by decide +kernel
theorem dX5_fit_42 : decode cX5_fit 42 = .ok (.ifCond .ne 6, 3) := by decide +kernel
theorem dX5_fit_45 : decode cX5_fit 45 = .ok (.bipush (-2), 2) := by decide +kernel
theorem dX5_fit_47 : decode cX5_fit 47 = .ok (.ireturn, 1) := by decide +kernel
theorem dX5_fit_48 : decode cX5_fit 48 = .ok (.aload_n 0, 1) := by decide +kernel
theorem dX5_fit_49 : decode cX5_fit 49 = .ok (.iload_n 2, 1) := by decide +kernel
theorem dX5_fit_50 : decode cX5_fit 50 = .ok (.iload_n 3, 1) := by decide +kernel
theorem dX5_fit_51 : decode cX5_fit 51 = .ok (.invokevirtual 153, 3) := by decide +kernel
theorem dX5_fit_54 : decode cX5_fit 54 = .ok (.istore 7, 2) := by decide +kernel
theorem dX5_fit_56 : decode cX5_fit 56 = .ok (.aload 6, 2) := by decide +kernel
theorem dX5_fit_58 : decode cX5_fit 58 = .ok (.aload 5, 2) := by decide +kernel
theorem dX5_fit_60 : decode cX5_fit 60 = .ok (.invokevirtual 90, 3) := by decide +kernel
theorem dX5_fit_63 : decode cX5_fit 63 = .ok (.aload 6, 2) := by decide +kernel
theorem dX5_fit_65 : decode cX5_fit 65 = .ok (.getfield 64, 3) := by decide +kernel
theorem dX5_fit_68 : decode cX5_fit 68 = .ok (.iconst 1, 1) := by decide +kernel
theorem dX5_fit_69 : decode cX5_fit 69 = .ok (.isub, 1) := by decide +kernel
theorem dX5_fit_70 : decode cX5_fit 70 = .ok (.istore 8, 2) := by decide +kernel
theorem dX5_fit_72 : decode cX5_fit 72 = .ok (.iload 8, 2) := by decide +kernel
theorem dX5_fit_74 : decode cX5_fit 74 = .ok (.ifCond .lt 33, 3) := by decide +kernel
theorem dX5_fit_77 : decode cX5_fit 77 = .ok (.aload_n 0, 1) := by decide +kernel
theorem dX5_fit_78 : decode cX5_fit 78 = .ok (.aload 6, 2) := by decide +kernel
theorem dX5_fit_80 : decode cX5_fit 80 = .ok (.iload 8, 2) := by decide +kernel
theorem dX5_fit_82 : decode cX5_fit 82 = .ok (.invokevirtual 82, 3) := by decide +kernel
theorem dX5_fit_85 : decode cX5_fit 85 = .ok (.invokevirtual 160, 3) := by decide +kernel
theorem dX5_fit_88 : decode cX5_fit 88 = .ok (.iload 7, 2) := by decide +kernel
theorem dX5_fit_90 : decode cX5_fit 90 = .ok (.iand, 1) := by decide +kernel
theorem dX5_fit_91 : decode cX5_fit 91 = .ok (.ifCond .eq 10, 3) := by decide +kernel
theorem dX5_fit_94 : decode cX5_fit 94 = .ok (.aload 6, 2) := by decide +kernel
theorem dX5_fit_96 : decode cX5_fit 96 = .ok (.iload 8, 2) := by decide +kernel
theorem dX5_fit_98 : decode cX5_fit 98 = .ok (.invokevirtual 86, 3) := by decide +kernel
theorem dX5_fit_101 : decode cX5_fit 101 = .ok (.iinc 8 (-1), 3) := by decide +kernel
theorem dX5_fit_104 : decode cX5_fit 104 = .ok (.goto (-32), 3) := by decide +kernel
theorem dX5_fit_107 : decode cX5_fit 107 = .ok (.aload 6, 2) := by decide +kernel
theorem dX5_fit_109 : decode cX5_fit 109 = .ok (.getfield 64, 3) := by decide +kernel
theorem dX5_fit_112 : decode cX5_fit 112 = .ok (.ireturn, 1) := by decide +kernel
theorem dX5_tour_0 : decode cX5_tour 0 = .ok (.aload_n 0, 1) := by decide +kernel
theorem dX5_tour_1 : decode cX5_tour 1 = .ok (.getfield 11, 3) := by decide +kernel
theorem dX5_tour_4 : decode cX5_tour 4 = .ok (.iload_n 1, 1) := by decide +kernel
theorem dX5_tour_5 : decode cX5_tour 5 = .ok (.invokestatic 60, 3) := by decide +kernel
theorem dX5_tour_8 : decode cX5_tour 8 = .ok (.astore 5, 2) := by decide +kernel
theorem dX5_tour_10 : decode cX5_tour 10 = .ok (.aload 5, 2) := by decide +kernel
theorem dX5_tour_12 : decode cX5_tour 12 = .ok (.ifnull 34, 3) := by decide +kernel
theorem dX5_tour_15 : decode cX5_tour 15 = .ok (.iload_n 2, 1) := by decide +kernel
theorem dX5_tour_16 : decode cX5_tour 16 = .ok (.iconst 1, 1) := by decide +kernel
theorem dX5_tour_17 : decode cX5_tour 17 = .ok (.if_icmp .lt 29, 3) := by decide +kernel
theorem dX5_tour_20 : decode cX5_tour 20 = .ok (.iload_n 2, 1) := by decide +kernel
theorem dX5_tour_21 : decode cX5_tour 21 = .ok (.sipush 255, 3) := by decide +kernel
theorem dX5_tour_24 : decode cX5_tour 24 = .ok (.if_icmp .gt 22, 3) := by decide +kernel
theorem dX5_tour_27 : decode cX5_tour 27 = .ok (.iload_n 3, 1) := by decide +kernel
theorem dX5_tour_28 : decode cX5_tour 28 = .ok (.invokestatic 147, 3) := by decide +kernel
theorem dX5_tour_31 : decode cX5_tour 31 = .ok (.ifCond .eq 15, 3) := by decide +kernel
theorem dX5_tour_34 : decode cX5_tour 34 = .ok (.iload 4, 2) := by decide +kernel
theorem dX5_tour_36 : decode cX5_tour 36 = .ok (.ifCond .lt 10, 3) := by decide +kernel
theorem dX5_tour_39 : decode cX5_tour 39 = .ok (.iload 4, 2) := by decide +kernel
theorem dX5_tour_41 : decode cX5_tour 41 = .ok (.bipush 20, 2) := by decide +kernel
theorem dX5_tour_43 : decode cX5_tour 43 = .ok (.if_icmp .le 6, 3) := by decide +kernel
theorem dX5_tour_46 : decode cX5_tour 46 = .ok (.bipush (-2), 2) := by decide +kernel
theorem dX5_tour_48 : decode cX5_tour 48 = .ok (.ireturn, 1) := by decide +kernel
theorem dX5_tour_49 : decode cX5_tour 49 = .ok (.iload_n 2, 1) := by decide +kernel
theorem dX5_tour_50 : decode cX5_tour 50 = .ok (.invokestatic 163, 3) := by decide +kernel
theorem dX5_tour_53 : decode cX5_tour 53 = .ok (.istore 6, 2) := by decide +kernel
theorem dX5_tour_55 : decode cX5_tour 55 = .ok (.iload_n 3, 1) := by decide +kernel
theorem dX5_tour_56 : decode cX5_tour 56 = .ok (.iload 6, 2) := by decide +kernel
theorem dX5_tour_58 : decode cX5_tour 58 = .ok (.iconst 1, 1) := by decide +kernel
theorem dX5_tour_59 : decode cX5_tour 59 = .ok (.isub, 1) := by decide +kernel
theorem dX5_tour_60 : decode cX5_tour 60 = .ok (.iload 4, 2) := by decide +kernel
theorem dX5_tour_62 : decode cX5_tour 62 = .ok (.iconst 1, 1) := by decide +kernel
theorem dX5_tour_63 : decode cX5_tour 63 = .ok (.iadd, 1) := by decide +kernel
theorem dX5_tour_64 : decode cX5_tour 64 = .ok (.imul, 1) := by decide +kernel
theorem dX5_tour_65 : decode cX5_tour 65 = .ok (.iadd, 1) := by decide +kernel
theorem dX5_tour_66 : decode cX5_tour 66 = .ok (.sipush 999, 3) := by decide +kernel
theorem dX5_tour_69 : decode cX5_tour 69 = .ok (.if_icmp .le 6, 3) := by decide +kernel
theorem dX5_tour_72 : decode cX5_tour 72 = .ok (.bipush (-3), 2) := by decide +kernel
theorem dX5_tour_74 : decode cX5_tour 74 = .ok (.ireturn, 1) := by decide +kernel
theorem dX5_tour_75 : decode cX5_tour 75 = .ok (.iconst 0, 1) := by decide +kernel
theorem dX5_tour_76 : decode cX5_tour 76 = .ok (.istore 7, 2) := by decide +kernel
theorem dX5_tour_78 : decode cX5_tour 78 = .ok (.iload 7, 2) := by decide +kernel
theorem dX5_tour_80 : decode cX5_tour 80 = .ok (.bipush 8, 2) := by decide +kernel
theorem dX5_tour_82 : decode cX5_tour 82 = .ok (.if_icmp .ge 61, 3) := by decide +kernel
theorem dX5_tour_85 : decode cX5_tour 85 = .ok (.iconst 0, 1) := by decide +kernel
theorem dX5_tour_86 : decode cX5_tour 86 = .ok (.istore 8, 2) := by decide +kernel
theorem dX5_tour_88 : decode cX5_tour 88 = .ok (.iload 8, 2) := by decide +kernel
theorem dX5_tour_90 : decode cX5_tour 90 = .ok (.iload 6, 2) := by decide +kernel
theorem dX5_tour_92 : decode cX5_tour 92 = .ok (.if_icmp .ge 45, 3) := by decide +kernel
theorem dX5_tour_95 : decode cX5_tour 95 = .ok (.aload_n 0, 1) := by decide +kernel
theorem dX5_tour_96 : decode cX5_tour 96 = .ok (.aload 5, 2) := by decide +kernel
theorem dX5_tour_98 : decode cX5_tour 98 = .ok (.aload_n 0, 1) := by decide +kernel
theorem dX5_tour_99 : decode cX5_tour 99 = .ok (.iload 7, 2) := by decide +kernel
theorem dX5_tour_101 : decode cX5_tour 101 = .ok (.iload_n 3, 1) := by decide +kernel
theorem dX5_tour_102 : decode cX5_tour 102 = .ok (.iload 8, 2) := by decide +kernel
theorem dX5_tour_104 : decode cX5_tour 104 = .ok (.iload 4, 2) := by decide +kernel
theorem dX5_tour_106 : decode cX5_tour 106 = .ok (.iconst 1, 1) := by decide +kernel
theorem dX5_tour_107 : decode cX5_tour 107 = .ok (.iadd, 1) := by decide +kernel
theorem dX5_tour_108 : decode cX5_tour 108 = .ok (.imul, 1) := by decide +kernel
theorem dX5_tour_109 : decode cX5_tour 109 = .ok (.iadd, 1) := by decide +kernel
theorem dX5_tour_110 : decode cX5_tour 110 = .ok (.invokevirtual 153, 3) := by decide +kernel
theorem dX5_tour_113 : decode cX5_tour 113 = .ok (.invokevirtual 156, 3) := by decide +kernel
theorem dX5_tour_116 : decode cX5_tour 116 = .ok (.istore 9, 2) := by decide +kernel
theorem dX5_tour_118 : decode cX5_tour 118 = .ok (.aload_n 0, 1) := by decide +kernel
theorem dX5_tour_119 : decode cX5_tour 119 = .ok (.getfield 44, 3) := by decide +kernel
theorem dX5_tour_122 : decode cX5_tour 122 = .ok (.iload 7, 2) := by decide +kernel
theorem dX5_tour_124 : decode cX5_tour 124 = .ok (.iload 8, 2) := by decide +kernel
theorem dX5_tour_126 : decode cX5_tour 126 = .ok (.iload 9, 2) := by decide +kernel
theorem dX5_tour_128 : decode cX5_tour 128 = .ok (.invokevirtual 168, 3) := by decide +kernel
theorem dX5_tour_131 : decode cX5_tour 131 = .ok (.iinc 8 1, 3) := by decide +kernel
theorem dX5_tour_134 : decode cX5_tour 134 = .ok (.goto (-46), 3) := by decide +kernel
theorem dX5_tour_137 : decode cX5_tour 137 = .ok (.iinc 7 1, 3) := by decide +kernel
theorem dX5_tour_140 : decode cX5_tour 140 = .ok (.goto (-62), 3) := by decide +kernel
theorem dX5_tour_143 : decode cX5_tour 143 = .ok (.aload_n 0, 1) := by decide +kernel
theorem dX5_tour_144 : decode cX5_tour 144 = .ok (.getfield 44, 3) := by decide +kernel
theorem dX5_tour_147 : decode cX5_tour 147 = .ok (.iload_n 2, 1) := by decide +kernel
theorem dX5_tour_148 : decode cX5_tour 148 = .ok (.invokevirtual 171, 3) := by decide +kernel
theorem dX5_tour_151 : decode cX5_tour 151 = .ok (.ireturn, 1) := by decide +kernel
theorem dX5_town_0 : decode cX5_town 0 = .ok (.aload_n 0, 1) := by decide +kernel
theorem dX5_town_1 : decode cX5_town 1 = .ok (.getfield 44, 3) := by decide +kernel
theorem dX5_town_4 : decode cX5_town 4 = .ok (.getfield 174, 3) := by decide +kernel
theorem dX5_town_7 : decode cX5_town 7 = .ok (.iload_n 1, 1) := by decide +kernel
theorem dX5_town_8 : decode cX5_town 8 = .ok (.invokevirtual 82, 3) := by decide +kernel
theorem dX5_town_11 : decode cX5_town 11 = .ok (.ireturn, 1) := by decide +kernel
theorem dX5_free_0 : decode cX5_free 0 = .ok (.aload_n 0, 1) := by decide +kernel
theorem dX5_free_1 : decode cX5_free 1 = .ok (.getfield 11, 3) := by decide +kernel
theorem dX5_free_4 : decode cX5_free 4 = .ok (.iload_n 1, 1) := by decide +kernel
theorem dX5_free_5 : decode cX5_free 5 = .ok (.invokestatic 60, 3) := by decide +kernel
theorem dX5_free_8 : decode cX5_free 8 = .ok (.astore 4, 2) := by decide +kernel
theorem dX5_free_10 : decode cX5_free 10 = .ok (.aload 4, 2) := by decide +kernel
theorem dX5_free_12 : decode cX5_free 12 = .ok (.ifnull 17, 3) := by decide +kernel
theorem dX5_free_15 : decode cX5_free 15 = .ok (.iload_n 2, 1) := by decide +kernel
theorem dX5_free_16 : decode cX5_free 16 = .ok (.invokestatic 144, 3) := by decide +kernel
theorem dX5_free_19 : decode cX5_free 19 = .ok (.ifCond .eq 10, 3) := by decide +kernel
theorem dX5_free_22 : decode cX5_free 22 = .ok (.iload_n 3, 1) := by decide +kernel
theorem dX5_free_23 : decode cX5_free 23 = .ok (.invokestatic 147, 3) := by decide +kernel
theorem dX5_free_26 : decode cX5_free 26 = .ok (.ifCond .ne 6, 3) := by decide +kernel
theorem dX5_free_29 : decode cX5_free 29 = .ok (.bipush (-2), 2) := by decide +kernel
theorem dX5_free_31 : decode cX5_free 31 = .ok (.ireturn, 1) := by decide +kernel
theorem dX5_free_32 : decode cX5_free 32 = .ok (.aload_n 0, 1) := by decide +kernel
theorem dX5_free_33 : decode cX5_free 33 = .ok (.aload 4, 2) := by decide +kernel
theorem dX5_free_35 : decode cX5_free 35 = .ok (.invokevirtual 177, 3) := by decide +kernel
theorem dX5_free_38 : decode cX5_free 38 = .ok (.istore 5, 2) := by decide +kernel
theorem dX5_free_40 : decode cX5_free 40 = .ok (.iload_n 3, 1) := by decide +kernel
theorem dX5_free_41 : decode cX5_free 41 = .ok (.istore 6, 2) := by decide +kernel
theorem dX5_free_43 : decode cX5_free 43 = .ok (.iconst 0, 1) := by decide +kernel
theorem dX5_free_44 : decode cX5_free 44 = .ok (.istore 7, 2) := by decide +kernel
theorem dX5_free_46 : decode cX5_free 46 = .ok (.iload 7, 2) := by decide +kernel
theorem dX5_free_48 : decode cX5_free 48 = .ok (.aload_n 0, 1) := by decide +kernel
theorem dX5_free_49 : decode cX5_free 49 = .ok (.getfield 57, 3) := by decide +kernel
theorem dX5_free_52 : decode cX5_free 52 = .ok (.if_icmp .gt 43, 3) := by decide +kernel
theorem dX5_free_55 : decode cX5_free 55 = .ok (.iload 6, 2) := by decide +kernel
theorem dX5_free_57 : decode cX5_free 57 = .ok (.sipush 999, 3) := by decide +kernel
theorem dX5_free_60 : decode cX5_free 60 = .ok (.if_icmp .gt 35, 3) := by decide +kernel
theorem dX5_free_63 : decode cX5_free 63 = .ok (.aload_n 0, 1) := by decide +kernel
theorem dX5_free_64 : decode cX5_free 64 = .ok (.iload 5, 2) := by decide +kernel
theorem dX5_free_66 : decode cX5_free 66 = .ok (.iload_n 2, 1) := by decide +kernel
theorem dX5_free_67 : decode cX5_free 67 = .ok (.iload 6, 2) := by decide +kernel
theorem dX5_free_69 : decode cX5_free 69 = .ok (.invokevirtual 181, 3) := by decide +kernel
theorem dX5_free_72 : decode cX5_free 72 = .ok (.istore 8, 2) := by decide +kernel
theorem dX5_free_74 : decode cX5_free 74 = .ok (.iload 8, 2) := by decide +kernel
theorem dX5_free_76 : decode cX5_free 76 = .ok (.iconst (-1), 1) := by decide +kernel
theorem dX5_free_77 : decode cX5_free 77 = .ok (.if_icmp .ne 6, 3) := by decide +kernel
theorem dX5_free_80 : decode cX5_free 80 = .ok (.iload 6, 2) := by decide +kernel
theorem dX5_free_82 : decode cX5_free 82 = .ok (.ireturn, 1) := by decide +kernel
theorem dX5_free_83 : decode cX5_free 83 = .ok (.iload 8, 2) := by decide +kernel
theorem dX5_free_85 : decode cX5_free 85 = .ok (.iconst 1, 1) := by decide +kernel
theorem dX5_free_86 : decode cX5_free 86 = .ok (.iadd, 1) := by decide +kernel
theorem dX5_free_87 : decode cX5_free 87 = .ok (.istore 6, 2) := by decide +kernel
theorem dX5_free_89 : decode cX5_free 89 = .ok (.iinc 7 1, 3) := by decide +kernel
theorem dX5_free_92 : decode cX5_free 92 = .ok (.goto (-46), 3) := by decide +kernel
theorem dX5_free_95 : decode cX5_free 95 = .ok (.iconst (-1), 1) := by decide +kernel
theorem dX5_free_96 : decode cX5_free 96 = .ok (.ireturn, 1) := by decide +kernel
theorem dX5_count_0 : decode cX5_count 0 = .ok (.iload_n 1, 1) := by decide +kernel
theorem dX5_count_1 : decode cX5_count 1 = .ok (.tableswitch 66 0 4 #[35, 43, 48, 56, 61], 35) := by decide +kernel
theorem dX5_count_36 : decode cX5_count 36 = .ok (.aload_n 0, 1) := by decide +kernel
theorem dX5_count_37 : decode cX5_count 37 = .ok (.getfield 11, 3) := by decide +kernel
theorem dX5_count_40 : decode cX5_count 40 = .ok (.invokestatic 185, 3) := by decide +kernel
theorem dX5_count_43 : decode cX5_count 43 = .ok (.ireturn, 1) := by decide +kernel
theorem dX5_count_44 : decode cX5_count 44 = .ok (.aload_n 0, 1) := by decide +kernel
theorem dX5_count_45 : decode cX5_count 45 = .ok (.getfield 53, 3) := by decide +kernel
theorem dX5_count_48 : decode cX5_count 48 = .ok (.ireturn, 1) := by decide +kernel
theorem dX5_count_49 : decode cX5_count 49 = .ok (.aload_n 0, 1) := by decide +kernel
theorem dX5_count_50 : decode cX5_count 50 = .ok (.getfield 15, 3) := by decide +kernel
theorem dX5_count_53 : decode cX5_count 53 = .ok (.invokestatic 185, 3) := by decide +kernel
theorem dX5_count_56 : decode cX5_count 56 = .ok (.ireturn, 1) := by decide +kernel
theorem dX5_count_57 : decode cX5_count 57 = .ok (.aload_n 0, 1) := by decide +kernel
theorem dX5_count_58 : decode cX5_count 58 = .ok (.invokevirtual 189, 3) := by decide +kernel
theorem dX5_count_61 : decode cX5_count 61 = .ok (.ireturn, 1) := by decide +kernel
theorem dX5_count_62 : decode cX5_count 62 = .ok (.aload_n 0, 1) := by decide +kernel
theorem dX5_count_63 : decode cX5_count 63 = .ok (.getfield 57, 3) := by decide +kernel
theorem dX5_count_66 : decode cX5_count 66 = .ok (.ireturn, 1) := by decide +kernel
theorem dX5_count_67 : decode cX5_count 67 = .ok (.bipush (-2), 2) := by decide +kernel
theorem dX5_count_69 : decode cX5_count 69 = .ok (.ireturn, 1) := by decide +kernel
theorem dX5_digest_0 : decode cX5_digest 0 = .ok (.ldc2_w 192, 3) := by decide +kernel
theorem dX5_digest_3 : decode cX5_digest 3 = .ok (.lstore_n 1, 1) := by decide +kernel
theorem dX5_digest_4 : decode cX5_digest 4 = .ok (.iconst 0, 1) := by decide +kernel
theorem dX5_digest_5 : decode cX5_digest 5 = .ok (.istore_n 3, 1) := by decide +kernel
theorem dX5_digest_6 : decode cX5_digest 6 = .ok (.iload_n 3, 1) := by decide +kernel
theorem dX5_digest_7 : decode cX5_digest 7 = .ok (.iconst 4, 1) := by decide +kernel
theorem dX5_digest_8 : decode cX5_digest 8 = .ok (.if_icmp .gt 19, 3) := by decide +kernel
theorem dX5_digest_11 : decode cX5_digest 11 = .ok (.lload_n 1, 1) := by decide +kernel
theorem dX5_digest_12 : decode cX5_digest 12 = .ok (.aload_n 0, 1) := by decide +kernel
theorem dX5_digest_13 : decode cX5_digest 13 = .ok (.iload_n 3, 1) := by decide +kernel
theorem dX5_digest_14 : decode cX5_digest 14 = .ok (.invokevirtual 194, 3) := by decide +kernel
theorem dX5_digest_17 : decode cX5_digest 17 = .ok (.invokestatic 197, 3) := by decide +kernel
theorem dX5_digest_20 : decode cX5_digest 20 = .ok (.lstore_n 1, 1) := by decide +kernel
theorem dX5_digest_21 : decode cX5_digest 21 = .ok (.iinc 3 1, 3) := by decide +kernel
theorem dX5_digest_24 : decode cX5_digest 24 = .ok (.goto (-18), 3) := by decide +kernel
theorem dX5_digest_27 : decode cX5_digest 27 = .ok (.lload_n 1, 1) := by decide +kernel
theorem dX5_digest_28 : decode cX5_digest 28 = .ok (.aload_n 0, 1) := by decide +kernel
theorem dX5_digest_29 : decode cX5_digest 29 = .ok (.getfield 11, 3) := by decide +kernel
theorem dX5_digest_32 : decode cX5_digest 32 = .ok (.invokestatic 201, 3) := by decide +kernel
theorem dX5_digest_35 : decode cX5_digest 35 = .ok (.lstore_n 1, 1) := by decide +kernel
theorem dX5_digest_36 : decode cX5_digest 36 = .ok (.lload_n 1, 1) := by decide +kernel
theorem dX5_digest_37 : decode cX5_digest 37 = .ok (.aload_n 0, 1) := by decide +kernel
theorem dX5_digest_38 : decode cX5_digest 38 = .ok (.getfield 15, 3) := by decide +kernel
theorem dX5_digest_41 : decode cX5_digest 41 = .ok (.invokestatic 201, 3) := by decide +kernel
theorem dX5_digest_44 : decode cX5_digest 44 = .ok (.lstore_n 1, 1) := by decide +kernel
theorem dX5_digest_45 : decode cX5_digest 45 = .ok (.iconst 0, 1) := by decide +kernel
theorem dX5_digest_46 : decode cX5_digest 46 = .ok (.istore_n 3, 1) := by decide +kernel
theorem dX5_digest_47 : decode cX5_digest 47 = .ok (.iload_n 3, 1) := by decide +kernel
theorem dX5_digest_48 : decode cX5_digest 48 = .ok (.bipush 100, 2) := by decide +kernel
theorem dX5_digest_50 : decode cX5_digest 50 = .ok (.if_icmp .ge 19, 3) := by decide +kernel
theorem dX5_digest_53 : decode cX5_digest 53 = .ok (.lload_n 1, 1) := by decide +kernel
theorem dX5_digest_54 : decode cX5_digest 54 = .ok (.aload_n 0, 1) := by decide +kernel
theorem dX5_digest_55 : decode cX5_digest 55 = .ok (.iload_n 3, 1) := by decide +kernel
theorem dX5_digest_56 : decode cX5_digest 56 = .ok (.invokevirtual 160, 3) := by decide +kernel
theorem dX5_digest_59 : decode cX5_digest 59 = .ok (.invokestatic 197, 3) := by decide +kernel
theorem dX5_digest_62 : decode cX5_digest 62 = .ok (.lstore_n 1, 1) := by decide +kernel
theorem dX5_digest_63 : decode cX5_digest 63 = .ok (.iinc 3 1, 3) := by decide +kernel
theorem dX5_digest_66 : decode cX5_digest 66 = .ok (.goto (-19), 3) := by decide +kernel
theorem dX5_digest_69 : decode cX5_digest 69 = .ok (.aload_n 0, 1) := by decide +kernel
theorem dX5_digest_70 : decode cX5_digest 70 = .ok (.lload_n 1, 1) := by decide +kernel
theorem dX5_digest_71 : decode cX5_digest 71 = .ok (.invokevirtual 205, 3) := by decide +kernel
theorem dX5_digest_74 : decode cX5_digest 74 = .ok (.lstore_n 1, 1) := by decide +kernel
theorem dX5_digest_75 : decode cX5_digest 75 = .ok (.aload_n 0, 1) := by decide +kernel
theorem dX5_digest_76 : decode cX5_digest 76 = .ok (.lload_n 1, 1) := by decide +kernel
theorem dX5_digest_77 : decode cX5_digest 77 = .ok (.invokevirtual 209, 3) := by decide +kernel
theorem dX5_digest_80 : decode cX5_digest 80 = .ok (.lreturn, 1) := by decide +kernel
theorem dX5_isLine_0 : decode cX5_isLine 0 = .ok (.iload_n 0, 1) := by decide +kernel
theorem dX5_isLine_1 : decode cX5_isLine 1 = .ok (.ifCond .lt 13, 3) := by decide +kernel
theorem dX5_isLine_4 : decode cX5_isLine 4 = .ok (.iload_n 0, 1) := by decide +kernel
theorem dX5_isLine_5 : decode cX5_isLine 5 = .ok (.bipush 100, 2) := by decide +kernel
theorem dX5_isLine_7 : decode cX5_isLine 7 = .ok (.if_icmp .ge 7, 3) := by decide +kernel
theorem dX5_isLine_10 : decode cX5_isLine 10 = .ok (.iconst 1, 1) := by decide +kernel
theorem dX5_isLine_11 : decode cX5_isLine 11 = .ok (.goto 4, 3) := by decide +kernel
theorem dX5_isLine_14 : decode cX5_isLine 14 = .ok (.iconst 0, 1) := by decide +kernel
theorem dX5_isLine_15 : decode cX5_isLine 15 = .ok (.ireturn, 1) := by decide +kernel
theorem dX5_isTown_0 : decode cX5_isTown 0 = .ok (.iload_n 0, 1) := by decide +kernel
theorem dX5_isTown_1 : decode cX5_isTown 1 = .ok (.ifCond .lt 13, 3) := by decide +kernel
theorem dX5_isTown_4 : decode cX5_isTown 4 = .ok (.iload_n 0, 1) := by decide +kernel
theorem dX5_isTown_5 : decode cX5_isTown 5 = .ok (.bipush 8, 2) := by decide +kernel
theorem dX5_isTown_7 : decode cX5_isTown 7 = .ok (.if_icmp .ge 7, 3) := by decide +kernel
theorem dX5_isTown_10 : decode cX5_isTown 10 = .ok (.iconst 1, 1) := by decide +kernel
theorem dX5_isTown_11 : decode cX5_isTown 11 = .ok (.goto 4, 3) := by decide +kernel
theorem dX5_isTown_14 : decode cX5_isTown 14 = .ok (.iconst 0, 1) := by decide +kernel
theorem dX5_isTown_15 : decode cX5_isTown 15 = .ok (.ireturn, 1) := by decide +kernel
theorem dX5_isMarks_0 : decode cX5_isMarks 0 = .ok (.iload_n 0, 1) := by decide +kernel
theorem dX5_isMarks_1 : decode cX5_isMarks 1 = .ok (.ifCond .lt 14, 3) := by decide +kernel
theorem dX5_isMarks_4 : decode cX5_isMarks 4 = .ok (.iload_n 0, 1) := by decide +kernel
theorem dX5_isMarks_5 : decode cX5_isMarks 5 = .ok (.sipush 255, 3) := by decide +kernel
theorem dX5_isMarks_8 : decode cX5_isMarks 8 = .ok (.if_icmp .gt 7, 3) := by decide +kernel
theorem dX5_isMarks_11 : decode cX5_isMarks 11 = .ok (.iconst 1, 1) := by decide +kernel
theorem dX5_isMarks_12 : decode cX5_isMarks 12 = .ok (.goto 4, 3) := by decide +kernel
theorem dX5_isMarks_15 : decode cX5_isMarks 15 = .ok (.iconst 0, 1) := by decide +kernel
theorem dX5_isMarks_16 : decode cX5_isMarks 16 = .ok (.ireturn, 1) := by decide +kernel
theorem dX5_isDay_0 : decode cX5_isDay 0 = .ok (.iload_n 0, 1) := by decide +kernel
theorem dX5_isDay_1 : decode cX5_isDay 1 = .ok (.ifCond .lt 14, 3) := by decide +kernel
theorem dX5_isDay_4 : decode cX5_isDay 4 = .ok (.iload_n 0, 1) := by decide +kernel
theorem dX5_isDay_5 : decode cX5_isDay 5 = .ok (.sipush 999, 3) := by decide +kernel
theorem dX5_isDay_8 : decode cX5_isDay 8 = .ok (.if_icmp .gt 7, 3) := by decide +kernel
theorem dX5_isDay_11 : decode cX5_isDay 11 = .ok (.iconst 1, 1) := by decide +kernel
theorem dX5_isDay_12 : decode cX5_isDay 12 = .ok (.goto 4, 3) := by decide +kernel
theorem dX5_isDay_15 : decode cX5_isDay 15 = .ok (.iconst 0, 1) := by decide +kernel
theorem dX5_isDay_16 : decode cX5_isDay 16 = .ok (.ireturn, 1) := by decide +kernel
end
section
theorem dX5_rowOf_0 : decode cX5_rowOf 0 = .ok (.iload_n 1, 1) := by decide +kernel
theorem dX5_rowOf_1 : decode cX5_rowOf 1 = .ok (.ifCond .lt 15, 3) := by decide +kernel
theorem dX5_rowOf_4 : decode cX5_rowOf 4 = .ok (.iload_n 1, 1) := by decide +kernel
theorem dX5_rowOf_5 : decode cX5_rowOf 5 = .ok (.aload_n 0, 1) := by decide +kernel
theorem dX5_rowOf_6 : decode cX5_rowOf 6 = .ok (.arraylength, 1) := by decide +kernel
theorem dX5_rowOf_7 : decode cX5_rowOf 7 = .ok (.if_icmp .ge 9, 3) := by decide +kernel
theorem dX5_rowOf_10 : decode cX5_rowOf 10 = .ok (.aload_n 0, 1) := by decide +kernel
theorem dX5_rowOf_11 : decode cX5_rowOf 11 = .ok (.iload_n 1, 1) := by decide +kernel
theorem dX5_rowOf_12 : decode cX5_rowOf 12 = .ok (.aaload, 1) := by decide +kernel
theorem dX5_rowOf_13 : decode cX5_rowOf 13 = .ok (.goto 4, 3) := by decide +kernel
theorem dX5_rowOf_16 : decode cX5_rowOf 16 = .ok (.aconst_null, 1) := by decide +kernel
theorem dX5_rowOf_17 : decode cX5_rowOf 17 = .ok (.areturn, 1) := by decide +kernel
theorem dX5_conditionOf_0 : decode cX5_conditionOf 0 = .ok (.iload_n 1, 1) := by decide +kernel
theorem dX5_conditionOf_1 : decode cX5_conditionOf 1 = .ok (.ifCond .lt 29, 3) := by decide +kernel
theorem dX5_conditionOf_4 : decode cX5_conditionOf 4 = .ok (.iload_n 1, 1) := by decide +kernel
theorem dX5_conditionOf_5 : decode cX5_conditionOf 5 = .ok (.aload_n 0, 1) := by decide +kernel
theorem dX5_conditionOf_6 : decode cX5_conditionOf 6 = .ok (.getfield 53, 3) := by decide +kernel
theorem dX5_conditionOf_9 : decode cX5_conditionOf 9 = .ok (.if_icmp .ge 21, 3) := by decide +kernel
theorem dX5_conditionOf_12 : decode cX5_conditionOf 12 = .ok (.iload_n 1, 1) := by decide +kernel
theorem dX5_conditionOf_13 : decode cX5_conditionOf 13 = .ok (.aload_n 0, 1) := by decide +kernel
theorem dX5_conditionOf_14 : decode cX5_conditionOf 14 = .ok (.getfield 20, 3) := by decide +kernel
theorem dX5_conditionOf_17 : decode cX5_conditionOf 17 = .ok (.arraylength, 1) := by decide +kernel
theorem dX5_conditionOf_18 : decode cX5_conditionOf 18 = .ok (.if_icmp .ge 12, 3) := by decide +kernel
theorem dX5_conditionOf_21 : decode cX5_conditionOf 21 = .ok (.aload_n 0, 1) := by decide +kernel
theorem dX5_conditionOf_22 : decode cX5_conditionOf 22 = .ok (.getfield 20, 3) := by decide +kernel
theorem dX5_conditionOf_25 : decode cX5_conditionOf 25 = .ok (.iload_n 1, 1) := by decide +kernel
theorem dX5_conditionOf_26 : decode cX5_conditionOf 26 = .ok (.aaload, 1) := by decide +kernel
theorem dX5_conditionOf_27 : decode cX5_conditionOf 27 = .ok (.goto 4, 3) := by decide +kernel
theorem dX5_conditionOf_30 : decode cX5_conditionOf 30 = .ok (.aconst_null, 1) := by decide +kernel
theorem dX5_conditionOf_31 : decode cX5_conditionOf 31 = .ok (.areturn, 1) := by decide +kernel
theorem dX5_ruleOf_0 : decode cX5_ruleOf 0 = .ok (.iload_n 1, 1) := by decide +kernel
theorem dX5_ruleOf_1 : decode cX5_ruleOf 1 = .ok (.ifCond .lt 29, 3) := by decide +kernel
theorem dX5_ruleOf_4 : decode cX5_ruleOf 4 = .ok (.iload_n 1, 1) := by decide +kernel
theorem dX5_ruleOf_5 : decode cX5_ruleOf 5 = .ok (.aload_n 0, 1) := by decide +kernel
theorem dX5_ruleOf_6 : decode cX5_ruleOf 6 = .ok (.getfield 57, 3) := by decide +kernel
theorem dX5_ruleOf_9 : decode cX5_ruleOf 9 = .ok (.if_icmp .ge 21, 3) := by decide +kernel
theorem dX5_ruleOf_12 : decode cX5_ruleOf 12 = .ok (.iload_n 1, 1) := by decide +kernel
theorem dX5_ruleOf_13 : decode cX5_ruleOf 13 = .ok (.aload_n 0, 1) := by decide +kernel
theorem dX5_ruleOf_14 : decode cX5_ruleOf 14 = .ok (.getfield 26, 3) := by decide +kernel
theorem dX5_ruleOf_17 : decode cX5_ruleOf 17 = .ok (.arraylength, 1) := by decide +kernel
theorem dX5_ruleOf_18 : decode cX5_ruleOf 18 = .ok (.if_icmp .ge 12, 3) := by decide +kernel
theorem dX5_ruleOf_21 : decode cX5_ruleOf 21 = .ok (.aload_n 0, 1) := by decide +kernel
theorem dX5_ruleOf_22 : decode cX5_ruleOf 22 = .ok (.getfield 26, 3) := by decide +kernel
theorem dX5_ruleOf_25 : decode cX5_ruleOf 25 = .ok (.iload_n 1, 1) := by decide +kernel
theorem dX5_ruleOf_26 : decode cX5_ruleOf 26 = .ok (.aaload, 1) := by decide +kernel
theorem dX5_ruleOf_27 : decode cX5_ruleOf 27 = .ok (.goto 4, 3) := by decide +kernel
theorem dX5_ruleOf_30 : decode cX5_ruleOf 30 = .ok (.aconst_null, 1) := by decide +kernel
theorem dX5_ruleOf_31 : decode cX5_ruleOf 31 = .ok (.areturn, 1) := by decide +kernel
theorem dX5_hasBit_0 : decode cX5_hasBit 0 = .ok (.lload_n 0, 1) := by decide +kernel
theorem dX5_hasBit_1 : decode cX5_hasBit 1 = .ok (.iload_n 2, 1) := by decide +kernel
theorem dX5_hasBit_2 : decode cX5_hasBit 2 = .ok (.lshr, 1) := by decide +kernel
theorem dX5_hasBit_3 : decode cX5_hasBit 3 = .ok (.lconst 1, 1) := by decide +kernel
theorem dX5_hasBit_4 : decode cX5_hasBit 4 = .ok (.land, 1) := by decide +kernel
theorem dX5_hasBit_5 : decode cX5_hasBit 5 = .ok (.lconst 0, 1) := by decide +kernel
theorem dX5_hasBit_6 : decode cX5_hasBit 6 = .ok (.lcmp, 1) := by decide +kernel
theorem dX5_hasBit_7 : decode cX5_hasBit 7 = .ok (.ifCond .eq 7, 3) := by decide +kernel
theorem dX5_hasBit_10 : decode cX5_hasBit 10 = .ok (.iconst 1, 1) := by decide +kernel
theorem dX5_hasBit_11 : decode cX5_hasBit 11 = .ok (.goto 4, 3) := by decide +kernel
theorem dX5_hasBit_14 : decode cX5_hasBit 14 = .ok (.iconst 0, 1) := by decide +kernel
theorem dX5_hasBit_15 : decode cX5_hasBit 15 = .ok (.ireturn, 1) := by decide +kernel
theorem dX5_judgementOf_0 : decode cX5_judgementOf 0 = .ok (.aload_n 1, 1) := by decide +kernel
theorem dX5_judgementOf_1 : decode cX5_judgementOf 1 = .ok (.ifnonnull 7, 3) := by decide +kernel
theorem dX5_judgementOf_4 : decode cX5_judgementOf 4 = .ok (.iconst 0, 1) := by decide +kernel
theorem dX5_judgementOf_5 : decode cX5_judgementOf 5 = .ok (.goto 8, 3) := by decide +kernel
theorem dX5_judgementOf_8 : decode cX5_judgementOf 8 = .ok (.aload_n 1, 1) := by decide +kernel
theorem dX5_judgementOf_9 : decode cX5_judgementOf 9 = .ok (.aload_n 0, 1) := by decide +kernel
theorem dX5_judgementOf_10 : decode cX5_judgementOf 10 = .ok (.invokevirtual 212, 3) := by decide +kernel
theorem dX5_judgementOf_13 : decode cX5_judgementOf 13 = .ok (.ireturn, 1) := by decide +kernel
theorem dX5_isQuarrel_0 : decode cX5_isQuarrel 0 = .ok (.iload_n 0, 1) := by decide +kernel
theorem dX5_isQuarrel_1 : decode cX5_isQuarrel 1 = .ok (.iload_n 1, 1) := by decide +kernel
theorem dX5_isQuarrel_2 : decode cX5_isQuarrel 2 = .ok (.if_icmp .eq 17, 3) := by decide +kernel
theorem dX5_isQuarrel_5 : decode cX5_isQuarrel 5 = .ok (.iload_n 0, 1) := by decide +kernel
theorem dX5_isQuarrel_6 : decode cX5_isQuarrel 6 = .ok (.iconst (-1), 1) := by decide +kernel
theorem dX5_isQuarrel_7 : decode cX5_isQuarrel 7 = .ok (.if_icmp .eq 12, 3) := by decide +kernel
theorem dX5_isQuarrel_10 : decode cX5_isQuarrel 10 = .ok (.iload_n 1, 1) := by decide +kernel
theorem dX5_isQuarrel_11 : decode cX5_isQuarrel 11 = .ok (.iconst (-1), 1) := by decide +kernel
theorem dX5_isQuarrel_12 : decode cX5_isQuarrel 12 = .ok (.if_icmp .eq 7, 3) := by decide +kernel
theorem dX5_isQuarrel_15 : decode cX5_isQuarrel 15 = .ok (.iconst 1, 1) := by decide +kernel
theorem dX5_isQuarrel_16 : decode cX5_isQuarrel 16 = .ok (.goto 4, 3) := by decide +kernel
theorem dX5_isQuarrel_19 : decode cX5_isQuarrel 19 = .ok (.iconst 0, 1) := by decide +kernel
theorem dX5_isQuarrel_20 : decode cX5_isQuarrel 20 = .ok (.ireturn, 1) := by decide +kernel
theorem dX5_heardByTwo_0 : decode cX5_heardByTwo 0 = .ok (.iload_n 0, 1) := by decide +kernel
theorem dX5_heardByTwo_1 : decode cX5_heardByTwo 1 = .ok (.iload_n 1, 1) := by decide +kernel
theorem dX5_heardByTwo_2 : decode cX5_heardByTwo 2 = .ok (.if_icmp .eq 8, 3) := by decide +kernel
theorem dX5_heardByTwo_5 : decode cX5_heardByTwo 5 = .ok (.iload_n 1, 1) := by decide +kernel
theorem dX5_heardByTwo_6 : decode cX5_heardByTwo 6 = .ok (.iconst (-1), 1) := by decide +kernel
theorem dX5_heardByTwo_7 : decode cX5_heardByTwo 7 = .ok (.if_icmp .ne 5, 3) := by decide +kernel
theorem dX5_heardByTwo_10 : decode cX5_heardByTwo 10 = .ok (.iload_n 0, 1) := by decide +kernel
theorem dX5_heardByTwo_11 : decode cX5_heardByTwo 11 = .ok (.ireturn, 1) := by decide +kernel
theorem dX5_heardByTwo_12 : decode cX5_heardByTwo 12 = .ok (.iload_n 0, 1) := by decide +kernel
theorem dX5_heardByTwo_13 : decode cX5_heardByTwo 13 = .ok (.iconst (-1), 1) := by decide +kernel
theorem dX5_heardByTwo_14 : decode cX5_heardByTwo 14 = .ok (.if_icmp .ne 7, 3) := by decide +kernel
theorem dX5_heardByTwo_17 : decode cX5_heardByTwo 17 = .ok (.iload_n 1, 1) := by decide +kernel
theorem dX5_heardByTwo_18 : decode cX5_heardByTwo 18 = .ok (.goto 4, 3) := by decide +kernel
theorem dX5_heardByTwo_21 : decode cX5_heardByTwo 21 = .ok (.iconst (-1), 1) := by decide +kernel
theorem dX5_heardByTwo_22 : decode cX5_heardByTwo 22 = .ok (.ireturn, 1) := by decide +kernel
theorem dX5_placesBehind_0 : decode cX5_placesBehind 0 = .ok (.lconst 1, 1) := by decide +kernel
theorem dX5_placesBehind_1 : decode cX5_placesBehind 1 = .ok (.lstore_n 2, 1) := by decide +kernel
theorem dX5_placesBehind_2 : decode cX5_placesBehind 2 = .ok (.iconst 0, 1) := by decide +kernel
theorem dX5_placesBehind_3 : decode cX5_placesBehind 3 = .ok (.istore 4, 2) := by decide +kernel
theorem dX5_placesBehind_5 : decode cX5_placesBehind 5 = .ok (.iload 4, 2) := by decide +kernel
theorem dX5_placesBehind_7 : decode cX5_placesBehind 7 = .ok (.aload_n 0, 1) := by decide +kernel
theorem dX5_placesBehind_8 : decode cX5_placesBehind 8 = .ok (.getfield 64, 3) := by decide +kernel
theorem dX5_placesBehind_11 : decode cX5_placesBehind 11 = .ok (.if_icmp .ge 39, 3) := by decide +kernel
theorem dX5_placesBehind_14 : decode cX5_placesBehind 14 = .ok (.aload_n 0, 1) := by decide +kernel
theorem dX5_placesBehind_15 : decode cX5_placesBehind 15 = .ok (.iload 4, 2) := by decide +kernel
theorem dX5_placesBehind_17 : decode cX5_placesBehind 17 = .ok (.invokevirtual 82, 3) := by decide +kernel
theorem dX5_placesBehind_20 : decode cX5_placesBehind 20 = .ok (.istore 5, 2) := by decide +kernel
theorem dX5_placesBehind_22 : decode cX5_placesBehind 22 = .ok (.iload 5, 2) := by decide +kernel
theorem dX5_placesBehind_24 : decode cX5_placesBehind 24 = .ok (.iconst (-1), 1) := by decide +kernel
theorem dX5_placesBehind_25 : decode cX5_placesBehind 25 = .ok (.if_icmp .ne 11, 3) := by decide +kernel
theorem dX5_placesBehind_28 : decode cX5_placesBehind 28 = .ok (.lload_n 2, 1) := by decide +kernel
theorem dX5_placesBehind_29 : decode cX5_placesBehind 29 = .ok (.aload_n 1, 1) := by decide +kernel
theorem dX5_placesBehind_30 : decode cX5_placesBehind 30 = .ok (.invokestatic 215, 3) := by decide +kernel
theorem dX5_placesBehind_33 : decode cX5_placesBehind 33 = .ok (.goto 10, 3) := by decide +kernel
theorem dX5_placesBehind_36 : decode cX5_placesBehind 36 = .ok (.lload_n 2, 1) := by decide +kernel
theorem dX5_placesBehind_37 : decode cX5_placesBehind 37 = .ok (.aload_n 1, 1) := by decide +kernel
theorem dX5_placesBehind_38 : decode cX5_placesBehind 38 = .ok (.iload 5, 2) := by decide +kernel
theorem dX5_placesBehind_40 : decode cX5_placesBehind 40 = .ok (.invokestatic 219, 3) := by decide +kernel
theorem dX5_placesBehind_43 : decode cX5_placesBehind 43 = .ok (.lstore_n 2, 1) := by decide +kernel
theorem dX5_placesBehind_44 : decode cX5_placesBehind 44 = .ok (.iinc 4 1, 3) := by decide +kernel
theorem dX5_placesBehind_47 : decode cX5_placesBehind 47 = .ok (.goto (-42), 3) := by decide +kernel
theorem dX5_placesBehind_50 : decode cX5_placesBehind 50 = .ok (.lload_n 2, 1) := by decide +kernel
theorem dX5_placesBehind_51 : decode cX5_placesBehind 51 = .ok (.lreturn, 1) := by decide +kernel
theorem dX5_placesBehindLine_0 : decode cX5_placesBehindLine 0 = .ok (.lconst 0, 1) := by decide +kernel
theorem dX5_placesBehindLine_1 : decode cX5_placesBehindLine 1 = .ok (.lstore 4, 2) := by decide +kernel
theorem dX5_placesBehindLine_3 : decode cX5_placesBehindLine 3 = .ok (.iconst 0, 1) := by decide +kernel
theorem dX5_placesBehindLine_4 : decode cX5_placesBehindLine 4 = .ok (.istore 6, 2) := by decide +kernel
theorem dX5_placesBehindLine_6 : decode cX5_placesBehindLine 6 = .ok (.iload 6, 2) := by decide +kernel
theorem dX5_placesBehindLine_8 : decode cX5_placesBehindLine 8 = .ok (.aload_n 2, 1) := by decide +kernel
theorem dX5_placesBehindLine_9 : decode cX5_placesBehindLine 9 = .ok (.getfield 64, 3) := by decide +kernel
theorem dX5_placesBehindLine_12 : decode cX5_placesBehindLine 12 = .ok (.if_icmp .ge 39, 3) := by decide +kernel
theorem dX5_placesBehindLine_15 : decode cX5_placesBehindLine 15 = .ok (.lload_n 0, 1) := by decide +kernel
theorem dX5_placesBehindLine_16 : decode cX5_placesBehindLine 16 = .ok (.iload 6, 2) := by decide +kernel
theorem dX5_placesBehindLine_18 : decode cX5_placesBehindLine 18 = .ok (.invokestatic 137, 3) := by decide +kernel
theorem dX5_placesBehindLine_21 : decode cX5_placesBehindLine 21 = .ok (.ifCond .eq 24, 3) := by decide +kernel
theorem dX5_placesBehindLine_24 : decode cX5_placesBehindLine 24 = .ok (.aload_n 2, 1) := by decide +kernel
theorem dX5_placesBehindLine_25 : decode cX5_placesBehindLine 25 = .ok (.iload 6, 2) := by decide +kernel
theorem dX5_placesBehindLine_27 : decode cX5_placesBehindLine 27 = .ok (.invokevirtual 82, 3) := by decide +kernel
theorem dX5_placesBehindLine_30 : decode cX5_placesBehindLine 30 = .ok (.iload_n 3, 1) := by decide +kernel
theorem dX5_placesBehindLine_31 : decode cX5_placesBehindLine 31 = .ok (.if_icmp .ne 14, 3) := by decide +kernel
theorem dX5_placesBehindLine_34 : decode cX5_placesBehindLine 34 = .ok (.lload 4, 2) := by decide +kernel
theorem dX5_placesBehindLine_36 : decode cX5_placesBehindLine 36 = .ok (.lconst 1, 1) := by decide +kernel
theorem dX5_placesBehindLine_37 : decode cX5_placesBehindLine 37 = .ok (.iload 6, 2) := by decide +kernel
theorem dX5_placesBehindLine_39 : decode cX5_placesBehindLine 39 = .ok (.iconst 1, 1) := by decide +kernel
theorem dX5_placesBehindLine_40 : decode cX5_placesBehindLine 40 = .ok (.iadd, 1) := by decide +kernel
theorem dX5_placesBehindLine_41 : decode cX5_placesBehindLine 41 = .ok (.lshl, 1) := by decide +kernel
theorem dX5_placesBehindLine_42 : decode cX5_placesBehindLine 42 = .ok (.lor, 1) := by decide +kernel
theorem dX5_placesBehindLine_43 : decode cX5_placesBehindLine 43 = .ok (.lstore 4, 2) := by decide +kernel
theorem dX5_placesBehindLine_45 : decode cX5_placesBehindLine 45 = .ok (.iinc 6 1, 3) := by decide +kernel
theorem dX5_placesBehindLine_48 : decode cX5_placesBehindLine 48 = .ok (.goto (-42), 3) := by decide +kernel
theorem dX5_placesBehindLine_51 : decode cX5_placesBehindLine 51 = .ok (.lload 4, 2) := by decide +kernel
theorem dX5_placesBehindLine_53 : decode cX5_placesBehindLine 53 = .ok (.lreturn, 1) := by decide +kernel
theorem dX5_placesBehindGap_0 : decode cX5_placesBehindGap 0 = .ok (.lload_n 0, 1) := by decide +kernel
theorem dX5_placesBehindGap_1 : decode cX5_placesBehindGap 1 = .ok (.lstore_n 3, 1) := by decide +kernel
theorem dX5_placesBehindGap_2 : decode cX5_placesBehindGap 2 = .ok (.iconst 0, 1) := by decide +kernel
theorem dX5_placesBehindGap_3 : decode cX5_placesBehindGap 3 = .ok (.istore 5, 2) := by decide +kernel
theorem dX5_placesBehindGap_5 : decode cX5_placesBehindGap 5 = .ok (.iload 5, 2) := by decide +kernel
theorem dX5_placesBehindGap_7 : decode cX5_placesBehindGap 7 = .ok (.aload_n 2, 1) := by decide +kernel
theorem dX5_placesBehindGap_8 : decode cX5_placesBehindGap 8 = .ok (.getfield 64, 3) := by decide +kernel
theorem dX5_placesBehindGap_11 : decode cX5_placesBehindGap 11 = .ok (.if_icmp .ge 27, 3) := by decide +kernel
theorem dX5_placesBehindGap_14 : decode cX5_placesBehindGap 14 = .ok (.lload_n 3, 1) := by decide +kernel
theorem dX5_placesBehindGap_15 : decode cX5_placesBehindGap 15 = .ok (.iload 5, 2) := by decide +kernel
theorem dX5_placesBehindGap_17 : decode cX5_placesBehindGap 17 = .ok (.invokestatic 137, 3) := by decide +kernel
theorem dX5_placesBehindGap_20 : decode cX5_placesBehindGap 20 = .ok (.ifCond .eq 12, 3) := by decide +kernel
theorem dX5_placesBehindGap_23 : decode cX5_placesBehindGap 23 = .ok (.lload_n 3, 1) := by decide +kernel
theorem dX5_placesBehindGap_24 : decode cX5_placesBehindGap 24 = .ok (.lconst 1, 1) := by decide +kernel
theorem dX5_placesBehindGap_25 : decode cX5_placesBehindGap 25 = .ok (.iload 5, 2) := by decide +kernel
theorem dX5_placesBehindGap_27 : decode cX5_placesBehindGap 27 = .ok (.iconst 1, 1) := by decide +kernel
theorem dX5_placesBehindGap_28 : decode cX5_placesBehindGap 28 = .ok (.iadd, 1) := by decide +kernel
theorem dX5_placesBehindGap_29 : decode cX5_placesBehindGap 29 = .ok (.lshl, 1) := by decide +kernel
theorem dX5_placesBehindGap_30 : decode cX5_placesBehindGap 30 = .ok (.lor, 1) := by decide +kernel
theorem dX5_placesBehindGap_31 : decode cX5_placesBehindGap 31 = .ok (.lstore_n 3, 1) := by decide +kernel
theorem dX5_placesBehindGap_32 : decode cX5_placesBehindGap 32 = .ok (.iinc 5 1, 3) := by decide +kernel
theorem dX5_placesBehindGap_35 : decode cX5_placesBehindGap 35 = .ok (.goto (-30), 3) := by decide +kernel
theorem dX5_placesBehindGap_38 : decode cX5_placesBehindGap 38 = .ok (.lload_n 3, 1) := by decide +kernel
theorem dX5_placesBehindGap_39 : decode cX5_placesBehindGap 39 = .ok (.lreturn, 1) := by decide +kernel
theorem dX5_gapsHeard_0 : decode cX5_gapsHeard 0 = .ok (.iconst 0, 1) := by decide +kernel
theorem dX5_gapsHeard_1 : decode cX5_gapsHeard 1 = .ok (.istore_n 1, 1) := by decide +kernel
theorem dX5_gapsHeard_2 : decode cX5_gapsHeard 2 = .ok (.iconst 0, 1) := by decide +kernel
theorem dX5_gapsHeard_3 : decode cX5_gapsHeard 3 = .ok (.istore_n 2, 1) := by decide +kernel
theorem dX5_gapsHeard_4 : decode cX5_gapsHeard 4 = .ok (.iload_n 2, 1) := by decide +kernel
theorem dX5_gapsHeard_5 : decode cX5_gapsHeard 5 = .ok (.iconst 4, 1) := by decide +kernel
theorem dX5_gapsHeard_6 : decode cX5_gapsHeard 6 = .ok (.if_icmp .ge 53, 3) := by decide +kernel
theorem dX5_gapsHeard_9 : decode cX5_gapsHeard 9 = .ok (.aload_n 0, 1) := by decide +kernel
theorem dX5_gapsHeard_10 : decode cX5_gapsHeard 10 = .ok (.getfield 15, 3) := by decide +kernel
theorem dX5_gapsHeard_13 : decode cX5_gapsHeard 13 = .ok (.iload_n 2, 1) := by decide +kernel
theorem dX5_gapsHeard_14 : decode cX5_gapsHeard 14 = .ok (.invokestatic 60, 3) := by decide +kernel
theorem dX5_gapsHeard_17 : decode cX5_gapsHeard 17 = .ok (.astore_n 3, 1) := by decide +kernel
theorem dX5_gapsHeard_18 : decode cX5_gapsHeard 18 = .ok (.iconst 0, 1) := by decide +kernel
theorem dX5_gapsHeard_19 : decode cX5_gapsHeard 19 = .ok (.istore 4, 2) := by decide +kernel
theorem dX5_gapsHeard_21 : decode cX5_gapsHeard 21 = .ok (.aload_n 3, 1) := by decide +kernel
theorem dX5_gapsHeard_22 : decode cX5_gapsHeard 22 = .ok (.ifnull 31, 3) := by decide +kernel
theorem dX5_gapsHeard_25 : decode cX5_gapsHeard 25 = .ok (.iload 4, 2) := by decide +kernel
theorem dX5_gapsHeard_27 : decode cX5_gapsHeard 27 = .ok (.aload_n 3, 1) := by decide +kernel
theorem dX5_gapsHeard_28 : decode cX5_gapsHeard 28 = .ok (.getfield 64, 3) := by decide +kernel
theorem dX5_gapsHeard_31 : decode cX5_gapsHeard 31 = .ok (.if_icmp .ge 22, 3) := by decide +kernel
theorem dX5_gapsHeard_34 : decode cX5_gapsHeard 34 = .ok (.aload_n 3, 1) := by decide +kernel
theorem dX5_gapsHeard_35 : decode cX5_gapsHeard 35 = .ok (.iload 4, 2) := by decide +kernel
theorem dX5_gapsHeard_37 : decode cX5_gapsHeard 37 = .ok (.invokevirtual 82, 3) := by decide +kernel
theorem dX5_gapsHeard_40 : decode cX5_gapsHeard 40 = .ok (.iconst (-1), 1) := by decide +kernel
theorem dX5_gapsHeard_41 : decode cX5_gapsHeard 41 = .ok (.if_icmp .ne 6, 3) := by decide +kernel
theorem dX5_gapsHeard_44 : decode cX5_gapsHeard 44 = .ok (.iinc 1 1, 3) := by decide +kernel
theorem dX5_gapsHeard_47 : decode cX5_gapsHeard 47 = .ok (.iinc 4 1, 3) := by decide +kernel
theorem dX5_gapsHeard_50 : decode cX5_gapsHeard 50 = .ok (.goto (-29), 3) := by decide +kernel
theorem dX5_gapsHeard_53 : decode cX5_gapsHeard 53 = .ok (.iinc 2 1, 3) := by decide +kernel
theorem dX5_gapsHeard_56 : decode cX5_gapsHeard 56 = .ok (.goto (-52), 3) := by decide +kernel
theorem dX5_gapsHeard_59 : decode cX5_gapsHeard 59 = .ok (.iload_n 1, 1) := by decide +kernel
theorem dX5_gapsHeard_60 : decode cX5_gapsHeard 60 = .ok (.ireturn, 1) := by decide +kernel
theorem dX5_thingsIn_0 : decode cX5_thingsIn 0 = .ok (.iconst 0, 1) := by decide +kernel
theorem dX5_thingsIn_1 : decode cX5_thingsIn 1 = .ok (.istore_n 1, 1) := by decide +kernel
theorem dX5_thingsIn_2 : decode cX5_thingsIn 2 = .ok (.iconst 0, 1) := by decide +kernel
theorem dX5_thingsIn_3 : decode cX5_thingsIn 3 = .ok (.istore_n 2, 1) := by decide +kernel
theorem dX5_thingsIn_4 : decode cX5_thingsIn 4 = .ok (.iload_n 2, 1) := by decide +kernel
theorem dX5_thingsIn_5 : decode cX5_thingsIn 5 = .ok (.aload_n 0, 1) := by decide +kernel
theorem dX5_thingsIn_6 : decode cX5_thingsIn 6 = .ok (.arraylength, 1) := by decide +kernel
theorem dX5_thingsIn_7 : decode cX5_thingsIn 7 = .ok (.if_icmp .ge 26, 3) := by decide +kernel
theorem dX5_thingsIn_10 : decode cX5_thingsIn 10 = .ok (.aload_n 0, 1) := by decide +kernel
theorem dX5_thingsIn_11 : decode cX5_thingsIn 11 = .ok (.iload_n 2, 1) := by decide +kernel
theorem dX5_thingsIn_12 : decode cX5_thingsIn 12 = .ok (.invokestatic 60, 3) := by decide +kernel
theorem dX5_thingsIn_15 : decode cX5_thingsIn 15 = .ok (.astore_n 3, 1) := by decide +kernel
theorem dX5_thingsIn_16 : decode cX5_thingsIn 16 = .ok (.aload_n 3, 1) := by decide +kernel
theorem dX5_thingsIn_17 : decode cX5_thingsIn 17 = .ok (.ifnull 10, 3) := by decide +kernel
theorem dX5_thingsIn_20 : decode cX5_thingsIn 20 = .ok (.iload_n 1, 1) := by decide +kernel
theorem dX5_thingsIn_21 : decode cX5_thingsIn 21 = .ok (.aload_n 3, 1) := by decide +kernel
theorem dX5_thingsIn_22 : decode cX5_thingsIn 22 = .ok (.getfield 64, 3) := by decide +kernel
theorem dX5_thingsIn_25 : decode cX5_thingsIn 25 = .ok (.iadd, 1) := by decide +kernel
theorem dX5_thingsIn_26 : decode cX5_thingsIn 26 = .ok (.istore_n 1, 1) := by decide +kernel
theorem dX5_thingsIn_27 : decode cX5_thingsIn 27 = .ok (.iinc 2 1, 3) := by decide +kernel
theorem dX5_thingsIn_30 : decode cX5_thingsIn 30 = .ok (.goto (-26), 3) := by decide +kernel
theorem dX5_thingsIn_33 : decode cX5_thingsIn 33 = .ok (.iload_n 1, 1) := by decide +kernel
theorem dX5_thingsIn_34 : decode cX5_thingsIn 34 = .ok (.ireturn, 1) := by decide +kernel
theorem dX5_marksOf_0 : decode cX5_marksOf 0 = .ok (.iload_n 1, 1) := by decide +kernel
theorem dX5_marksOf_1 : decode cX5_marksOf 1 = .ok (.invokestatic 67, 3) := by decide +kernel
theorem dX5_marksOf_4 : decode cX5_marksOf 4 = .ok (.ifCond .eq 12, 3) := by decide +kernel
theorem dX5_marksOf_7 : decode cX5_marksOf 7 = .ok (.aload_n 0, 1) := by decide +kernel
theorem dX5_marksOf_8 : decode cX5_marksOf 8 = .ok (.getfield 30, 3) := by decide +kernel
theorem dX5_marksOf_11 : decode cX5_marksOf 11 = .ok (.iload_n 1, 1) := by decide +kernel
theorem dX5_marksOf_12 : decode cX5_marksOf 12 = .ok (.iaload, 1) := by decide +kernel
theorem dX5_marksOf_13 : decode cX5_marksOf 13 = .ok (.goto 4, 3) := by decide +kernel
theorem dX5_marksOf_16 : decode cX5_marksOf 16 = .ok (.iconst 0, 1) := by decide +kernel
theorem dX5_marksOf_17 : decode cX5_marksOf 17 = .ok (.ireturn, 1) := by decide +kernel
theorem dX5_marksOfAll_0 : decode cX5_marksOfAll 0 = .ok (.iconst 0, 1) := by decide +kernel
theorem dX5_marksOfAll_1 : decode cX5_marksOfAll 1 = .ok (.istore_n 2, 1) := by decide +kernel
theorem dX5_marksOfAll_2 : decode cX5_marksOfAll 2 = .ok (.iconst 0, 1) := by decide +kernel
theorem dX5_marksOfAll_3 : decode cX5_marksOfAll 3 = .ok (.istore_n 3, 1) := by decide +kernel
theorem dX5_marksOfAll_4 : decode cX5_marksOfAll 4 = .ok (.iload_n 3, 1) := by decide +kernel
theorem dX5_marksOfAll_5 : decode cX5_marksOfAll 5 = .ok (.aload_n 1, 1) := by decide +kernel
theorem dX5_marksOfAll_6 : decode cX5_marksOfAll 6 = .ok (.getfield 64, 3) := by decide +kernel
theorem dX5_marksOfAll_9 : decode cX5_marksOfAll 9 = .ok (.if_icmp .ge 21, 3) := by decide +kernel
theorem dX5_marksOfAll_12 : decode cX5_marksOfAll 12 = .ok (.iload_n 2, 1) := by decide +kernel
theorem dX5_marksOfAll_13 : decode cX5_marksOfAll 13 = .ok (.aload_n 0, 1) := by decide +kernel
theorem dX5_marksOfAll_14 : decode cX5_marksOfAll 14 = .ok (.aload_n 1, 1) := by decide +kernel
theorem dX5_marksOfAll_15 : decode cX5_marksOfAll 15 = .ok (.iload_n 3, 1) := by decide +kernel
theorem dX5_marksOfAll_16 : decode cX5_marksOfAll 16 = .ok (.invokevirtual 82, 3) := by decide +kernel
theorem dX5_marksOfAll_19 : decode cX5_marksOfAll 19 = .ok (.invokevirtual 160, 3) := by decide +kernel
theorem dX5_marksOfAll_22 : decode cX5_marksOfAll 22 = .ok (.ior, 1) := by decide +kernel
theorem dX5_marksOfAll_23 : decode cX5_marksOfAll 23 = .ok (.istore_n 2, 1) := by decide +kernel
theorem dX5_marksOfAll_24 : decode cX5_marksOfAll 24 = .ok (.iinc 3 1, 3) := by decide +kernel
theorem dX5_marksOfAll_27 : decode cX5_marksOfAll 27 = .ok (.goto (-23), 3) := by decide +kernel
theorem dX5_marksOfAll_30 : decode cX5_marksOfAll 30 = .ok (.iload_n 2, 1) := by decide +kernel
theorem dX5_marksOfAll_31 : decode cX5_marksOfAll 31 = .ok (.ireturn, 1) := by decide +kernel
theorem dX5_linesWith_0 : decode cX5_linesWith 0 = .ok (.iconst 0, 1) := by decide +kernel
theorem dX5_linesWith_1 : decode cX5_linesWith 1 = .ok (.istore_n 3, 1) := by decide +kernel
theorem dX5_linesWith_2 : decode cX5_linesWith 2 = .ok (.iconst 0, 1) := by decide +kernel
theorem dX5_linesWith_3 : decode cX5_linesWith 3 = .ok (.istore 4, 2) := by decide +kernel
theorem dX5_linesWith_5 : decode cX5_linesWith 5 = .ok (.iload 4, 2) := by decide +kernel
theorem dX5_linesWith_7 : decode cX5_linesWith 7 = .ok (.aload_n 1, 1) := by decide +kernel
theorem dX5_linesWith_8 : decode cX5_linesWith 8 = .ok (.getfield 64, 3) := by decide +kernel
theorem dX5_linesWith_11 : decode cX5_linesWith 11 = .ok (.if_icmp .ge 27, 3) := by decide +kernel
theorem dX5_linesWith_14 : decode cX5_linesWith 14 = .ok (.aload_n 0, 1) := by decide +kernel
theorem dX5_linesWith_15 : decode cX5_linesWith 15 = .ok (.aload_n 1, 1) := by decide +kernel
theorem dX5_linesWith_16 : decode cX5_linesWith 16 = .ok (.iload 4, 2) := by decide +kernel
theorem dX5_linesWith_18 : decode cX5_linesWith 18 = .ok (.invokevirtual 82, 3) := by decide +kernel
theorem dX5_linesWith_21 : decode cX5_linesWith 21 = .ok (.invokevirtual 160, 3) := by decide +kernel
theorem dX5_linesWith_24 : decode cX5_linesWith 24 = .ok (.iload_n 2, 1) := by decide +kernel
theorem dX5_linesWith_25 : decode cX5_linesWith 25 = .ok (.iand, 1) := by decide +kernel
theorem dX5_linesWith_26 : decode cX5_linesWith 26 = .ok (.ifCond .eq 6, 3) := by decide +kernel
theorem dX5_linesWith_29 : decode cX5_linesWith 29 = .ok (.iinc 3 1, 3) := by decide +kernel
theorem dX5_linesWith_32 : decode cX5_linesWith 32 = .ok (.iinc 4 1, 3) := by decide +kernel
theorem dX5_linesWith_35 : decode cX5_linesWith 35 = .ok (.goto (-30), 3) := by decide +kernel
theorem dX5_linesWith_38 : decode cX5_linesWith 38 = .ok (.iload_n 3, 1) := by decide +kernel
theorem dX5_linesWith_39 : decode cX5_linesWith 39 = .ok (.ireturn, 1) := by decide +kernel
theorem dX5_forbiddenMarks_0 : decode cX5_forbiddenMarks 0 = .ok (.iconst 0, 1) := by decide +kernel
theorem dX5_forbiddenMarks_1 : decode cX5_forbiddenMarks 1 = .ok (.istore_n 3, 1) := by decide +kernel
theorem dX5_forbiddenMarks_2 : decode cX5_forbiddenMarks 2 = .ok (.iconst 0, 1) := by decide +kernel
theorem dX5_forbiddenMarks_3 : decode cX5_forbiddenMarks 3 = .ok (.istore 4, 2) := by decide +kernel
theorem dX5_forbiddenMarks_5 : decode cX5_forbiddenMarks 5 = .ok (.iload 4, 2) := by decide +kernel
theorem dX5_forbiddenMarks_7 : decode cX5_forbiddenMarks 7 = .ok (.aload_n 0, 1) := by decide +kernel
theorem dX5_forbiddenMarks_8 : decode cX5_forbiddenMarks 8 = .ok (.getfield 57, 3) := by decide +kernel
theorem dX5_forbiddenMarks_11 : decode cX5_forbiddenMarks 11 = .ok (.if_icmp .ge 40, 3) := by decide +kernel
theorem dX5_forbiddenMarks_14 : decode cX5_forbiddenMarks 14 = .ok (.aload_n 0, 1) := by decide +kernel
theorem dX5_forbiddenMarks_15 : decode cX5_forbiddenMarks 15 = .ok (.iload 4, 2) := by decide +kernel
theorem dX5_forbiddenMarks_17 : decode cX5_forbiddenMarks 17 = .ok (.invokevirtual 223, 3) := by decide +kernel
theorem dX5_forbiddenMarks_20 : decode cX5_forbiddenMarks 20 = .ok (.astore 5, 2) := by decide +kernel
theorem dX5_forbiddenMarks_22 : decode cX5_forbiddenMarks 22 = .ok (.aload 5, 2) := by decide +kernel
theorem dX5_forbiddenMarks_24 : decode cX5_forbiddenMarks 24 = .ok (.ifnull 21, 3) := by decide +kernel
theorem dX5_forbiddenMarks_27 : decode cX5_forbiddenMarks 27 = .ok (.aload 5, 2) := by decide +kernel
theorem dX5_forbiddenMarks_29 : decode cX5_forbiddenMarks 29 = .ok (.iload_n 1, 1) := by decide +kernel
theorem dX5_forbiddenMarks_30 : decode cX5_forbiddenMarks 30 = .ok (.iload_n 2, 1) := by decide +kernel
theorem dX5_forbiddenMarks_31 : decode cX5_forbiddenMarks 31 = .ok (.invokevirtual 227, 3) := by decide +kernel
theorem dX5_forbiddenMarks_34 : decode cX5_forbiddenMarks 34 = .ok (.ifCond .eq 11, 3) := by decide +kernel
theorem dX5_forbiddenMarks_37 : decode cX5_forbiddenMarks 37 = .ok (.iload_n 3, 1) := by decide +kernel
theorem dX5_forbiddenMarks_38 : decode cX5_forbiddenMarks 38 = .ok (.aload 5, 2) := by decide +kernel
theorem dX5_forbiddenMarks_40 : decode cX5_forbiddenMarks 40 = .ok (.getfield 230, 3) := by decide +kernel
theorem dX5_forbiddenMarks_43 : decode cX5_forbiddenMarks 43 = .ok (.ior, 1) := by decide +kernel
theorem dX5_forbiddenMarks_44 : decode cX5_forbiddenMarks 44 = .ok (.istore_n 3, 1) := by decide +kernel
theorem dX5_forbiddenMarks_45 : decode cX5_forbiddenMarks 45 = .ok (.iinc 4 1, 3) := by decide +kernel
theorem dX5_forbiddenMarks_48 : decode cX5_forbiddenMarks 48 = .ok (.goto (-43), 3) := by decide +kernel
theorem dX5_forbiddenMarks_51 : decode cX5_forbiddenMarks 51 = .ok (.iload_n 3, 1) := by decide +kernel
theorem dX5_forbiddenMarks_52 : decode cX5_forbiddenMarks 52 = .ok (.ireturn, 1) := by decide +kernel
theorem dX5_lastForbiddenDay_0 : decode cX5_lastForbiddenDay 0 = .ok (.iconst (-1), 1) := by decide +kernel
theorem dX5_lastForbiddenDay_1 : decode cX5_lastForbiddenDay 1 = .ok (.istore 4, 2) := by decide +kernel
theorem dX5_lastForbiddenDay_3 : decode cX5_lastForbiddenDay 3 = .ok (.iconst 0, 1) := by decide +kernel
theorem dX5_lastForbiddenDay_4 : decode cX5_lastForbiddenDay 4 = .ok (.istore 5, 2) := by decide +kernel
theorem dX5_lastForbiddenDay_6 : decode cX5_lastForbiddenDay 6 = .ok (.iload 5, 2) := by decide +kernel
theorem dX5_lastForbiddenDay_8 : decode cX5_lastForbiddenDay 8 = .ok (.aload_n 0, 1) := by decide +kernel
theorem dX5_lastForbiddenDay_9 : decode cX5_lastForbiddenDay 9 = .ok (.getfield 57, 3) := by decide +kernel
theorem dX5_lastForbiddenDay_12 : decode cX5_lastForbiddenDay 12 = .ok (.if_icmp .ge 54, 3) := by decide +kernel
theorem dX5_lastForbiddenDay_15 : decode cX5_lastForbiddenDay 15 = .ok (.aload_n 0, 1) := by decide +kernel
theorem dX5_lastForbiddenDay_16 : decode cX5_lastForbiddenDay 16 = .ok (.iload 5, 2) := by decide +kernel
theorem dX5_lastForbiddenDay_18 : decode cX5_lastForbiddenDay 18 = .ok (.invokevirtual 223, 3) := by decide +kernel
theorem dX5_lastForbiddenDay_21 : decode cX5_lastForbiddenDay 21 = .ok (.astore 6, 2) := by decide +kernel
theorem dX5_lastForbiddenDay_23 : decode cX5_lastForbiddenDay 23 = .ok (.aload 6, 2) := by decide +kernel
theorem dX5_lastForbiddenDay_25 : decode cX5_lastForbiddenDay 25 = .ok (.ifnull 35, 3) := by decide +kernel
theorem dX5_lastForbiddenDay_28 : decode cX5_lastForbiddenDay 28 = .ok (.aload 6, 2) := by decide +kernel
theorem dX5_lastForbiddenDay_30 : decode cX5_lastForbiddenDay 30 = .ok (.iload_n 2, 1) := by decide +kernel
theorem dX5_lastForbiddenDay_31 : decode cX5_lastForbiddenDay 31 = .ok (.iload_n 3, 1) := by decide +kernel
theorem dX5_lastForbiddenDay_32 : decode cX5_lastForbiddenDay 32 = .ok (.invokevirtual 227, 3) := by decide +kernel
theorem dX5_lastForbiddenDay_35 : decode cX5_lastForbiddenDay 35 = .ok (.ifCond .eq 25, 3) := by decide +kernel
theorem dX5_lastForbiddenDay_38 : decode cX5_lastForbiddenDay 38 = .ok (.aload 6, 2) := by decide +kernel
theorem dX5_lastForbiddenDay_40 : decode cX5_lastForbiddenDay 40 = .ok (.getfield 230, 3) := by decide +kernel
theorem dX5_lastForbiddenDay_43 : decode cX5_lastForbiddenDay 43 = .ok (.iload_n 1, 1) := by decide +kernel
theorem dX5_lastForbiddenDay_44 : decode cX5_lastForbiddenDay 44 = .ok (.iand, 1) := by decide +kernel
theorem dX5_lastForbiddenDay_45 : decode cX5_lastForbiddenDay 45 = .ok (.ifCond .eq 15, 3) := by decide +kernel
theorem dX5_lastForbiddenDay_48 : decode cX5_lastForbiddenDay 48 = .ok (.iload 4, 2) := by decide +kernel
theorem dX5_lastForbiddenDay_50 : decode cX5_lastForbiddenDay 50 = .ok (.aload 6, 2) := by decide +kernel
theorem dX5_lastForbiddenDay_52 : decode cX5_lastForbiddenDay 52 = .ok (.getfield 232, 3) := by decide +kernel
theorem dX5_lastForbiddenDay_55 : decode cX5_lastForbiddenDay 55 = .ok (.invokestatic 120, 3) := by decide +kernel
theorem dX5_lastForbiddenDay_58 : decode cX5_lastForbiddenDay 58 = .ok (.istore 4, 2) := by decide +kernel
theorem dX5_lastForbiddenDay_60 : decode cX5_lastForbiddenDay 60 = .ok (.iinc 5 1, 3) := by decide +kernel
theorem dX5_lastForbiddenDay_63 : decode cX5_lastForbiddenDay 63 = .ok (.goto (-57), 3) := by decide +kernel
theorem dX5_lastForbiddenDay_66 : decode cX5_lastForbiddenDay 66 = .ok (.iload 4, 2) := by decide +kernel
theorem dX5_lastForbiddenDay_68 : decode cX5_lastForbiddenDay 68 = .ok (.ireturn, 1) := by decide +kernel
theorem dX5_mixed_0 : decode cX5_mixed 0 = .ok (.ldc2_w 235, 3) := by decide +kernel
theorem dX5_mixed_3 : decode cX5_mixed 3 = .ok (.lload_n 0, 1) := by decide +kernel
theorem dX5_mixed_4 : decode cX5_mixed 4 = .ok (.lmul, 1) := by decide +kernel
theorem dX5_mixed_5 : decode cX5_mixed 5 = .ok (.iload_n 2, 1) := by decide +kernel
theorem dX5_mixed_6 : decode cX5_mixed 6 = .ok (.i2l, 1) := by decide +kernel
theorem dX5_mixed_7 : decode cX5_mixed 7 = .ok (.ladd, 1) := by decide +kernel
theorem dX5_mixed_8 : decode cX5_mixed 8 = .ok (.lreturn, 1) := by decide +kernel
theorem dX5_mixedRows_0 : decode cX5_mixedRows 0 = .ok (.lload_n 0, 1) := by decide +kernel
theorem dX5_mixedRows_1 : decode cX5_mixedRows 1 = .ok (.lstore_n 3, 1) := by decide +kernel
theorem dX5_mixedRows_2 : decode cX5_mixedRows 2 = .ok (.iconst 0, 1) := by decide +kernel
theorem dX5_mixedRows_3 : decode cX5_mixedRows 3 = .ok (.istore 5, 2) := by decide +kernel
theorem dX5_mixedRows_5 : decode cX5_mixedRows 5 = .ok (.iload 5, 2) := by decide +kernel
theorem dX5_mixedRows_7 : decode cX5_mixedRows 7 = .ok (.aload_n 2, 1) := by decide +kernel
theorem dX5_mixedRows_8 : decode cX5_mixedRows 8 = .ok (.arraylength, 1) := by decide +kernel
theorem dX5_mixedRows_9 : decode cX5_mixedRows 9 = .ok (.if_icmp .ge 63, 3) := by decide +kernel
theorem dX5_mixedRows_12 : decode cX5_mixedRows 12 = .ok (.aload_n 2, 1) := by decide +kernel
theorem dX5_mixedRows_13 : decode cX5_mixedRows 13 = .ok (.iload 5, 2) := by decide +kernel
theorem dX5_mixedRows_15 : decode cX5_mixedRows 15 = .ok (.invokestatic 60, 3) := by decide +kernel
theorem dX5_mixedRows_18 : decode cX5_mixedRows 18 = .ok (.astore 6, 2) := by decide +kernel
theorem dX5_mixedRows_20 : decode cX5_mixedRows 20 = .ok (.aload 6, 2) := by decide +kernel
theorem dX5_mixedRows_22 : decode cX5_mixedRows 22 = .ok (.ifnull 44, 3) := by decide +kernel
theorem dX5_mixedRows_25 : decode cX5_mixedRows 25 = .ok (.lload_n 3, 1) := by decide +kernel
theorem dX5_mixedRows_26 : decode cX5_mixedRows 26 = .ok (.aload 6, 2) := by decide +kernel
theorem dX5_mixedRows_28 : decode cX5_mixedRows 28 = .ok (.getfield 64, 3) := by decide +kernel
theorem dX5_mixedRows_31 : decode cX5_mixedRows 31 = .ok (.invokestatic 197, 3) := by decide +kernel
theorem dX5_mixedRows_34 : decode cX5_mixedRows 34 = .ok (.lstore_n 3, 1) := by decide +kernel
theorem dX5_mixedRows_35 : decode cX5_mixedRows 35 = .ok (.iconst 0, 1) := by decide +kernel
theorem dX5_mixedRows_36 : decode cX5_mixedRows 36 = .ok (.istore 7, 2) := by decide +kernel
theorem dX5_mixedRows_38 : decode cX5_mixedRows 38 = .ok (.iload 7, 2) := by decide +kernel
theorem dX5_mixedRows_40 : decode cX5_mixedRows 40 = .ok (.aload 6, 2) := by decide +kernel
theorem dX5_mixedRows_42 : decode cX5_mixedRows 42 = .ok (.getfield 64, 3) := by decide +kernel
theorem dX5_mixedRows_45 : decode cX5_mixedRows 45 = .ok (.if_icmp .ge 21, 3) := by decide +kernel
theorem dX5_mixedRows_48 : decode cX5_mixedRows 48 = .ok (.lload_n 3, 1) := by decide +kernel
theorem dX5_mixedRows_49 : decode cX5_mixedRows 49 = .ok (.aload 6, 2) := by decide +kernel
theorem dX5_mixedRows_51 : decode cX5_mixedRows 51 = .ok (.iload 7, 2) := by decide +kernel
theorem dX5_mixedRows_53 : decode cX5_mixedRows 53 = .ok (.invokevirtual 82, 3) := by decide +kernel
theorem dX5_mixedRows_56 : decode cX5_mixedRows 56 = .ok (.invokestatic 197, 3) := by decide +kernel
theorem dX5_mixedRows_59 : decode cX5_mixedRows 59 = .ok (.lstore_n 3, 1) := by decide +kernel
theorem dX5_mixedRows_60 : decode cX5_mixedRows 60 = .ok (.iinc 7 1, 3) := by decide +kernel
theorem dX5_mixedRows_63 : decode cX5_mixedRows 63 = .ok (.goto (-25), 3) := by decide +kernel
theorem dX5_mixedRows_66 : decode cX5_mixedRows 66 = .ok (.iinc 5 1, 3) := by decide +kernel
theorem dX5_mixedRows_69 : decode cX5_mixedRows 69 = .ok (.goto (-64), 3) := by decide +kernel
theorem dX5_mixedRows_72 : decode cX5_mixedRows 72 = .ok (.lload_n 3, 1) := by decide +kernel
theorem dX5_mixedRows_73 : decode cX5_mixedRows 73 = .ok (.lreturn, 1) := by decide +kernel
theorem dX5_mixedRules_0 : decode cX5_mixedRules 0 = .ok (.lload_n 1, 1) := by decide +kernel
theorem dX5_mixedRules_1 : decode cX5_mixedRules 1 = .ok (.lstore_n 3, 1) := by decide +kernel
theorem dX5_mixedRules_2 : decode cX5_mixedRules 2 = .ok (.iconst 0, 1) := by decide +kernel
theorem dX5_mixedRules_3 : decode cX5_mixedRules 3 = .ok (.istore 5, 2) := by decide +kernel
theorem dX5_mixedRules_5 : decode cX5_mixedRules 5 = .ok (.iload 5, 2) := by decide +kernel
theorem dX5_mixedRules_7 : decode cX5_mixedRules 7 = .ok (.aload_n 0, 1) := by decide +kernel
theorem dX5_mixedRules_8 : decode cX5_mixedRules 8 = .ok (.getfield 57, 3) := by decide +kernel
theorem dX5_mixedRules_11 : decode cX5_mixedRules 11 = .ok (.if_icmp .ge 62, 3) := by decide +kernel
theorem dX5_mixedRules_14 : decode cX5_mixedRules 14 = .ok (.aload_n 0, 1) := by decide +kernel
theorem dX5_mixedRules_15 : decode cX5_mixedRules 15 = .ok (.iload 5, 2) := by decide +kernel
theorem dX5_mixedRules_17 : decode cX5_mixedRules 17 = .ok (.invokevirtual 223, 3) := by decide +kernel
theorem dX5_mixedRules_20 : decode cX5_mixedRules 20 = .ok (.astore 6, 2) := by decide +kernel
theorem dX5_mixedRules_22 : decode cX5_mixedRules 22 = .ok (.aload 6, 2) := by decide +kernel
theorem dX5_mixedRules_24 : decode cX5_mixedRules 24 = .ok (.ifnull 43, 3) := by decide +kernel
theorem dX5_mixedRules_27 : decode cX5_mixedRules 27 = .ok (.lload_n 3, 1) := by decide +kernel
theorem dX5_mixedRules_28 : decode cX5_mixedRules 28 = .ok (.aload 6, 2) := by decide +kernel
theorem dX5_mixedRules_30 : decode cX5_mixedRules 30 = .ok (.getfield 237, 3) := by decide +kernel
theorem dX5_mixedRules_33 : decode cX5_mixedRules 33 = .ok (.invokestatic 197, 3) := by decide +kernel
theorem dX5_mixedRules_36 : decode cX5_mixedRules 36 = .ok (.lstore_n 3, 1) := by decide +kernel
theorem dX5_mixedRules_37 : decode cX5_mixedRules 37 = .ok (.lload_n 3, 1) := by decide +kernel
theorem dX5_mixedRules_38 : decode cX5_mixedRules 38 = .ok (.aload 6, 2) := by decide +kernel
theorem dX5_mixedRules_40 : decode cX5_mixedRules 40 = .ok (.getfield 230, 3) := by decide +kernel
theorem dX5_mixedRules_43 : decode cX5_mixedRules 43 = .ok (.invokestatic 197, 3) := by decide +kernel
theorem dX5_mixedRules_46 : decode cX5_mixedRules 46 = .ok (.lstore_n 3, 1) := by decide +kernel
theorem dX5_mixedRules_47 : decode cX5_mixedRules 47 = .ok (.lload_n 3, 1) := by decide +kernel
theorem dX5_mixedRules_48 : decode cX5_mixedRules 48 = .ok (.aload 6, 2) := by decide +kernel
theorem dX5_mixedRules_50 : decode cX5_mixedRules 50 = .ok (.getfield 240, 3) := by decide +kernel
theorem dX5_mixedRules_53 : decode cX5_mixedRules 53 = .ok (.invokestatic 197, 3) := by decide +kernel
theorem dX5_mixedRules_56 : decode cX5_mixedRules 56 = .ok (.lstore_n 3, 1) := by decide +kernel
theorem dX5_mixedRules_57 : decode cX5_mixedRules 57 = .ok (.lload_n 3, 1) := by decide +kernel
theorem dX5_mixedRules_58 : decode cX5_mixedRules 58 = .ok (.aload 6, 2) := by decide +kernel
theorem dX5_mixedRules_60 : decode cX5_mixedRules 60 = .ok (.getfield 232, 3) := by decide +kernel
theorem dX5_mixedRules_63 : decode cX5_mixedRules 63 = .ok (.invokestatic 197, 3) := by decide +kernel
theorem dX5_mixedRules_66 : decode cX5_mixedRules 66 = .ok (.lstore_n 3, 1) := by decide +kernel
theorem dX5_mixedRules_67 : decode cX5_mixedRules 67 = .ok (.iinc 5 1, 3) := by decide +kernel
theorem dX5_mixedRules_70 : decode cX5_mixedRules 70 = .ok (.goto (-65), 3) := by decide +kernel
theorem dX5_mixedRules_73 : decode cX5_mixedRules 73 = .ok (.lload_n 3, 1) := by decide +kernel
theorem dX5_mixedRules_74 : decode cX5_mixedRules 74 = .ok (.lreturn, 1) := by decide +kernel
theorem dX5_mixedConditions_0 : decode cX5_mixedConditions 0 = .ok (.lload_n 1, 1) := by decide +kernel
theorem dX5_mixedConditions_1 : decode cX5_mixedConditions 1 = .ok (.lstore_n 3, 1) := by decide +kernel
theorem dX5_mixedConditions_2 : decode cX5_mixedConditions 2 = .ok (.iconst 0, 1) := by decide +kernel
theorem dX5_mixedConditions_3 : decode cX5_mixedConditions 3 = .ok (.istore 5, 2) := by decide +kernel
theorem dX5_mixedConditions_5 : decode cX5_mixedConditions 5 = .ok (.iload 5, 2) := by decide +kernel
theorem dX5_mixedConditions_7 : decode cX5_mixedConditions 7 = .ok (.aload_n 0, 1) := by decide +kernel
theorem dX5_mixedConditions_8 : decode cX5_mixedConditions 8 = .ok (.getfield 53, 3) := by decide +kernel
theorem dX5_mixedConditions_11 : decode cX5_mixedConditions 11 = .ok (.if_icmp .ge 52, 3) := by decide +kernel
theorem dX5_mixedConditions_14 : decode cX5_mixedConditions 14 = .ok (.aload_n 0, 1) := by decide +kernel
theorem dX5_mixedConditions_15 : decode cX5_mixedConditions 15 = .ok (.iload 5, 2) := by decide +kernel
theorem dX5_mixedConditions_17 : decode cX5_mixedConditions 17 = .ok (.invokevirtual 109, 3) := by decide +kernel
theorem dX5_mixedConditions_20 : decode cX5_mixedConditions 20 = .ok (.astore 6, 2) := by decide +kernel
theorem dX5_mixedConditions_22 : decode cX5_mixedConditions 22 = .ok (.aload 6, 2) := by decide +kernel
theorem dX5_mixedConditions_24 : decode cX5_mixedConditions 24 = .ok (.ifnull 33, 3) := by decide +kernel
theorem dX5_mixedConditions_27 : decode cX5_mixedConditions 27 = .ok (.lload_n 3, 1) := by decide +kernel
theorem dX5_mixedConditions_28 : decode cX5_mixedConditions 28 = .ok (.aload 6, 2) := by decide +kernel
theorem dX5_mixedConditions_30 : decode cX5_mixedConditions 30 = .ok (.getfield 243, 3) := by decide +kernel
theorem dX5_mixedConditions_33 : decode cX5_mixedConditions 33 = .ok (.invokestatic 197, 3) := by decide +kernel
theorem dX5_mixedConditions_36 : decode cX5_mixedConditions 36 = .ok (.lstore_n 3, 1) := by decide +kernel
theorem dX5_mixedConditions_37 : decode cX5_mixedConditions 37 = .ok (.lload_n 3, 1) := by decide +kernel
theorem dX5_mixedConditions_38 : decode cX5_mixedConditions 38 = .ok (.aload 6, 2) := by decide +kernel
theorem dX5_mixedConditions_40 : decode cX5_mixedConditions 40 = .ok (.getfield 246, 3) := by decide +kernel
theorem dX5_mixedConditions_43 : decode cX5_mixedConditions 43 = .ok (.invokestatic 197, 3) := by decide +kernel
theorem dX5_mixedConditions_46 : decode cX5_mixedConditions 46 = .ok (.lstore_n 3, 1) := by decide +kernel
theorem dX5_mixedConditions_47 : decode cX5_mixedConditions 47 = .ok (.lload_n 3, 1) := by decide +kernel
theorem dX5_mixedConditions_48 : decode cX5_mixedConditions 48 = .ok (.aload 6, 2) := by decide +kernel
theorem dX5_mixedConditions_50 : decode cX5_mixedConditions 50 = .ok (.getfield 249, 3) := by decide +kernel
theorem dX5_mixedConditions_53 : decode cX5_mixedConditions 53 = .ok (.invokestatic 197, 3) := by decide +kernel
theorem dX5_mixedConditions_56 : decode cX5_mixedConditions 56 = .ok (.lstore_n 3, 1) := by decide +kernel
theorem dX5_mixedConditions_57 : decode cX5_mixedConditions 57 = .ok (.iinc 5 1, 3) := by decide +kernel
theorem dX5_mixedConditions_60 : decode cX5_mixedConditions 60 = .ok (.goto (-55), 3) := by decide +kernel
theorem dX5_mixedConditions_63 : decode cX5_mixedConditions 63 = .ok (.lload_n 3, 1) := by decide +kernel
theorem dX5_mixedConditions_64 : decode cX5_mixedConditions 64 = .ok (.lreturn, 1) := by decide +kernel
theorem dX6_init_0 : decode cX6_init 0 = .ok (.aload_n 0, 1) := by decide +kernel
theorem dX6_init_1 : decode cX6_init 1 = .ok (.invokespecial 1, 3) := by decide +kernel
theorem dX6_init_4 : decode cX6_init 4 = .ok (.aload_n 0, 1) := by decide +kernel
theorem dX6_init_5 : decode cX6_init 5 = .ok (.sipush 320, 3) := by decide +kernel
theorem dX6_init_8 : decode cX6_init 8 = .ok (.newarray .int, 2) := by decide +kernel
theorem dX6_init_10 : decode cX6_init 10 = .ok (.putfield 7, 3) := by decide +kernel
theorem dX6_init_13 : decode cX6_init 13 = .ok (.aload_n 0, 1) := by decide +kernel
theorem dX6_init_14 : decode cX6_init 14 = .ok (.bipush 8, 2) := by decide +kernel
theorem dX6_init_16 : decode cX6_init 16 = .ok (.newarray .int, 2) := by decide +kernel
theorem dX6_init_18 : decode cX6_init 18 = .ok (.putfield 13, 3) := by decide +kernel
theorem dX6_init_21 : decode cX6_init 21 = .ok (.aload_n 0, 1) := by decide +kernel
theorem dX6_init_22 : decode cX6_init 22 = .ok (.sipush 160, 3) := by decide +kernel
theorem dX6_init_25 : decode cX6_init 25 = .ok (.newarray .int, 2) := by decide +kernel
theorem dX6_init_27 : decode cX6_init 27 = .ok (.putfield 16, 3) := by decide +kernel
theorem dX6_init_30 : decode cX6_init 30 = .ok (.aload_n 0, 1) := by decide +kernel
theorem dX6_init_31 : decode cX6_init 31 = .ok (.iconst 4, 1) := by decide +kernel
theorem dX6_init_32 : decode cX6_init 32 = .ok (.newarray .int, 2) := by decide +kernel
theorem dX6_init_34 : decode cX6_init 34 = .ok (.putfield 19, 3) := by decide +kernel
theorem dX6_init_37 : decode cX6_init 37 = .ok (.aload_n 0, 1) := by decide +kernel
theorem dX6_init_38 : decode cX6_init 38 = .ok (.bipush 12, 2) := by decide +kernel
theorem dX6_init_40 : decode cX6_init 40 = .ok (.newarray .int, 2) := by decide +kernel
theorem dX6_init_42 : decode cX6_init 42 = .ok (.putfield 22, 3) := by decide +kernel
theorem dX6_init_45 : decode cX6_init 45 = .ok (.aload_n 0, 1) := by decide +kernel
theorem dX6_init_46 : decode cX6_init 46 = .ok (.bipush 12, 2) := by decide +kernel
theorem dX6_init_48 : decode cX6_init 48 = .ok (.newarray .int, 2) := by decide +kernel
theorem dX6_init_50 : decode cX6_init 50 = .ok (.putfield 25, 3) := by decide +kernel
theorem dX6_init_53 : decode cX6_init 53 = .ok (.aload_n 0, 1) := by decide +kernel
theorem dX6_init_54 : decode cX6_init 54 = .ok (.bipush 12, 2) := by decide +kernel
theorem dX6_init_56 : decode cX6_init 56 = .ok (.newarray .int, 2) := by decide +kernel
theorem dX6_init_58 : decode cX6_init 58 = .ok (.putfield 28, 3) := by decide +kernel
theorem dX6_init_61 : decode cX6_init 61 = .ok (.aload_n 0, 1) := by decide +kernel
theorem dX6_init_62 : decode cX6_init 62 = .ok (.bipush 100, 2) := by decide +kernel
theorem dX6_init_64 : decode cX6_init 64 = .ok (.newarray .int, 2) := by decide +kernel
theorem dX6_init_66 : decode cX6_init 66 = .ok (.putfield 31, 3) := by decide +kernel
theorem dX6_init_69 : decode cX6_init 69 = .ok (.aload_n 0, 1) := by decide +kernel
theorem dX6_init_70 : decode cX6_init 70 = .ok (.bipush 20, 2) := by decide +kernel
theorem dX6_init_72 : decode cX6_init 72 = .ok (.newarray .int, 2) := by decide +kernel
theorem dX6_init_74 : decode cX6_init 74 = .ok (.putfield 34, 3) := by decide +kernel
theorem dX6_init_77 : decode cX6_init 77 = .ok (.aload_n 0, 1) := by decide +kernel
theorem dX6_init_78 : decode cX6_init 78 = .ok (.bipush 20, 2) := by decide +kernel
theorem dX6_init_80 : decode cX6_init 80 = .ok (.newarray .int, 2) := by decide +kernel
theorem dX6_init_82 : decode cX6_init 82 = .ok (.putfield 37, 3) := by decide +kernel
theorem dX6_init_85 : decode cX6_init 85 = .ok (.aload_n 0, 1) := by decide +kernel
theorem dX6_init_86 : decode cX6_init 86 = .ok (.bipush 20, 2) := by decide +kernel
theorem dX6_init_88 : decode cX6_init 88 = .ok (.newarray .int, 2) := by decide +kernel
theorem dX6_init_90 : decode cX6_init 90 = .ok (.putfield 40, 3) := by decide +kernel
theorem dX6_init_93 : decode cX6_init 93 = .ok (.aload_n 0, 1) := by decide +kernel
theorem dX6_init_94 : decode cX6_init 94 = .ok (.bipush 20, 2) := by decide +kernel
theorem dX6_init_96 : decode cX6_init 96 = .ok (.newarray .int, 2) := by decide +kernel
theorem dX6_init_98 : decode cX6_init 98 = .ok (.putfield 43, 3) := by decide +kernel
theorem dX6_init_101 : decode cX6_init 101 = .ok (.aload_n 0, 1) := by decide +kernel
theorem dX6_init_102 : decode cX6_init 102 = .ok (.sipush 1681, 3) := by decide +kernel
theorem dX6_init_105 : decode cX6_init 105 = .ok (.newarray .int, 2) := by decide +kernel
theorem dX6_init_107 : decode cX6_init 107 = .ok (.putfield 46, 3) := by decide +kernel
theorem dX6_init_110 : decode cX6_init 110 = .ok (.aload_n 0, 1) := by decide +kernel
theorem dX6_init_111 : decode cX6_init 111 = .ok (.sipush 256, 3) := by decide +kernel
theorem dX6_init_114 : decode cX6_init 114 = .ok (.newarray .int, 2) := by decide +kernel
theorem dX6_init_116 : decode cX6_init 116 = .ok (.putfield 49, 3) := by decide +kernel
theorem dX6_init_119 : decode cX6_init 119 = .ok (.aload_n 0, 1) := by decide +kernel
theorem dX6_init_120 : decode cX6_init 120 = .ok (.bipush 64, 2) := by decide +kernel
theorem dX6_init_122 : decode cX6_init 122 = .ok (.newarray .int, 2) := by decide +kernel
theorem dX6_init_124 : decode cX6_init 124 = .ok (.putfield 52, 3) := by decide +kernel
theorem dX6_init_127 : decode cX6_init 127 = .ok (.aload_n 0, 1) := by decide +kernel
theorem dX6_init_128 : decode cX6_init 128 = .ok (.bipush 8, 2) := by decide +kernel
theorem dX6_init_130 : decode cX6_init 130 = .ok (.newarray .int, 2) := by decide +kernel
theorem dX6_init_132 : decode cX6_init 132 = .ok (.putfield 55, 3) := by decide +kernel
theorem dX6_init_135 : decode cX6_init 135 = .ok (.aload_n 0, 1) := by decide +kernel
theorem dX6_init_136 : decode cX6_init 136 = .ok (.sipush 1681, 3) := by decide +kernel
theorem dX6_init_139 : decode cX6_init 139 = .ok (.newarray .boolean, 2) := by decide +kernel
theorem dX6_init_141 : decode cX6_init 141 = .ok (.putfield 58, 3) := by decide +kernel
theorem dX6_init_144 : decode cX6_init 144 = .ok (.return_, 1) := by decide +kernel
theorem dX6_in_0 : decode cX6_in 0 = .ok (.iload_n 0, 1) := by decide +kernel
theorem dX6_in_1 : decode cX6_in 1 = .ok (.iload_n 1, 1) := by decide +kernel
theorem dX6_in_2 : decode cX6_in 2 = .ok (.if_icmp .lt 12, 3) := by decide +kernel
theorem dX6_in_5 : decode cX6_in 5 = .ok (.iload_n 0, 1) := by decide +kernel
theorem dX6_in_6 : decode cX6_in 6 = .ok (.iload_n 2, 1) := by decide +kernel
theorem dX6_in_7 : decode cX6_in 7 = .ok (.if_icmp .gt 7, 3) := by decide +kernel
theorem dX6_in_10 : decode cX6_in 10 = .ok (.iconst 1, 1) := by decide +kernel
theorem dX6_in_11 : decode cX6_in 11 = .ok (.goto 4, 3) := by decide +kernel
theorem dX6_in_14 : decode cX6_in 14 = .ok (.iconst 0, 1) := by decide +kernel
theorem dX6_in_15 : decode cX6_in 15 = .ok (.ireturn, 1) := by decide +kernel
theorem dX6_isVersion_0 : decode cX6_isVersion 0 = .ok (.iload_n 0, 1) := by decide +kernel
theorem dX6_isVersion_1 : decode cX6_isVersion 1 = .ok (.iconst 0, 1) := by decide +kernel
theorem dX6_isVersion_2 : decode cX6_isVersion 2 = .ok (.bipush 7, 2) := by decide +kernel
theorem dX6_isVersion_4 : decode cX6_isVersion 4 = .ok (.invokestatic 62, 3) := by decide +kernel
theorem dX6_isVersion_7 : decode cX6_isVersion 7 = .ok (.ireturn, 1) := by decide +kernel
theorem dX6_isLine_0 : decode cX6_isLine 0 = .ok (.iload_n 0, 1) := by decide +kernel
theorem dX6_isLine_1 : decode cX6_isLine 1 = .ok (.iconst 0, 1) := by decide +kernel
theorem dX6_isLine_2 : decode cX6_isLine 2 = .ok (.bipush 99, 2) := by decide +kernel
theorem dX6_isLine_4 : decode cX6_isLine 4 = .ok (.invokestatic 62, 3) := by decide +kernel
theorem dX6_isLine_7 : decode cX6_isLine 7 = .ok (.ireturn, 1) := by decide +kernel
theorem dX6_isHeard_0 : decode cX6_isHeard 0 = .ok (.iload_n 0, 1) := by decide +kernel
theorem dX6_isHeard_1 : decode cX6_isHeard 1 = .ok (.iconst 0, 1) := by decide +kernel
theorem dX6_isHeard_2 : decode cX6_isHeard 2 = .ok (.iconst 3, 1) := by decide +kernel
theorem dX6_isHeard_3 : decode cX6_isHeard 3 = .ok (.invokestatic 62, 3) := by decide +kernel
theorem dX6_isHeard_6 : decode cX6_isHeard 6 = .ok (.ireturn, 1) := by decide +kernel
theorem dX6_put_0 : decode cX6_put 0 = .ok (.iload_n 1, 1) := by decide +kernel
theorem dX6_put_1 : decode cX6_put 1 = .ok (.invokestatic 66, 3) := by decide +kernel
theorem dX6_put_4 : decode cX6_put 4 = .ok (.ifCond .eq 24, 3) := by decide +kernel
theorem dX6_put_7 : decode cX6_put 7 = .ok (.iload_n 2, 1) := by decide +kernel
theorem dX6_put_8 : decode cX6_put 8 = .ok (.iconst 0, 1) := by decide +kernel
theorem dX6_put_9 : decode cX6_put 9 = .ok (.aload_n 0, 1) := by decide +kernel
theorem dX6_put_10 : decode cX6_put 10 = .ok (.getfield 13, 3) := by decide +kernel
theorem dX6_put_13 : decode cX6_put 13 = .ok (.iload_n 1, 1) := by decide +kernel
theorem dX6_put_14 : decode cX6_put 14 = .ok (.iaload, 1) := by decide +kernel
theorem dX6_put_15 : decode cX6_put 15 = .ok (.invokestatic 62, 3) := by decide +kernel
theorem dX6_put_18 : decode cX6_put 18 = .ok (.ifCond .eq 10, 3) := by decide +kernel
theorem dX6_put_21 : decode cX6_put 21 = .ok (.iload_n 3, 1) := by decide +kernel
theorem dX6_put_22 : decode cX6_put 22 = .ok (.invokestatic 70, 3) := by decide +kernel
theorem dX6_put_25 : decode cX6_put 25 = .ok (.ifCond .ne 6, 3) := by decide +kernel
theorem dX6_put_28 : decode cX6_put 28 = .ok (.bipush (-2), 2) := by decide +kernel
theorem dX6_put_30 : decode cX6_put 30 = .ok (.ireturn, 1) := by decide +kernel
theorem dX6_put_31 : decode cX6_put 31 = .ok (.aload_n 0, 1) := by decide +kernel
theorem dX6_put_32 : decode cX6_put 32 = .ok (.getfield 13, 3) := by decide +kernel
theorem dX6_put_35 : decode cX6_put 35 = .ok (.iload_n 1, 1) := by decide +kernel
theorem dX6_put_36 : decode cX6_put 36 = .ok (.iaload, 1) := by decide +kernel
theorem dX6_put_37 : decode cX6_put 37 = .ok (.bipush 40, 2) := by decide +kernel
theorem dX6_put_39 : decode cX6_put 39 = .ok (.if_icmp .ne 6, 3) := by decide +kernel
theorem dX6_put_42 : decode cX6_put 42 = .ok (.bipush (-4), 2) := by decide +kernel
theorem dX6_put_44 : decode cX6_put 44 = .ok (.ireturn, 1) := by decide +kernel
theorem dX6_put_45 : decode cX6_put 45 = .ok (.aload_n 0, 1) := by decide +kernel
theorem dX6_put_46 : decode cX6_put 46 = .ok (.getfield 13, 3) := by decide +kernel
theorem dX6_put_49 : decode cX6_put 49 = .ok (.iload_n 1, 1) := by decide +kernel
theorem dX6_put_50 : decode cX6_put 50 = .ok (.iaload, 1) := by decide +kernel
theorem dX6_put_51 : decode cX6_put 51 = .ok (.istore 4, 2) := by decide +kernel
theorem dX6_put_53 : decode cX6_put 53 = .ok (.iload 4, 2) := by decide +kernel
theorem dX6_put_55 : decode cX6_put 55 = .ok (.iload_n 2, 1) := by decide +kernel
theorem dX6_put_56 : decode cX6_put 56 = .ok (.if_icmp .le 35, 3) := by decide +kernel
theorem dX6_put_59 : decode cX6_put 59 = .ok (.aload_n 0, 1) := by decide +kernel
theorem dX6_put_60 : decode cX6_put 60 = .ok (.getfield 7, 3) := by decide +kernel
theorem dX6_put_63 : decode cX6_put 63 = .ok (.bipush 40, 2) := by decide +kernel
theorem dX6_put_65 : decode cX6_put 65 = .ok (.iload_n 1, 1) := by decide +kernel
theorem dX6_put_66 : decode cX6_put 66 = .ok (.imul, 1) := by decide +kernel
theorem dX6_put_67 : decode cX6_put 67 = .ok (.iload 4, 2) := by decide +kernel
theorem dX6_put_69 : decode cX6_put 69 = .ok (.iadd, 1) := by decide +kernel
theorem dX6_put_70 : decode cX6_put 70 = .ok (.aload_n 0, 1) := by decide +kernel
theorem dX6_put_71 : decode cX6_put 71 = .ok (.getfield 7, 3) := by decide +kernel
theorem dX6_put_74 : decode cX6_put 74 = .ok (.bipush 40, 2) := by decide +kernel
theorem dX6_put_76 : decode cX6_put 76 = .ok (.iload_n 1, 1) := by decide +kernel
theorem dX6_put_77 : decode cX6_put 77 = .ok (.imul, 1) := by decide +kernel
theorem dX6_put_78 : decode cX6_put 78 = .ok (.iload 4, 2) := by decide +kernel
theorem dX6_put_80 : decode cX6_put 80 = .ok (.iadd, 1) := by decide +kernel
theorem dX6_put_81 : decode cX6_put 81 = .ok (.iconst 1, 1) := by decide +kernel
theorem dX6_put_82 : decode cX6_put 82 = .ok (.isub, 1) := by decide +kernel
theorem dX6_put_83 : decode cX6_put 83 = .ok (.iaload, 1) := by decide +kernel
theorem dX6_put_84 : decode cX6_put 84 = .ok (.iastore, 1) := by decide +kernel
theorem dX6_put_85 : decode cX6_put 85 = .ok (.iinc 4 (-1), 3) := by decide +kernel
theorem dX6_put_88 : decode cX6_put 88 = .ok (.goto (-35), 3) := by decide +kernel
theorem dX6_put_91 : decode cX6_put 91 = .ok (.aload_n 0, 1) := by decide +kernel
theorem dX6_put_92 : decode cX6_put 92 = .ok (.getfield 7, 3) := by decide +kernel
theorem dX6_put_95 : decode cX6_put 95 = .ok (.bipush 40, 2) := by decide +kernel
theorem dX6_put_97 : decode cX6_put 97 = .ok (.iload_n 1, 1) := by decide +kernel
theorem dX6_put_98 : decode cX6_put 98 = .ok (.imul, 1) := by decide +kernel
theorem dX6_put_99 : decode cX6_put 99 = .ok (.iload_n 2, 1) := by decide +kernel
theorem dX6_put_100 : decode cX6_put 100 = .ok (.iadd, 1) := by decide +kernel
theorem dX6_put_101 : decode cX6_put 101 = .ok (.iload_n 3, 1) := by decide +kernel
theorem dX6_put_102 : decode cX6_put 102 = .ok (.iastore, 1) := by decide +kernel
theorem dX6_put_103 : decode cX6_put 103 = .ok (.aload_n 0, 1) := by decide +kernel
theorem dX6_put_104 : decode cX6_put 104 = .ok (.getfield 13, 3) := by decide +kernel
theorem dX6_put_107 : decode cX6_put 107 = .ok (.iload_n 1, 1) := by decide +kernel
theorem dX6_put_108 : decode cX6_put 108 = .ok (.dup2, 1) := by decide +kernel
theorem dX6_put_109 : decode cX6_put 109 = .ok (.iaload, 1) := by decide +kernel
theorem dX6_put_110 : decode cX6_put 110 = .ok (.iconst 1, 1) := by decide +kernel
theorem dX6_put_111 : decode cX6_put 111 = .ok (.iadd, 1) := by decide +kernel
theorem dX6_put_112 : decode cX6_put 112 = .ok (.iastore, 1) := by decide +kernel
theorem dX6_put_113 : decode cX6_put 113 = .ok (.aload_n 0, 1) := by decide +kernel
theorem dX6_put_114 : decode cX6_put 114 = .ok (.getfield 13, 3) := by decide +kernel
theorem dX6_put_117 : decode cX6_put 117 = .ok (.iload_n 1, 1) := by decide +kernel
theorem dX6_put_118 : decode cX6_put 118 = .ok (.iaload, 1) := by decide +kernel
theorem dX6_put_119 : decode cX6_put 119 = .ok (.ireturn, 1) := by decide +kernel
theorem dX6_take_0 : decode cX6_take 0 = .ok (.iload_n 1, 1) := by decide +kernel
theorem dX6_take_1 : decode cX6_take 1 = .ok (.invokestatic 66, 3) := by decide +kernel
theorem dX6_take_4 : decode cX6_take 4 = .ok (.ifCond .eq 19, 3) := by decide +kernel
theorem dX6_take_7 : decode cX6_take 7 = .ok (.iload_n 2, 1) := by decide +kernel
theorem dX6_take_8 : decode cX6_take 8 = .ok (.iconst 0, 1) := by decide +kernel
theorem dX6_take_9 : decode cX6_take 9 = .ok (.aload_n 0, 1) := by decide +kernel
theorem dX6_take_10 : decode cX6_take 10 = .ok (.getfield 13, 3) := by decide +kernel
theorem dX6_take_13 : decode cX6_take 13 = .ok (.iload_n 1, 1) := by decide +kernel
theorem dX6_take_14 : decode cX6_take 14 = .ok (.iaload, 1) := by decide +kernel
theorem dX6_take_15 : decode cX6_take 15 = .ok (.iconst 1, 1) := by decide +kernel
theorem dX6_take_16 : decode cX6_take 16 = .ok (.isub, 1) := by decide +kernel
theorem dX6_take_17 : decode cX6_take 17 = .ok (.invokestatic 62, 3) := by decide +kernel
theorem dX6_take_20 : decode cX6_take 20 = .ok (.ifCond .ne 6, 3) := by decide +kernel
theorem dX6_take_23 : decode cX6_take 23 = .ok (.bipush (-2), 2) := by decide +kernel
theorem dX6_take_25 : decode cX6_take 25 = .ok (.ireturn, 1) := by decide +kernel
theorem dX6_take_26 : decode cX6_take 26 = .ok (.aload_n 0, 1) := by decide +kernel
theorem dX6_take_27 : decode cX6_take 27 = .ok (.getfield 7, 3) := by decide +kernel
theorem dX6_take_30 : decode cX6_take 30 = .ok (.bipush 40, 2) := by decide +kernel
theorem dX6_take_32 : decode cX6_take 32 = .ok (.iload_n 1, 1) := by decide +kernel
theorem dX6_take_33 : decode cX6_take 33 = .ok (.imul, 1) := by decide +kernel
theorem dX6_take_34 : decode cX6_take 34 = .ok (.iload_n 2, 1) := by decide +kernel
theorem dX6_take_35 : decode cX6_take 35 = .ok (.iadd, 1) := by decide +kernel
theorem dX6_take_36 : decode cX6_take 36 = .ok (.iaload, 1) := by decide +kernel
theorem dX6_take_37 : decode cX6_take 37 = .ok (.istore_n 3, 1) := by decide +kernel
theorem dX6_take_38 : decode cX6_take 38 = .ok (.aload_n 0, 1) := by decide +kernel
theorem dX6_take_39 : decode cX6_take 39 = .ok (.getfield 13, 3) := by decide +kernel
theorem dX6_take_42 : decode cX6_take 42 = .ok (.iload_n 1, 1) := by decide +kernel
theorem dX6_take_43 : decode cX6_take 43 = .ok (.dup2, 1) := by decide +kernel
theorem dX6_take_44 : decode cX6_take 44 = .ok (.iaload, 1) := by decide +kernel
theorem dX6_take_45 : decode cX6_take 45 = .ok (.iconst 1, 1) := by decide +kernel
theorem dX6_take_46 : decode cX6_take 46 = .ok (.isub, 1) := by decide +kernel
theorem dX6_take_47 : decode cX6_take 47 = .ok (.iastore, 1) := by decide +kernel
theorem dX6_take_48 : decode cX6_take 48 = .ok (.iload_n 2, 1) := by decide +kernel
theorem dX6_take_49 : decode cX6_take 49 = .ok (.istore 4, 2) := by decide +kernel
theorem dX6_take_51 : decode cX6_take 51 = .ok (.iload 4, 2) := by decide +kernel
theorem dX6_take_53 : decode cX6_take 53 = .ok (.aload_n 0, 1) := by decide +kernel
theorem dX6_take_54 : decode cX6_take 54 = .ok (.getfield 13, 3) := by decide +kernel
theorem dX6_take_57 : decode cX6_take 57 = .ok (.iload_n 1, 1) := by decide +kernel
theorem dX6_take_58 : decode cX6_take 58 = .ok (.iaload, 1) := by decide +kernel
theorem dX6_take_59 : decode cX6_take 59 = .ok (.if_icmp .ge 35, 3) := by decide +kernel
theorem dX6_take_62 : decode cX6_take 62 = .ok (.aload_n 0, 1) := by decide +kernel
theorem dX6_take_63 : decode cX6_take 63 = .ok (.getfield 7, 3) := by decide +kernel
theorem dX6_take_66 : decode cX6_take 66 = .ok (.bipush 40, 2) := by decide +kernel
theorem dX6_take_68 : decode cX6_take 68 = .ok (.iload_n 1, 1) := by decide +kernel
theorem dX6_take_69 : decode cX6_take 69 = .ok (.imul, 1) := by decide +kernel
theorem dX6_take_70 : decode cX6_take 70 = .ok (.iload 4, 2) := by decide +kernel
theorem dX6_take_72 : decode cX6_take 72 = .ok (.iadd, 1) := by decide +kernel
theorem dX6_take_73 : decode cX6_take 73 = .ok (.aload_n 0, 1) := by decide +kernel
theorem dX6_take_74 : decode cX6_take 74 = .ok (.getfield 7, 3) := by decide +kernel
theorem dX6_take_77 : decode cX6_take 77 = .ok (.bipush 40, 2) := by decide +kernel
theorem dX6_take_79 : decode cX6_take 79 = .ok (.iload_n 1, 1) := by decide +kernel
theorem dX6_take_80 : decode cX6_take 80 = .ok (.imul, 1) := by decide +kernel
theorem dX6_take_81 : decode cX6_take 81 = .ok (.iload 4, 2) := by decide +kernel
theorem dX6_take_83 : decode cX6_take 83 = .ok (.iadd, 1) := by decide +kernel
theorem dX6_take_84 : decode cX6_take 84 = .ok (.iconst 1, 1) := by decide +kernel
theorem dX6_take_85 : decode cX6_take 85 = .ok (.iadd, 1) := by decide +kernel
theorem dX6_take_86 : decode cX6_take 86 = .ok (.iaload, 1) := by decide +kernel
theorem dX6_take_87 : decode cX6_take 87 = .ok (.iastore, 1) := by decide +kernel
theorem dX6_take_88 : decode cX6_take 88 = .ok (.iinc 4 1, 3) := by decide +kernel
theorem dX6_take_91 : decode cX6_take 91 = .ok (.goto (-40), 3) := by decide +kernel
theorem dX6_take_94 : decode cX6_take 94 = .ok (.iload_n 3, 1) := by decide +kernel
theorem dX6_take_95 : decode cX6_take 95 = .ok (.ireturn, 1) := by decide +kernel
theorem dX6_copy_0 : decode cX6_copy 0 = .ok (.iload_n 1, 1) := by decide +kernel
theorem dX6_copy_1 : decode cX6_copy 1 = .ok (.invokestatic 66, 3) := by decide +kernel
theorem dX6_copy_4 : decode cX6_copy 4 = .ok (.ifCond .eq 10, 3) := by decide +kernel
theorem dX6_copy_7 : decode cX6_copy 7 = .ok (.iload_n 2, 1) := by decide +kernel
theorem dX6_copy_8 : decode cX6_copy 8 = .ok (.invokestatic 66, 3) := by decide +kernel
theorem dX6_copy_11 : decode cX6_copy 11 = .ok (.ifCond .ne 6, 3) := by decide +kernel
theorem dX6_copy_14 : decode cX6_copy 14 = .ok (.bipush (-2), 2) := by decide +kernel
theorem dX6_copy_16 : decode cX6_copy 16 = .ok (.ireturn, 1) := by decide +kernel
theorem dX6_copy_17 : decode cX6_copy 17 = .ok (.iconst 0, 1) := by decide +kernel
theorem dX6_copy_18 : decode cX6_copy 18 = .ok (.istore_n 3, 1) := by decide +kernel
theorem dX6_copy_19 : decode cX6_copy 19 = .ok (.iload_n 3, 1) := by decide +kernel
theorem dX6_copy_20 : decode cX6_copy 20 = .ok (.aload_n 0, 1) := by decide +kernel
theorem dX6_copy_21 : decode cX6_copy 21 = .ok (.getfield 13, 3) := by decide +kernel
theorem dX6_copy_24 : decode cX6_copy 24 = .ok (.iload_n 1, 1) := by decide +kernel
theorem dX6_copy_25 : decode cX6_copy 25 = .ok (.iaload, 1) := by decide +kernel
theorem dX6_copy_26 : decode cX6_copy 26 = .ok (.if_icmp .ge 31, 3) := by decide +kernel
theorem dX6_copy_29 : decode cX6_copy 29 = .ok (.aload_n 0, 1) := by decide +kernel
theorem dX6_copy_30 : decode cX6_copy 30 = .ok (.getfield 7, 3) := by decide +kernel
theorem dX6_copy_33 : decode cX6_copy 33 = .ok (.bipush 40, 2) := by decide +kernel
theorem dX6_copy_35 : decode cX6_copy 35 = .ok (.iload_n 2, 1) := by decide +kernel
theorem dX6_copy_36 : decode cX6_copy 36 = .ok (.imul, 1) := by decide +kernel
theorem dX6_copy_37 : decode cX6_copy 37 = .ok (.iload_n 3, 1) := by decide +kernel
theorem dX6_copy_38 : decode cX6_copy 38 = .ok (.iadd, 1) := by decide +kernel
theorem dX6_copy_39 : decode cX6_copy 39 = .ok (.aload_n 0, 1) := by decide +kernel
theorem dX6_copy_40 : decode cX6_copy 40 = .ok (.getfield 7, 3) := by decide +kernel
theorem dX6_copy_43 : decode cX6_copy 43 = .ok (.bipush 40, 2) := by decide +kernel
theorem dX6_copy_45 : decode cX6_copy 45 = .ok (.iload_n 1, 1) := by decide +kernel
theorem dX6_copy_46 : decode cX6_copy 46 = .ok (.imul, 1) := by decide +kernel
theorem dX6_copy_47 : decode cX6_copy 47 = .ok (.iload_n 3, 1) := by decide +kernel
theorem dX6_copy_48 : decode cX6_copy 48 = .ok (.iadd, 1) := by decide +kernel
theorem dX6_copy_49 : decode cX6_copy 49 = .ok (.iaload, 1) := by decide +kernel
theorem dX6_copy_50 : decode cX6_copy 50 = .ok (.iastore, 1) := by decide +kernel
theorem dX6_copy_51 : decode cX6_copy 51 = .ok (.iinc 3 1, 3) := by decide +kernel
theorem dX6_copy_54 : decode cX6_copy 54 = .ok (.goto (-35), 3) := by decide +kernel
theorem dX6_copy_57 : decode cX6_copy 57 = .ok (.aload_n 0, 1) := by decide +kernel
theorem dX6_copy_58 : decode cX6_copy 58 = .ok (.getfield 13, 3) := by decide +kernel
theorem dX6_copy_61 : decode cX6_copy 61 = .ok (.iload_n 2, 1) := by decide +kernel
theorem dX6_copy_62 : decode cX6_copy 62 = .ok (.aload_n 0, 1) := by decide +kernel
theorem dX6_copy_63 : decode cX6_copy 63 = .ok (.getfield 13, 3) := by decide +kernel
theorem dX6_copy_66 : decode cX6_copy 66 = .ok (.iload_n 1, 1) := by decide +kernel
theorem dX6_copy_67 : decode cX6_copy 67 = .ok (.iaload, 1) := by decide +kernel
theorem dX6_copy_68 : decode cX6_copy 68 = .ok (.iastore, 1) := by decide +kernel
theorem dX6_copy_69 : decode cX6_copy 69 = .ok (.aload_n 0, 1) := by decide +kernel
theorem dX6_copy_70 : decode cX6_copy 70 = .ok (.getfield 13, 3) := by decide +kernel
theorem dX6_copy_73 : decode cX6_copy 73 = .ok (.iload_n 2, 1) := by decide +kernel
theorem dX6_copy_74 : decode cX6_copy 74 = .ok (.iaload, 1) := by decide +kernel
theorem dX6_copy_75 : decode cX6_copy 75 = .ok (.ireturn, 1) := by decide +kernel
theorem dX6_lineAt_0 : decode cX6_lineAt 0 = .ok (.iload_n 1, 1) := by decide +kernel
theorem dX6_lineAt_1 : decode cX6_lineAt 1 = .ok (.invokestatic 66, 3) := by decide +kernel
theorem dX6_lineAt_4 : decode cX6_lineAt 4 = .ok (.ifCond .ne 6, 3) := by decide +kernel
theorem dX6_lineAt_7 : decode cX6_lineAt 7 = .ok (.bipush (-2), 2) := by decide +kernel
theorem dX6_lineAt_9 : decode cX6_lineAt 9 = .ok (.ireturn, 1) := by decide +kernel
theorem dX6_lineAt_10 : decode cX6_lineAt 10 = .ok (.iload_n 2, 1) := by decide +kernel
theorem dX6_lineAt_11 : decode cX6_lineAt 11 = .ok (.iconst 0, 1) := by decide +kernel
theorem dX6_lineAt_12 : decode cX6_lineAt 12 = .ok (.aload_n 0, 1) := by decide +kernel
theorem dX6_lineAt_13 : decode cX6_lineAt 13 = .ok (.getfield 13, 3) := by decide +kernel
theorem dX6_lineAt_16 : decode cX6_lineAt 16 = .ok (.iload_n 1, 1) := by decide +kernel
theorem dX6_lineAt_17 : decode cX6_lineAt 17 = .ok (.iaload, 1) := by decide +kernel
theorem dX6_lineAt_18 : decode cX6_lineAt 18 = .ok (.iconst 1, 1) := by decide +kernel
theorem dX6_lineAt_19 : decode cX6_lineAt 19 = .ok (.isub, 1) := by decide +kernel
theorem dX6_lineAt_20 : decode cX6_lineAt 20 = .ok (.invokestatic 62, 3) := by decide +kernel
theorem dX6_lineAt_23 : decode cX6_lineAt 23 = .ok (.ifCond .eq 17, 3) := by decide +kernel
theorem dX6_lineAt_26 : decode cX6_lineAt 26 = .ok (.aload_n 0, 1) := by decide +kernel
theorem dX6_lineAt_27 : decode cX6_lineAt 27 = .ok (.getfield 7, 3) := by decide +kernel
theorem dX6_lineAt_30 : decode cX6_lineAt 30 = .ok (.bipush 40, 2) := by decide +kernel
theorem dX6_lineAt_32 : decode cX6_lineAt 32 = .ok (.iload_n 1, 1) := by decide +kernel
theorem dX6_lineAt_33 : decode cX6_lineAt 33 = .ok (.imul, 1) := by decide +kernel
theorem dX6_lineAt_34 : decode cX6_lineAt 34 = .ok (.iload_n 2, 1) := by decide +kernel
theorem dX6_lineAt_35 : decode cX6_lineAt 35 = .ok (.iadd, 1) := by decide +kernel
theorem dX6_lineAt_36 : decode cX6_lineAt 36 = .ok (.iaload, 1) := by decide +kernel
theorem dX6_lineAt_37 : decode cX6_lineAt 37 = .ok (.goto 4, 3) := by decide +kernel
theorem dX6_lineAt_40 : decode cX6_lineAt 40 = .ok (.iconst (-1), 1) := by decide +kernel
theorem dX6_lineAt_41 : decode cX6_lineAt 41 = .ok (.ireturn, 1) := by decide +kernel
theorem dX6_isAlike_0 : decode cX6_isAlike 0 = .ok (.iload_n 2, 1) := by decide +kernel
theorem dX6_isAlike_1 : decode cX6_isAlike 1 = .ok (.aload_n 0, 1) := by decide +kernel
theorem dX6_isAlike_2 : decode cX6_isAlike 2 = .ok (.getfield 13, 3) := by decide +kernel
theorem dX6_isAlike_5 : decode cX6_isAlike 5 = .ok (.iload_n 1, 1) := by decide +kernel
theorem dX6_isAlike_6 : decode cX6_isAlike 6 = .ok (.iaload, 1) := by decide +kernel
theorem dX6_isAlike_7 : decode cX6_isAlike 7 = .ok (.if_icmp .ge 44, 3) := by decide +kernel
theorem dX6_isAlike_10 : decode cX6_isAlike 10 = .ok (.iload 4, 2) := by decide +kernel
theorem dX6_isAlike_12 : decode cX6_isAlike 12 = .ok (.aload_n 0, 1) := by decide +kernel
theorem dX6_isAlike_13 : decode cX6_isAlike 13 = .ok (.getfield 13, 3) := by decide +kernel
theorem dX6_isAlike_16 : decode cX6_isAlike 16 = .ok (.iload_n 3, 1) := by decide +kernel
theorem dX6_isAlike_17 : decode cX6_isAlike 17 = .ok (.iaload, 1) := by decide +kernel
theorem dX6_isAlike_18 : decode cX6_isAlike 18 = .ok (.if_icmp .ge 33, 3) := by decide +kernel
theorem dX6_isAlike_21 : decode cX6_isAlike 21 = .ok (.aload_n 0, 1) := by decide +kernel
theorem dX6_isAlike_22 : decode cX6_isAlike 22 = .ok (.getfield 7, 3) := by decide +kernel
theorem dX6_isAlike_25 : decode cX6_isAlike 25 = .ok (.bipush 40, 2) := by decide +kernel
theorem dX6_isAlike_27 : decode cX6_isAlike 27 = .ok (.iload_n 1, 1) := by decide +kernel
theorem dX6_isAlike_28 : decode cX6_isAlike 28 = .ok (.imul, 1) := by decide +kernel
theorem dX6_isAlike_29 : decode cX6_isAlike 29 = .ok (.iload_n 2, 1) := by decide +kernel
theorem dX6_isAlike_30 : decode cX6_isAlike 30 = .ok (.iadd, 1) := by decide +kernel
theorem dX6_isAlike_31 : decode cX6_isAlike 31 = .ok (.iaload, 1) := by decide +kernel
theorem dX6_isAlike_32 : decode cX6_isAlike 32 = .ok (.aload_n 0, 1) := by decide +kernel
theorem dX6_isAlike_33 : decode cX6_isAlike 33 = .ok (.getfield 7, 3) := by decide +kernel
theorem dX6_isAlike_36 : decode cX6_isAlike 36 = .ok (.bipush 40, 2) := by decide +kernel
theorem dX6_isAlike_38 : decode cX6_isAlike 38 = .ok (.iload_n 3, 1) := by decide +kernel
theorem dX6_isAlike_39 : decode cX6_isAlike 39 = .ok (.imul, 1) := by decide +kernel
theorem dX6_isAlike_40 : decode cX6_isAlike 40 = .ok (.iload 4, 2) := by decide +kernel
theorem dX6_isAlike_42 : decode cX6_isAlike 42 = .ok (.iadd, 1) := by decide +kernel
theorem dX6_isAlike_43 : decode cX6_isAlike 43 = .ok (.iaload, 1) := by decide +kernel
theorem dX6_isAlike_44 : decode cX6_isAlike 44 = .ok (.if_icmp .ne 7, 3) := by decide +kernel
theorem dX6_isAlike_47 : decode cX6_isAlike 47 = .ok (.iconst 1, 1) := by decide +kernel
theorem dX6_isAlike_48 : decode cX6_isAlike 48 = .ok (.goto 4, 3) := by decide +kernel
theorem dX6_isAlike_51 : decode cX6_isAlike 51 = .ok (.iconst 0, 1) := by decide +kernel
theorem dX6_isAlike_52 : decode cX6_isAlike 52 = .ok (.ireturn, 1) := by decide +kernel
end
section
theorem dX6_findFew_0 : decode cX6_findFew 0 = .ok (.aload_n 0, 1) := by decide +kernel
theorem dX6_findFew_1 : decode cX6_findFew 1 = .ok (.getfield 13, 3) := by decide +kernel
theorem dX6_findFew_4 : decode cX6_findFew 4 = .ok (.iload_n 1, 1) := by decide +kernel
theorem dX6_findFew_5 : decode cX6_findFew 5 = .ok (.iaload, 1) := by decide +kernel
theorem dX6_findFew_6 : decode cX6_findFew 6 = .ok (.istore_n 3, 1) := by decide +kernel
theorem dX6_findFew_7 : decode cX6_findFew 7 = .ok (.iload_n 3, 1) := by decide +kernel
theorem dX6_findFew_8 : decode cX6_findFew 8 = .ok (.ifCond .lt 222, 3) := by decide +kernel
theorem dX6_findFew_11 : decode cX6_findFew 11 = .ok (.aload_n 0, 1) := by decide +kernel
theorem dX6_findFew_12 : decode cX6_findFew 12 = .ok (.getfield 13, 3) := by decide +kernel
theorem dX6_findFew_15 : decode cX6_findFew 15 = .ok (.iload_n 2, 1) := by decide +kernel
theorem dX6_findFew_16 : decode cX6_findFew 16 = .ok (.iaload, 1) := by decide +kernel
theorem dX6_findFew_17 : decode cX6_findFew 17 = .ok (.istore 4, 2) := by decide +kernel
theorem dX6_findFew_19 : decode cX6_findFew 19 = .ok (.iload 4, 2) := by decide +kernel
theorem dX6_findFew_21 : decode cX6_findFew 21 = .ok (.ifCond .lt 203, 3) := by decide +kernel
theorem dX6_findFew_24 : decode cX6_findFew 24 = .ok (.iload_n 3, 1) := by decide +kernel
theorem dX6_findFew_25 : decode cX6_findFew 25 = .ok (.aload_n 0, 1) := by decide +kernel
theorem dX6_findFew_26 : decode cX6_findFew 26 = .ok (.getfield 13, 3) := by decide +kernel
theorem dX6_findFew_29 : decode cX6_findFew 29 = .ok (.iload_n 1, 1) := by decide +kernel
theorem dX6_findFew_30 : decode cX6_findFew 30 = .ok (.iaload, 1) := by decide +kernel
theorem dX6_findFew_31 : decode cX6_findFew 31 = .ok (.if_icmp .ne 18, 3) := by decide +kernel
theorem dX6_findFew_34 : decode cX6_findFew 34 = .ok (.iload 4, 2) := by decide +kernel
theorem dX6_findFew_36 : decode cX6_findFew 36 = .ok (.aload_n 0, 1) := by decide +kernel
theorem dX6_findFew_37 : decode cX6_findFew 37 = .ok (.getfield 13, 3) := by decide +kernel
theorem dX6_findFew_40 : decode cX6_findFew 40 = .ok (.iload_n 2, 1) := by decide +kernel
theorem dX6_findFew_41 : decode cX6_findFew 41 = .ok (.iaload, 1) := by decide +kernel
theorem dX6_findFew_42 : decode cX6_findFew 42 = .ok (.if_icmp .ne 7, 3) := by decide +kernel
theorem dX6_findFew_45 : decode cX6_findFew 45 = .ok (.iconst 0, 1) := by decide +kernel
theorem dX6_findFew_46 : decode cX6_findFew 46 = .ok (.goto 6, 3) := by decide +kernel
theorem dX6_findFew_49 : decode cX6_findFew 49 = .ok (.sipush 1000, 3) := by decide +kernel
theorem dX6_findFew_52 : decode cX6_findFew 52 = .ok (.istore 5, 2) := by decide +kernel
theorem dX6_findFew_54 : decode cX6_findFew 54 = .ok (.iload_n 3, 1) := by decide +kernel
theorem dX6_findFew_55 : decode cX6_findFew 55 = .ok (.aload_n 0, 1) := by decide +kernel
theorem dX6_findFew_56 : decode cX6_findFew 56 = .ok (.getfield 13, 3) := by decide +kernel
theorem dX6_findFew_59 : decode cX6_findFew 59 = .ok (.iload_n 1, 1) := by decide +kernel
theorem dX6_findFew_60 : decode cX6_findFew 60 = .ok (.iaload, 1) := by decide +kernel
theorem dX6_findFew_61 : decode cX6_findFew 61 = .ok (.if_icmp .ge 42, 3) := by decide +kernel
theorem dX6_findFew_64 : decode cX6_findFew 64 = .ok (.aload_n 0, 1) := by decide +kernel
theorem dX6_findFew_65 : decode cX6_findFew 65 = .ok (.getfield 46, 3) := by decide +kernel
theorem dX6_findFew_68 : decode cX6_findFew 68 = .ok (.bipush 41, 2) := by decide +kernel
theorem dX6_findFew_70 : decode cX6_findFew 70 = .ok (.iload_n 3, 1) := by decide +kernel
theorem dX6_findFew_71 : decode cX6_findFew 71 = .ok (.iconst 1, 1) := by decide +kernel
theorem dX6_findFew_72 : decode cX6_findFew 72 = .ok (.iadd, 1) := by decide +kernel
theorem dX6_findFew_73 : decode cX6_findFew 73 = .ok (.imul, 1) := by decide +kernel
theorem dX6_findFew_74 : decode cX6_findFew 74 = .ok (.iload 4, 2) := by decide +kernel
theorem dX6_findFew_76 : decode cX6_findFew 76 = .ok (.iadd, 1) := by decide +kernel
theorem dX6_findFew_77 : decode cX6_findFew 77 = .ok (.iaload, 1) := by decide +kernel
theorem dX6_findFew_78 : decode cX6_findFew 78 = .ok (.iconst 1, 1) := by decide +kernel
theorem dX6_findFew_79 : decode cX6_findFew 79 = .ok (.iadd, 1) := by decide +kernel
theorem dX6_findFew_80 : decode cX6_findFew 80 = .ok (.iload 5, 2) := by decide +kernel
theorem dX6_findFew_82 : decode cX6_findFew 82 = .ok (.if_icmp .ge 21, 3) := by decide +kernel
theorem dX6_findFew_85 : decode cX6_findFew 85 = .ok (.aload_n 0, 1) := by decide +kernel
theorem dX6_findFew_86 : decode cX6_findFew 86 = .ok (.getfield 46, 3) := by decide +kernel
theorem dX6_findFew_89 : decode cX6_findFew 89 = .ok (.bipush 41, 2) := by decide +kernel
theorem dX6_findFew_91 : decode cX6_findFew 91 = .ok (.iload_n 3, 1) := by decide +kernel
theorem dX6_findFew_92 : decode cX6_findFew 92 = .ok (.iconst 1, 1) := by decide +kernel
theorem dX6_findFew_93 : decode cX6_findFew 93 = .ok (.iadd, 1) := by decide +kernel
theorem dX6_findFew_94 : decode cX6_findFew 94 = .ok (.imul, 1) := by decide +kernel
theorem dX6_findFew_95 : decode cX6_findFew 95 = .ok (.iload 4, 2) := by decide +kernel
theorem dX6_findFew_97 : decode cX6_findFew 97 = .ok (.iadd, 1) := by decide +kernel
theorem dX6_findFew_98 : decode cX6_findFew 98 = .ok (.iaload, 1) := by decide +kernel
theorem dX6_findFew_99 : decode cX6_findFew 99 = .ok (.iconst 1, 1) := by decide +kernel
theorem dX6_findFew_100 : decode cX6_findFew 100 = .ok (.iadd, 1) := by decide +kernel
theorem dX6_findFew_101 : decode cX6_findFew 101 = .ok (.istore 5, 2) := by decide +kernel
theorem dX6_findFew_103 : decode cX6_findFew 103 = .ok (.iload 4, 2) := by decide +kernel
theorem dX6_findFew_105 : decode cX6_findFew 105 = .ok (.aload_n 0, 1) := by decide +kernel
theorem dX6_findFew_106 : decode cX6_findFew 106 = .ok (.getfield 13, 3) := by decide +kernel
theorem dX6_findFew_109 : decode cX6_findFew 109 = .ok (.iload_n 2, 1) := by decide +kernel
theorem dX6_findFew_110 : decode cX6_findFew 110 = .ok (.iaload, 1) := by decide +kernel
theorem dX6_findFew_111 : decode cX6_findFew 111 = .ok (.if_icmp .ge 42, 3) := by decide +kernel
theorem dX6_findFew_114 : decode cX6_findFew 114 = .ok (.aload_n 0, 1) := by decide +kernel
theorem dX6_findFew_115 : decode cX6_findFew 115 = .ok (.getfield 46, 3) := by decide +kernel
theorem dX6_findFew_118 : decode cX6_findFew 118 = .ok (.bipush 41, 2) := by decide +kernel
theorem dX6_findFew_120 : decode cX6_findFew 120 = .ok (.iload_n 3, 1) := by decide +kernel
theorem dX6_findFew_121 : decode cX6_findFew 121 = .ok (.imul, 1) := by decide +kernel
theorem dX6_findFew_122 : decode cX6_findFew 122 = .ok (.iload 4, 2) := by decide +kernel
theorem dX6_findFew_124 : decode cX6_findFew 124 = .ok (.iadd, 1) := by decide +kernel
theorem dX6_findFew_125 : decode cX6_findFew 125 = .ok (.iconst 1, 1) := by decide +kernel
theorem dX6_findFew_126 : decode cX6_findFew 126 = .ok (.iadd, 1) := by decide +kernel
theorem dX6_findFew_127 : decode cX6_findFew 127 = .ok (.iaload, 1) := by decide +kernel
theorem dX6_findFew_128 : decode cX6_findFew 128 = .ok (.iconst 1, 1) := by decide +kernel
theorem dX6_findFew_129 : decode cX6_findFew 129 = .ok (.iadd, 1) := by decide +kernel
theorem dX6_findFew_130 : decode cX6_findFew 130 = .ok (.iload 5, 2) := by decide +kernel
theorem dX6_findFew_132 : decode cX6_findFew 132 = .ok (.if_icmp .ge 21, 3) := by decide +kernel
theorem dX6_findFew_135 : decode cX6_findFew 135 = .ok (.aload_n 0, 1) := by decide +kernel
theorem dX6_findFew_136 : decode cX6_findFew 136 = .ok (.getfield 46, 3) := by decide +kernel
theorem dX6_findFew_139 : decode cX6_findFew 139 = .ok (.bipush 41, 2) := by decide +kernel
theorem dX6_findFew_141 : decode cX6_findFew 141 = .ok (.iload_n 3, 1) := by decide +kernel
theorem dX6_findFew_142 : decode cX6_findFew 142 = .ok (.imul, 1) := by decide +kernel
theorem dX6_findFew_143 : decode cX6_findFew 143 = .ok (.iload 4, 2) := by decide +kernel
theorem dX6_findFew_145 : decode cX6_findFew 145 = .ok (.iadd, 1) := by decide +kernel
theorem dX6_findFew_146 : decode cX6_findFew 146 = .ok (.iconst 1, 1) := by decide +kernel
theorem dX6_findFew_147 : decode cX6_findFew 147 = .ok (.iadd, 1) := by decide +kernel
theorem dX6_findFew_148 : decode cX6_findFew 148 = .ok (.iaload, 1) := by decide +kernel
theorem dX6_findFew_149 : decode cX6_findFew 149 = .ok (.iconst 1, 1) := by decide +kernel
theorem dX6_findFew_150 : decode cX6_findFew 150 = .ok (.iadd, 1) := by decide +kernel
theorem dX6_findFew_151 : decode cX6_findFew 151 = .ok (.istore 5, 2) := by decide +kernel
theorem dX6_findFew_153 : decode cX6_findFew 153 = .ok (.aload_n 0, 1) := by decide +kernel
theorem dX6_findFew_154 : decode cX6_findFew 154 = .ok (.iload_n 1, 1) := by decide +kernel
theorem dX6_findFew_155 : decode cX6_findFew 155 = .ok (.iload_n 3, 1) := by decide +kernel
theorem dX6_findFew_156 : decode cX6_findFew 156 = .ok (.iload_n 2, 1) := by decide +kernel
theorem dX6_findFew_157 : decode cX6_findFew 157 = .ok (.iload 4, 2) := by decide +kernel
theorem dX6_findFew_159 : decode cX6_findFew 159 = .ok (.invokevirtual 73, 3) := by decide +kernel
theorem dX6_findFew_162 : decode cX6_findFew 162 = .ok (.ifCond .eq 42, 3) := by decide +kernel
theorem dX6_findFew_165 : decode cX6_findFew 165 = .ok (.aload_n 0, 1) := by decide +kernel
theorem dX6_findFew_166 : decode cX6_findFew 166 = .ok (.getfield 46, 3) := by decide +kernel
theorem dX6_findFew_169 : decode cX6_findFew 169 = .ok (.bipush 41, 2) := by decide +kernel
theorem dX6_findFew_171 : decode cX6_findFew 171 = .ok (.iload_n 3, 1) := by decide +kernel
theorem dX6_findFew_172 : decode cX6_findFew 172 = .ok (.iconst 1, 1) := by decide +kernel
theorem dX6_findFew_173 : decode cX6_findFew 173 = .ok (.iadd, 1) := by decide +kernel
theorem dX6_findFew_174 : decode cX6_findFew 174 = .ok (.imul, 1) := by decide +kernel
theorem dX6_findFew_175 : decode cX6_findFew 175 = .ok (.iload 4, 2) := by decide +kernel
theorem dX6_findFew_177 : decode cX6_findFew 177 = .ok (.iadd, 1) := by decide +kernel
theorem dX6_findFew_178 : decode cX6_findFew 178 = .ok (.iconst 1, 1) := by decide +kernel
theorem dX6_findFew_179 : decode cX6_findFew 179 = .ok (.iadd, 1) := by decide +kernel
theorem dX6_findFew_180 : decode cX6_findFew 180 = .ok (.iaload, 1) := by decide +kernel
theorem dX6_findFew_181 : decode cX6_findFew 181 = .ok (.iload 5, 2) := by decide +kernel
theorem dX6_findFew_183 : decode cX6_findFew 183 = .ok (.if_icmp .ge 21, 3) := by decide +kernel
theorem dX6_findFew_186 : decode cX6_findFew 186 = .ok (.aload_n 0, 1) := by decide +kernel
theorem dX6_findFew_187 : decode cX6_findFew 187 = .ok (.getfield 46, 3) := by decide +kernel
theorem dX6_findFew_190 : decode cX6_findFew 190 = .ok (.bipush 41, 2) := by decide +kernel
theorem dX6_findFew_192 : decode cX6_findFew 192 = .ok (.iload_n 3, 1) := by decide +kernel
theorem dX6_findFew_193 : decode cX6_findFew 193 = .ok (.iconst 1, 1) := by decide +kernel
theorem dX6_findFew_194 : decode cX6_findFew 194 = .ok (.iadd, 1) := by decide +kernel
theorem dX6_findFew_195 : decode cX6_findFew 195 = .ok (.imul, 1) := by decide +kernel
theorem dX6_findFew_196 : decode cX6_findFew 196 = .ok (.iload 4, 2) := by decide +kernel
theorem dX6_findFew_198 : decode cX6_findFew 198 = .ok (.iadd, 1) := by decide +kernel
theorem dX6_findFew_199 : decode cX6_findFew 199 = .ok (.iconst 1, 1) := by decide +kernel
theorem dX6_findFew_200 : decode cX6_findFew 200 = .ok (.iadd, 1) := by decide +kernel
theorem dX6_findFew_201 : decode cX6_findFew 201 = .ok (.iaload, 1) := by decide +kernel
theorem dX6_findFew_202 : decode cX6_findFew 202 = .ok (.istore 5, 2) := by decide +kernel
theorem dX6_findFew_204 : decode cX6_findFew 204 = .ok (.aload_n 0, 1) := by decide +kernel
theorem dX6_findFew_205 : decode cX6_findFew 205 = .ok (.getfield 46, 3) := by decide +kernel
theorem dX6_findFew_208 : decode cX6_findFew 208 = .ok (.bipush 41, 2) := by decide +kernel
theorem dX6_findFew_210 : decode cX6_findFew 210 = .ok (.iload_n 3, 1) := by decide +kernel
theorem dX6_findFew_211 : decode cX6_findFew 211 = .ok (.imul, 1) := by decide +kernel
theorem dX6_findFew_212 : decode cX6_findFew 212 = .ok (.iload 4, 2) := by decide +kernel
theorem dX6_findFew_214 : decode cX6_findFew 214 = .ok (.iadd, 1) := by decide +kernel
theorem dX6_findFew_215 : decode cX6_findFew 215 = .ok (.iload 5, 2) := by decide +kernel
theorem dX6_findFew_217 : decode cX6_findFew 217 = .ok (.iastore, 1) := by decide +kernel
theorem dX6_findFew_218 : decode cX6_findFew 218 = .ok (.iinc 4 (-1), 3) := by decide +kernel
theorem dX6_findFew_221 : decode cX6_findFew 221 = .ok (.goto (-202), 3) := by decide +kernel
theorem dX6_findFew_224 : decode cX6_findFew 224 = .ok (.iinc 3 (-1), 3) := by decide +kernel
theorem dX6_findFew_227 : decode cX6_findFew 227 = .ok (.goto (-220), 3) := by decide +kernel
theorem dX6_findFew_230 : decode cX6_findFew 230 = .ok (.aload_n 0, 1) := by decide +kernel
theorem dX6_findFew_231 : decode cX6_findFew 231 = .ok (.getfield 46, 3) := by decide +kernel
theorem dX6_findFew_234 : decode cX6_findFew 234 = .ok (.iconst 0, 1) := by decide +kernel
theorem dX6_findFew_235 : decode cX6_findFew 235 = .ok (.iaload, 1) := by decide +kernel
theorem dX6_findFew_236 : decode cX6_findFew 236 = .ok (.ireturn, 1) := by decide +kernel
theorem dX6_differ_0 : decode cX6_differ 0 = .ok (.iload_n 1, 1) := by decide +kernel
theorem dX6_differ_1 : decode cX6_differ 1 = .ok (.invokestatic 66, 3) := by decide +kernel
theorem dX6_differ_4 : decode cX6_differ 4 = .ok (.ifCond .eq 19, 3) := by decide +kernel
theorem dX6_differ_7 : decode cX6_differ 7 = .ok (.iload_n 2, 1) := by decide +kernel
theorem dX6_differ_8 : decode cX6_differ 8 = .ok (.invokestatic 66, 3) := by decide +kernel
theorem dX6_differ_11 : decode cX6_differ 11 = .ok (.ifCond .eq 12, 3) := by decide +kernel
theorem dX6_differ_14 : decode cX6_differ 14 = .ok (.aload_n 0, 1) := by decide +kernel
theorem dX6_differ_15 : decode cX6_differ 15 = .ok (.iload_n 1, 1) := by decide +kernel
theorem dX6_differ_16 : decode cX6_differ 16 = .ok (.iload_n 2, 1) := by decide +kernel
theorem dX6_differ_17 : decode cX6_differ 17 = .ok (.invokevirtual 77, 3) := by decide +kernel
theorem dX6_differ_20 : decode cX6_differ 20 = .ok (.goto 5, 3) := by decide +kernel
theorem dX6_differ_23 : decode cX6_differ 23 = .ok (.bipush (-2), 2) := by decide +kernel
theorem dX6_differ_25 : decode cX6_differ 25 = .ok (.ireturn, 1) := by decide +kernel
theorem dX6_step_0 : decode cX6_step 0 = .ok (.iload_n 1, 1) := by decide +kernel
theorem dX6_step_1 : decode cX6_step 1 = .ok (.invokestatic 66, 3) := by decide +kernel
theorem dX6_step_4 : decode cX6_step 4 = .ok (.ifCond .eq 10, 3) := by decide +kernel
theorem dX6_step_7 : decode cX6_step 7 = .ok (.iload_n 2, 1) := by decide +kernel
theorem dX6_step_8 : decode cX6_step 8 = .ok (.invokestatic 66, 3) := by decide +kernel
theorem dX6_step_11 : decode cX6_step 11 = .ok (.ifCond .ne 6, 3) := by decide +kernel
theorem dX6_step_14 : decode cX6_step 14 = .ok (.bipush (-2), 2) := by decide +kernel
theorem dX6_step_16 : decode cX6_step 16 = .ok (.ireturn, 1) := by decide +kernel
theorem dX6_step_17 : decode cX6_step 17 = .ok (.aload_n 0, 1) := by decide +kernel
theorem dX6_step_18 : decode cX6_step 18 = .ok (.iload_n 1, 1) := by decide +kernel
theorem dX6_step_19 : decode cX6_step 19 = .ok (.iload_n 2, 1) := by decide +kernel
theorem dX6_step_20 : decode cX6_step 20 = .ok (.invokevirtual 77, 3) := by decide +kernel
theorem dX6_step_23 : decode cX6_step 23 = .ok (.istore 4, 2) := by decide +kernel
theorem dX6_step_25 : decode cX6_step 25 = .ok (.iconst 0, 1) := by decide +kernel
theorem dX6_step_26 : decode cX6_step 26 = .ok (.istore 5, 2) := by decide +kernel
theorem dX6_step_28 : decode cX6_step 28 = .ok (.iconst 0, 1) := by decide +kernel
theorem dX6_step_29 : decode cX6_step 29 = .ok (.istore 6, 2) := by decide +kernel
theorem dX6_step_31 : decode cX6_step 31 = .ok (.iconst 0, 1) := by decide +kernel
theorem dX6_step_32 : decode cX6_step 32 = .ok (.istore 7, 2) := by decide +kernel
theorem dX6_step_34 : decode cX6_step 34 = .ok (.iload 5, 2) := by decide +kernel
theorem dX6_step_36 : decode cX6_step 36 = .ok (.aload_n 0, 1) := by decide +kernel
theorem dX6_step_37 : decode cX6_step 37 = .ok (.getfield 13, 3) := by decide +kernel
theorem dX6_step_40 : decode cX6_step 40 = .ok (.iload_n 1, 1) := by decide +kernel
theorem dX6_step_41 : decode cX6_step 41 = .ok (.iaload, 1) := by decide +kernel
theorem dX6_step_42 : decode cX6_step 42 = .ok (.if_icmp .lt 14, 3) := by decide +kernel
theorem dX6_step_45 : decode cX6_step 45 = .ok (.iload 6, 2) := by decide +kernel
theorem dX6_step_47 : decode cX6_step 47 = .ok (.aload_n 0, 1) := by decide +kernel
theorem dX6_step_48 : decode cX6_step 48 = .ok (.getfield 13, 3) := by decide +kernel
theorem dX6_step_51 : decode cX6_step 51 = .ok (.iload_n 2, 1) := by decide +kernel
theorem dX6_step_52 : decode cX6_step 52 = .ok (.iaload, 1) := by decide +kernel
theorem dX6_step_53 : decode cX6_step 53 = .ok (.if_icmp .ge 144, 3) := by decide +kernel
theorem dX6_step_56 : decode cX6_step 56 = .ok (.aload_n 0, 1) := by decide +kernel
theorem dX6_step_57 : decode cX6_step 57 = .ok (.iload_n 1, 1) := by decide +kernel
theorem dX6_step_58 : decode cX6_step 58 = .ok (.iload 5, 2) := by decide +kernel
theorem dX6_step_60 : decode cX6_step 60 = .ok (.iload_n 2, 1) := by decide +kernel
theorem dX6_step_61 : decode cX6_step 61 = .ok (.iload 6, 2) := by decide +kernel
theorem dX6_step_63 : decode cX6_step 63 = .ok (.invokevirtual 73, 3) := by decide +kernel
theorem dX6_step_66 : decode cX6_step 66 = .ok (.ifCond .eq 29, 3) := by decide +kernel
theorem dX6_step_69 : decode cX6_step 69 = .ok (.aload_n 0, 1) := by decide +kernel
theorem dX6_step_70 : decode cX6_step 70 = .ok (.getfield 46, 3) := by decide +kernel
theorem dX6_step_73 : decode cX6_step 73 = .ok (.bipush 41, 2) := by decide +kernel
theorem dX6_step_75 : decode cX6_step 75 = .ok (.iload 5, 2) := by decide +kernel
theorem dX6_step_77 : decode cX6_step 77 = .ok (.iconst 1, 1) := by decide +kernel
theorem dX6_step_78 : decode cX6_step 78 = .ok (.iadd, 1) := by decide +kernel
theorem dX6_step_79 : decode cX6_step 79 = .ok (.imul, 1) := by decide +kernel
theorem dX6_step_80 : decode cX6_step 80 = .ok (.iload 6, 2) := by decide +kernel
theorem dX6_step_82 : decode cX6_step 82 = .ok (.iadd, 1) := by decide +kernel
theorem dX6_step_83 : decode cX6_step 83 = .ok (.iconst 1, 1) := by decide +kernel
theorem dX6_step_84 : decode cX6_step 84 = .ok (.iadd, 1) := by decide +kernel
theorem dX6_step_85 : decode cX6_step 85 = .ok (.iaload, 1) := by decide +kernel
theorem dX6_step_86 : decode cX6_step 86 = .ok (.iload 4, 2) := by decide +kernel
theorem dX6_step_88 : decode cX6_step 88 = .ok (.if_icmp .ne 7, 3) := by decide +kernel
theorem dX6_step_91 : decode cX6_step 91 = .ok (.iconst 0, 1) := by decide +kernel
theorem dX6_step_92 : decode cX6_step 92 = .ok (.goto 41, 3) := by decide +kernel
theorem dX6_step_95 : decode cX6_step 95 = .ok (.iload 5, 2) := by decide +kernel
theorem dX6_step_97 : decode cX6_step 97 = .ok (.aload_n 0, 1) := by decide +kernel
theorem dX6_step_98 : decode cX6_step 98 = .ok (.getfield 13, 3) := by decide +kernel
theorem dX6_step_101 : decode cX6_step 101 = .ok (.iload_n 1, 1) := by decide +kernel
theorem dX6_step_102 : decode cX6_step 102 = .ok (.iaload, 1) := by decide +kernel
theorem dX6_step_103 : decode cX6_step 103 = .ok (.if_icmp .ge 29, 3) := by decide +kernel
theorem dX6_step_106 : decode cX6_step 106 = .ok (.aload_n 0, 1) := by decide +kernel
theorem dX6_step_107 : decode cX6_step 107 = .ok (.getfield 46, 3) := by decide +kernel
theorem dX6_step_110 : decode cX6_step 110 = .ok (.bipush 41, 2) := by decide +kernel
theorem dX6_step_112 : decode cX6_step 112 = .ok (.iload 5, 2) := by decide +kernel
theorem dX6_step_114 : decode cX6_step 114 = .ok (.iconst 1, 1) := by decide +kernel
theorem dX6_step_115 : decode cX6_step 115 = .ok (.iadd, 1) := by decide +kernel
theorem dX6_step_116 : decode cX6_step 116 = .ok (.imul, 1) := by decide +kernel
theorem dX6_step_117 : decode cX6_step 117 = .ok (.iload 6, 2) := by decide +kernel
theorem dX6_step_119 : decode cX6_step 119 = .ok (.iadd, 1) := by decide +kernel
theorem dX6_step_120 : decode cX6_step 120 = .ok (.iaload, 1) := by decide +kernel
theorem dX6_step_121 : decode cX6_step 121 = .ok (.iconst 1, 1) := by decide +kernel
theorem dX6_step_122 : decode cX6_step 122 = .ok (.iadd, 1) := by decide +kernel
theorem dX6_step_123 : decode cX6_step 123 = .ok (.iload 4, 2) := by decide +kernel
theorem dX6_step_125 : decode cX6_step 125 = .ok (.if_icmp .ne 7, 3) := by decide +kernel
theorem dX6_step_128 : decode cX6_step 128 = .ok (.iconst 1, 1) := by decide +kernel
theorem dX6_step_129 : decode cX6_step 129 = .ok (.goto 4, 3) := by decide +kernel
theorem dX6_step_132 : decode cX6_step 132 = .ok (.iconst 2, 1) := by decide +kernel
theorem dX6_step_133 : decode cX6_step 133 = .ok (.istore 8, 2) := by decide +kernel
theorem dX6_step_135 : decode cX6_step 135 = .ok (.iload 7, 2) := by decide +kernel
theorem dX6_step_137 : decode cX6_step 137 = .ok (.iload_n 3, 1) := by decide +kernel
theorem dX6_step_138 : decode cX6_step 138 = .ok (.if_icmp .ne 6, 3) := by decide +kernel
theorem dX6_step_141 : decode cX6_step 141 = .ok (.iload 8, 2) := by decide +kernel
theorem dX6_step_143 : decode cX6_step 143 = .ok (.ireturn, 1) := by decide +kernel
theorem dX6_step_144 : decode cX6_step 144 = .ok (.iload 5, 2) := by decide +kernel
theorem dX6_step_146 : decode cX6_step 146 = .ok (.iload 8, 2) := by decide +kernel
theorem dX6_step_148 : decode cX6_step 148 = .ok (.iconst 2, 1) := by decide +kernel
theorem dX6_step_149 : decode cX6_step 149 = .ok (.if_icmp .ne 7, 3) := by decide +kernel
theorem dX6_step_152 : decode cX6_step 152 = .ok (.iconst 0, 1) := by decide +kernel
theorem dX6_step_153 : decode cX6_step 153 = .ok (.goto 4, 3) := by decide +kernel
theorem dX6_step_156 : decode cX6_step 156 = .ok (.iconst 1, 1) := by decide +kernel
theorem dX6_step_157 : decode cX6_step 157 = .ok (.iadd, 1) := by decide +kernel
theorem dX6_step_158 : decode cX6_step 158 = .ok (.istore 5, 2) := by decide +kernel
theorem dX6_step_160 : decode cX6_step 160 = .ok (.iload 6, 2) := by decide +kernel
theorem dX6_step_162 : decode cX6_step 162 = .ok (.iload 8, 2) := by decide +kernel
theorem dX6_step_164 : decode cX6_step 164 = .ok (.iconst 1, 1) := by decide +kernel
theorem dX6_step_165 : decode cX6_step 165 = .ok (.if_icmp .ne 7, 3) := by decide +kernel
theorem dX6_step_168 : decode cX6_step 168 = .ok (.iconst 0, 1) := by decide +kernel
theorem dX6_step_169 : decode cX6_step 169 = .ok (.goto 4, 3) := by decide +kernel
theorem dX6_step_172 : decode cX6_step 172 = .ok (.iconst 1, 1) := by decide +kernel
theorem dX6_step_173 : decode cX6_step 173 = .ok (.iadd, 1) := by decide +kernel
theorem dX6_step_174 : decode cX6_step 174 = .ok (.istore 6, 2) := by decide +kernel
theorem dX6_step_176 : decode cX6_step 176 = .ok (.iload 4, 2) := by decide +kernel
theorem dX6_step_178 : decode cX6_step 178 = .ok (.iload 8, 2) := by decide +kernel
theorem dX6_step_180 : decode cX6_step 180 = .ok (.ifCond .ne 7, 3) := by decide +kernel
theorem dX6_step_183 : decode cX6_step 183 = .ok (.iconst 0, 1) := by decide +kernel
theorem dX6_step_184 : decode cX6_step 184 = .ok (.goto 4, 3) := by decide +kernel
theorem dX6_step_187 : decode cX6_step 187 = .ok (.iconst 1, 1) := by decide +kernel
theorem dX6_step_188 : decode cX6_step 188 = .ok (.isub, 1) := by decide +kernel
theorem dX6_step_189 : decode cX6_step 189 = .ok (.istore 4, 2) := by decide +kernel
theorem dX6_step_191 : decode cX6_step 191 = .ok (.iinc 7 1, 3) := by decide +kernel
theorem dX6_step_194 : decode cX6_step 194 = .ok (.goto (-160), 3) := by decide +kernel
theorem dX6_step_197 : decode cX6_step 197 = .ok (.iconst (-1), 1) := by decide +kernel
theorem dX6_step_198 : decode cX6_step 198 = .ok (.ireturn, 1) := by decide +kernel
theorem dX6_condition_0 : decode cX6_condition 0 = .ok (.iload_n 1, 1) := by decide +kernel
theorem dX6_condition_1 : decode cX6_condition 1 = .ok (.iconst 0, 1) := by decide +kernel
theorem dX6_condition_2 : decode cX6_condition 2 = .ok (.bipush 6, 2) := by decide +kernel
theorem dX6_condition_4 : decode cX6_condition 4 = .ok (.invokestatic 62, 3) := by decide +kernel
theorem dX6_condition_7 : decode cX6_condition 7 = .ok (.ifCond .eq 30, 3) := by decide +kernel
theorem dX6_condition_10 : decode cX6_condition 10 = .ok (.iload_n 2, 1) := by decide +kernel
theorem dX6_condition_11 : decode cX6_condition 11 = .ok (.invokestatic 70, 3) := by decide +kernel
theorem dX6_condition_14 : decode cX6_condition 14 = .ok (.ifCond .eq 23, 3) := by decide +kernel
theorem dX6_condition_17 : decode cX6_condition 17 = .ok (.iload_n 3, 1) := by decide +kernel
theorem dX6_condition_18 : decode cX6_condition 18 = .ok (.iconst 0, 1) := by decide +kernel
theorem dX6_condition_19 : decode cX6_condition 19 = .ok (.iload_n 1, 1) := by decide +kernel
theorem dX6_condition_20 : decode cX6_condition 20 = .ok (.iconst 1, 1) := by decide +kernel
theorem dX6_condition_21 : decode cX6_condition 21 = .ok (.if_icmp .ne 8, 3) := by decide +kernel
theorem dX6_condition_24 : decode cX6_condition 24 = .ok (.bipush 40, 2) := by decide +kernel
theorem dX6_condition_26 : decode cX6_condition 26 = .ok (.goto 5, 3) := by decide +kernel
theorem dX6_condition_29 : decode cX6_condition 29 = .ok (.bipush 99, 2) := by decide +kernel
theorem dX6_condition_31 : decode cX6_condition 31 = .ok (.invokestatic 62, 3) := by decide +kernel
theorem dX6_condition_34 : decode cX6_condition 34 = .ok (.ifCond .ne 6, 3) := by decide +kernel
theorem dX6_condition_37 : decode cX6_condition 37 = .ok (.bipush (-2), 2) := by decide +kernel
theorem dX6_condition_39 : decode cX6_condition 39 = .ok (.ireturn, 1) := by decide +kernel
theorem dX6_condition_40 : decode cX6_condition 40 = .ok (.aload_n 0, 1) := by decide +kernel
theorem dX6_condition_41 : decode cX6_condition 41 = .ok (.getfield 81, 3) := by decide +kernel
theorem dX6_condition_44 : decode cX6_condition 44 = .ok (.bipush 12, 2) := by decide +kernel
theorem dX6_condition_46 : decode cX6_condition 46 = .ok (.if_icmp .ne 6, 3) := by decide +kernel
theorem dX6_condition_49 : decode cX6_condition 49 = .ok (.bipush (-4), 2) := by decide +kernel
theorem dX6_condition_51 : decode cX6_condition 51 = .ok (.ireturn, 1) := by decide +kernel
theorem dX6_condition_52 : decode cX6_condition 52 = .ok (.aload_n 0, 1) := by decide +kernel
theorem dX6_condition_53 : decode cX6_condition 53 = .ok (.getfield 22, 3) := by decide +kernel
theorem dX6_condition_56 : decode cX6_condition 56 = .ok (.aload_n 0, 1) := by decide +kernel
theorem dX6_condition_57 : decode cX6_condition 57 = .ok (.getfield 81, 3) := by decide +kernel
theorem dX6_condition_60 : decode cX6_condition 60 = .ok (.iload_n 1, 1) := by decide +kernel
theorem dX6_condition_61 : decode cX6_condition 61 = .ok (.iastore, 1) := by decide +kernel
theorem dX6_condition_62 : decode cX6_condition 62 = .ok (.aload_n 0, 1) := by decide +kernel
theorem dX6_condition_63 : decode cX6_condition 63 = .ok (.getfield 25, 3) := by decide +kernel
theorem dX6_condition_66 : decode cX6_condition 66 = .ok (.aload_n 0, 1) := by decide +kernel
theorem dX6_condition_67 : decode cX6_condition 67 = .ok (.getfield 81, 3) := by decide +kernel
theorem dX6_condition_70 : decode cX6_condition 70 = .ok (.iload_n 2, 1) := by decide +kernel
theorem dX6_condition_71 : decode cX6_condition 71 = .ok (.iastore, 1) := by decide +kernel
theorem dX6_condition_72 : decode cX6_condition 72 = .ok (.aload_n 0, 1) := by decide +kernel
theorem dX6_condition_73 : decode cX6_condition 73 = .ok (.getfield 28, 3) := by decide +kernel
theorem dX6_condition_76 : decode cX6_condition 76 = .ok (.aload_n 0, 1) := by decide +kernel
theorem dX6_condition_77 : decode cX6_condition 77 = .ok (.getfield 81, 3) := by decide +kernel
theorem dX6_condition_80 : decode cX6_condition 80 = .ok (.iload_n 3, 1) := by decide +kernel
theorem dX6_condition_81 : decode cX6_condition 81 = .ok (.iastore, 1) := by decide +kernel
theorem dX6_condition_82 : decode cX6_condition 82 = .ok (.aload_n 0, 1) := by decide +kernel
theorem dX6_condition_83 : decode cX6_condition 83 = .ok (.dup, 1) := by decide +kernel
theorem dX6_condition_84 : decode cX6_condition 84 = .ok (.getfield 81, 3) := by decide +kernel
theorem dX6_condition_87 : decode cX6_condition 87 = .ok (.iconst 1, 1) := by decide +kernel
theorem dX6_condition_88 : decode cX6_condition 88 = .ok (.iadd, 1) := by decide +kernel
theorem dX6_condition_89 : decode cX6_condition 89 = .ok (.putfield 81, 3) := by decide +kernel
theorem dX6_condition_92 : decode cX6_condition 92 = .ok (.aload_n 0, 1) := by decide +kernel
theorem dX6_condition_93 : decode cX6_condition 93 = .ok (.getfield 81, 3) := by decide +kernel
theorem dX6_condition_96 : decode cX6_condition 96 = .ok (.iconst 1, 1) := by decide +kernel
theorem dX6_condition_97 : decode cX6_condition 97 = .ok (.isub, 1) := by decide +kernel
theorem dX6_condition_98 : decode cX6_condition 98 = .ok (.ireturn, 1) := by decide +kernel
theorem dX6_clear_0 : decode cX6_clear 0 = .ok (.aload_n 0, 1) := by decide +kernel
theorem dX6_clear_1 : decode cX6_clear 1 = .ok (.getfield 81, 3) := by decide +kernel
theorem dX6_clear_4 : decode cX6_clear 4 = .ok (.istore_n 1, 1) := by decide +kernel
theorem dX6_clear_5 : decode cX6_clear 5 = .ok (.aload_n 0, 1) := by decide +kernel
theorem dX6_clear_6 : decode cX6_clear 6 = .ok (.iconst 0, 1) := by decide +kernel
theorem dX6_clear_7 : decode cX6_clear 7 = .ok (.putfield 81, 3) := by decide +kernel
theorem dX6_clear_10 : decode cX6_clear 10 = .ok (.iload_n 1, 1) := by decide +kernel
theorem dX6_clear_11 : decode cX6_clear 11 = .ok (.ireturn, 1) := by decide +kernel
theorem dX6_keeps_0 : decode cX6_keeps 0 = .ok (.aload_n 0, 1) := by decide +kernel
theorem dX6_keeps_1 : decode cX6_keeps 1 = .ok (.getfield 25, 3) := by decide +kernel
theorem dX6_keeps_4 : decode cX6_keeps 4 = .ok (.iload_n 2, 1) := by decide +kernel
theorem dX6_keeps_5 : decode cX6_keeps 5 = .ok (.iaload, 1) := by decide +kernel
theorem dX6_keeps_6 : decode cX6_keeps 6 = .ok (.istore_n 3, 1) := by decide +kernel
theorem dX6_keeps_7 : decode cX6_keeps 7 = .ok (.aload_n 0, 1) := by decide +kernel
theorem dX6_keeps_8 : decode cX6_keeps 8 = .ok (.getfield 28, 3) := by decide +kernel
theorem dX6_keeps_11 : decode cX6_keeps 11 = .ok (.iload_n 2, 1) := by decide +kernel
theorem dX6_keeps_12 : decode cX6_keeps 12 = .ok (.iaload, 1) := by decide +kernel
theorem dX6_keeps_13 : decode cX6_keeps 13 = .ok (.istore 4, 2) := by decide +kernel
theorem dX6_keeps_15 : decode cX6_keeps 15 = .ok (.iconst 0, 1) := by decide +kernel
theorem dX6_keeps_16 : decode cX6_keeps 16 = .ok (.istore 5, 2) := by decide +kernel
theorem dX6_keeps_18 : decode cX6_keeps 18 = .ok (.iconst 0, 1) := by decide +kernel
theorem dX6_keeps_19 : decode cX6_keeps 19 = .ok (.istore 6, 2) := by decide +kernel
theorem dX6_keeps_21 : decode cX6_keeps 21 = .ok (.iconst 1, 1) := by decide +kernel
theorem dX6_keeps_22 : decode cX6_keeps 22 = .ok (.istore 7, 2) := by decide +kernel
theorem dX6_keeps_24 : decode cX6_keeps 24 = .ok (.iconst 0, 1) := by decide +kernel
theorem dX6_keeps_25 : decode cX6_keeps 25 = .ok (.istore 8, 2) := by decide +kernel
theorem dX6_keeps_27 : decode cX6_keeps 27 = .ok (.iload 8, 2) := by decide +kernel
theorem dX6_keeps_29 : decode cX6_keeps 29 = .ok (.aload_n 0, 1) := by decide +kernel
theorem dX6_keeps_30 : decode cX6_keeps 30 = .ok (.getfield 13, 3) := by decide +kernel
theorem dX6_keeps_33 : decode cX6_keeps 33 = .ok (.iload_n 1, 1) := by decide +kernel
theorem dX6_keeps_34 : decode cX6_keeps 34 = .ok (.iaload, 1) := by decide +kernel
theorem dX6_keeps_35 : decode cX6_keeps 35 = .ok (.if_icmp .ge 159, 3) := by decide +kernel
theorem dX6_keeps_38 : decode cX6_keeps 38 = .ok (.aload_n 0, 1) := by decide +kernel
theorem dX6_keeps_39 : decode cX6_keeps 39 = .ok (.getfield 7, 3) := by decide +kernel
theorem dX6_keeps_42 : decode cX6_keeps 42 = .ok (.bipush 40, 2) := by decide +kernel
theorem dX6_keeps_44 : decode cX6_keeps 44 = .ok (.iload_n 1, 1) := by decide +kernel
theorem dX6_keeps_45 : decode cX6_keeps 45 = .ok (.imul, 1) := by decide +kernel
theorem dX6_keeps_46 : decode cX6_keeps 46 = .ok (.iload 8, 2) := by decide +kernel
theorem dX6_keeps_48 : decode cX6_keeps 48 = .ok (.iadd, 1) := by decide +kernel
theorem dX6_keeps_49 : decode cX6_keeps 49 = .ok (.iaload, 1) := by decide +kernel
theorem dX6_keeps_50 : decode cX6_keeps 50 = .ok (.istore 9, 2) := by decide +kernel
theorem dX6_keeps_52 : decode cX6_keeps 52 = .ok (.iload 9, 2) := by decide +kernel
theorem dX6_keeps_54 : decode cX6_keeps 54 = .ok (.iload 4, 2) := by decide +kernel
theorem dX6_keeps_56 : decode cX6_keeps 56 = .ok (.if_icmp .ne 31, 3) := by decide +kernel
theorem dX6_keeps_59 : decode cX6_keeps 59 = .ok (.iload 7, 2) := by decide +kernel
theorem dX6_keeps_61 : decode cX6_keeps 61 = .ok (.ifCond .eq 23, 3) := by decide +kernel
theorem dX6_keeps_64 : decode cX6_keeps 64 = .ok (.aload_n 0, 1) := by decide +kernel
theorem dX6_keeps_65 : decode cX6_keeps 65 = .ok (.getfield 22, 3) := by decide +kernel
theorem dX6_keeps_68 : decode cX6_keeps 68 = .ok (.iload_n 2, 1) := by decide +kernel
theorem dX6_keeps_69 : decode cX6_keeps 69 = .ok (.iaload, 1) := by decide +kernel
theorem dX6_keeps_70 : decode cX6_keeps 70 = .ok (.bipush 6, 2) := by decide +kernel
theorem dX6_keeps_72 : decode cX6_keeps 72 = .ok (.if_icmp .ne 8, 3) := by decide +kernel
theorem dX6_keeps_75 : decode cX6_keeps 75 = .ok (.iload 5, 2) := by decide +kernel
theorem dX6_keeps_77 : decode cX6_keeps 77 = .ok (.ifCond .ne 7, 3) := by decide +kernel
theorem dX6_keeps_80 : decode cX6_keeps 80 = .ok (.iconst 1, 1) := by decide +kernel
theorem dX6_keeps_81 : decode cX6_keeps 81 = .ok (.goto 4, 3) := by decide +kernel
theorem dX6_keeps_84 : decode cX6_keeps 84 = .ok (.iconst 0, 1) := by decide +kernel
theorem dX6_keeps_85 : decode cX6_keeps 85 = .ok (.istore 7, 2) := by decide +kernel
theorem dX6_keeps_87 : decode cX6_keeps 87 = .ok (.iload 9, 2) := by decide +kernel
theorem dX6_keeps_89 : decode cX6_keeps 89 = .ok (.iload_n 3, 1) := by decide +kernel
theorem dX6_keeps_90 : decode cX6_keeps 90 = .ok (.if_icmp .ne 79, 3) := by decide +kernel
theorem dX6_keeps_93 : decode cX6_keeps 93 = .ok (.iload 8, 2) := by decide +kernel
theorem dX6_keeps_95 : decode cX6_keeps 95 = .ok (.ifCond .le 26, 3) := by decide +kernel
theorem dX6_keeps_98 : decode cX6_keeps 98 = .ok (.aload_n 0, 1) := by decide +kernel
theorem dX6_keeps_99 : decode cX6_keeps 99 = .ok (.getfield 7, 3) := by decide +kernel
theorem dX6_keeps_102 : decode cX6_keeps 102 = .ok (.bipush 40, 2) := by decide +kernel
theorem dX6_keeps_104 : decode cX6_keeps 104 = .ok (.iload_n 1, 1) := by decide +kernel
theorem dX6_keeps_105 : decode cX6_keeps 105 = .ok (.imul, 1) := by decide +kernel
theorem dX6_keeps_106 : decode cX6_keeps 106 = .ok (.iload 8, 2) := by decide +kernel
theorem dX6_keeps_108 : decode cX6_keeps 108 = .ok (.iadd, 1) := by decide +kernel
theorem dX6_keeps_109 : decode cX6_keeps 109 = .ok (.iconst 1, 1) := by decide +kernel
theorem dX6_keeps_110 : decode cX6_keeps 110 = .ok (.isub, 1) := by decide +kernel
theorem dX6_keeps_111 : decode cX6_keeps 111 = .ok (.iaload, 1) := by decide +kernel
theorem dX6_keeps_112 : decode cX6_keeps 112 = .ok (.iload 4, 2) := by decide +kernel
theorem dX6_keeps_114 : decode cX6_keeps 114 = .ok (.if_icmp .ne 7, 3) := by decide +kernel
theorem dX6_keeps_117 : decode cX6_keeps 117 = .ok (.iconst 1, 1) := by decide +kernel
theorem dX6_keeps_118 : decode cX6_keeps 118 = .ok (.goto 4, 3) := by decide +kernel
theorem dX6_keeps_121 : decode cX6_keeps 121 = .ok (.iconst 0, 1) := by decide +kernel
theorem dX6_keeps_122 : decode cX6_keeps 122 = .ok (.istore 10, 2) := by decide +kernel
theorem dX6_keeps_124 : decode cX6_keeps 124 = .ok (.iload 7, 2) := by decide +kernel
theorem dX6_keeps_126 : decode cX6_keeps 126 = .ok (.ifCond .eq 37, 3) := by decide +kernel
theorem dX6_keeps_129 : decode cX6_keeps 129 = .ok (.aload_n 0, 1) := by decide +kernel
theorem dX6_keeps_130 : decode cX6_keeps 130 = .ok (.getfield 22, 3) := by decide +kernel
theorem dX6_keeps_133 : decode cX6_keeps 133 = .ok (.iload_n 2, 1) := by decide +kernel
theorem dX6_keeps_134 : decode cX6_keeps 134 = .ok (.iaload, 1) := by decide +kernel
theorem dX6_keeps_135 : decode cX6_keeps 135 = .ok (.iconst 2, 1) := by decide +kernel
theorem dX6_keeps_136 : decode cX6_keeps 136 = .ok (.if_icmp .ne 8, 3) := by decide +kernel
theorem dX6_keeps_139 : decode cX6_keeps 139 = .ok (.iload 6, 2) := by decide +kernel
theorem dX6_keeps_141 : decode cX6_keeps 141 = .ok (.ifCond .eq 22, 3) := by decide +kernel
theorem dX6_keeps_144 : decode cX6_keeps 144 = .ok (.aload_n 0, 1) := by decide +kernel
theorem dX6_keeps_145 : decode cX6_keeps 145 = .ok (.getfield 22, 3) := by decide +kernel
theorem dX6_keeps_148 : decode cX6_keeps 148 = .ok (.iload_n 2, 1) := by decide +kernel
theorem dX6_keeps_149 : decode cX6_keeps 149 = .ok (.iaload, 1) := by decide +kernel
theorem dX6_keeps_150 : decode cX6_keeps 150 = .ok (.iconst 5, 1) := by decide +kernel
theorem dX6_keeps_151 : decode cX6_keeps 151 = .ok (.if_icmp .ne 8, 3) := by decide +kernel
theorem dX6_keeps_154 : decode cX6_keeps 154 = .ok (.iload 10, 2) := by decide +kernel
theorem dX6_keeps_156 : decode cX6_keeps 156 = .ok (.ifCond .eq 7, 3) := by decide +kernel
theorem dX6_keeps_159 : decode cX6_keeps 159 = .ok (.iconst 1, 1) := by decide +kernel
theorem dX6_keeps_160 : decode cX6_keeps 160 = .ok (.goto 4, 3) := by decide +kernel
theorem dX6_keeps_163 : decode cX6_keeps 163 = .ok (.iconst 0, 1) := by decide +kernel
theorem dX6_keeps_164 : decode cX6_keeps 164 = .ok (.istore 7, 2) := by decide +kernel
theorem dX6_keeps_166 : decode cX6_keeps 166 = .ok (.iinc 5 1, 3) := by decide +kernel
theorem dX6_keeps_169 : decode cX6_keeps 169 = .ok (.iload 6, 2) := by decide +kernel
theorem dX6_keeps_171 : decode cX6_keeps 171 = .ok (.ifCond .ne 10, 3) := by decide +kernel
theorem dX6_keeps_174 : decode cX6_keeps 174 = .ok (.iload 9, 2) := by decide +kernel
theorem dX6_keeps_176 : decode cX6_keeps 176 = .ok (.iload 4, 2) := by decide +kernel
theorem dX6_keeps_178 : decode cX6_keeps 178 = .ok (.if_icmp .ne 7, 3) := by decide +kernel
theorem dX6_keeps_181 : decode cX6_keeps 181 = .ok (.iconst 1, 1) := by decide +kernel
theorem dX6_keeps_182 : decode cX6_keeps 182 = .ok (.goto 4, 3) := by decide +kernel
theorem dX6_keeps_185 : decode cX6_keeps 185 = .ok (.iconst 0, 1) := by decide +kernel
theorem dX6_keeps_186 : decode cX6_keeps 186 = .ok (.istore 6, 2) := by decide +kernel
theorem dX6_keeps_188 : decode cX6_keeps 188 = .ok (.iinc 8 1, 3) := by decide +kernel
theorem dX6_keeps_191 : decode cX6_keeps 191 = .ok (.goto (-164), 3) := by decide +kernel
theorem dX6_keeps_194 : decode cX6_keeps 194 = .ok (.aload_n 0, 1) := by decide +kernel
theorem dX6_keeps_195 : decode cX6_keeps 195 = .ok (.getfield 22, 3) := by decide +kernel
theorem dX6_keeps_198 : decode cX6_keeps 198 = .ok (.iload_n 2, 1) := by decide +kernel
theorem dX6_keeps_199 : decode cX6_keeps 199 = .ok (.iaload, 1) := by decide +kernel
theorem dX6_keeps_200 : decode cX6_keeps 200 = .ok (.tableswitch 87 0 4 #[36, 47, 87, 60, 76], 36) := by decide +kernel
theorem dX6_keeps_236 : decode cX6_keeps 236 = .ok (.iload 5, 2) := by decide +kernel
theorem dX6_keeps_238 : decode cX6_keeps 238 = .ok (.ifCond .ne 7, 3) := by decide +kernel
theorem dX6_keeps_241 : decode cX6_keeps 241 = .ok (.iconst 1, 1) := by decide +kernel
theorem dX6_keeps_242 : decode cX6_keeps 242 = .ok (.goto 4, 3) := by decide +kernel
theorem dX6_keeps_245 : decode cX6_keeps 245 = .ok (.iconst 0, 1) := by decide +kernel
theorem dX6_keeps_246 : decode cX6_keeps 246 = .ok (.ireturn, 1) := by decide +kernel
theorem dX6_keeps_247 : decode cX6_keeps 247 = .ok (.iload 5, 2) := by decide +kernel
theorem dX6_keeps_249 : decode cX6_keeps 249 = .ok (.iload 4, 2) := by decide +kernel
theorem dX6_keeps_251 : decode cX6_keeps 251 = .ok (.if_icmp .gt 7, 3) := by decide +kernel
theorem dX6_keeps_254 : decode cX6_keeps 254 = .ok (.iconst 1, 1) := by decide +kernel
theorem dX6_keeps_255 : decode cX6_keeps 255 = .ok (.goto 4, 3) := by decide +kernel
theorem dX6_keeps_258 : decode cX6_keeps 258 = .ok (.iconst 0, 1) := by decide +kernel
theorem dX6_keeps_259 : decode cX6_keeps 259 = .ok (.ireturn, 1) := by decide +kernel
theorem dX6_keeps_260 : decode cX6_keeps 260 = .ok (.iload 5, 2) := by decide +kernel
theorem dX6_keeps_262 : decode cX6_keeps 262 = .ok (.ifCond .eq 8, 3) := by decide +kernel
theorem dX6_keeps_265 : decode cX6_keeps 265 = .ok (.iload 6, 2) := by decide +kernel
theorem dX6_keeps_267 : decode cX6_keeps 267 = .ok (.ifCond .ne 7, 3) := by decide +kernel
theorem dX6_keeps_270 : decode cX6_keeps 270 = .ok (.iconst 1, 1) := by decide +kernel
theorem dX6_keeps_271 : decode cX6_keeps 271 = .ok (.goto 4, 3) := by decide +kernel
theorem dX6_keeps_274 : decode cX6_keeps 274 = .ok (.iconst 0, 1) := by decide +kernel
theorem dX6_keeps_275 : decode cX6_keeps 275 = .ok (.ireturn, 1) := by decide +kernel
theorem dX6_keeps_276 : decode cX6_keeps 276 = .ok (.iload 5, 2) := by decide +kernel
theorem dX6_keeps_278 : decode cX6_keeps 278 = .ok (.ifCond .le 7, 3) := by decide +kernel
theorem dX6_keeps_281 : decode cX6_keeps 281 = .ok (.iconst 1, 1) := by decide +kernel
theorem dX6_keeps_282 : decode cX6_keeps 282 = .ok (.goto 4, 3) := by decide +kernel
theorem dX6_keeps_285 : decode cX6_keeps 285 = .ok (.iconst 0, 1) := by decide +kernel
theorem dX6_keeps_286 : decode cX6_keeps 286 = .ok (.ireturn, 1) := by decide +kernel
theorem dX6_keeps_287 : decode cX6_keeps 287 = .ok (.iload 7, 2) := by decide +kernel
theorem dX6_keeps_289 : decode cX6_keeps 289 = .ok (.ireturn, 1) := by decide +kernel
theorem dX6_breaks_0 : decode cX6_breaks 0 = .ok (.iload_n 1, 1) := by decide +kernel
theorem dX6_breaks_1 : decode cX6_breaks 1 = .ok (.invokestatic 66, 3) := by decide +kernel
theorem dX6_breaks_4 : decode cX6_breaks 4 = .ok (.ifCond .ne 6, 3) := by decide +kernel
theorem dX6_breaks_7 : decode cX6_breaks 7 = .ok (.bipush (-2), 2) := by decide +kernel
theorem dX6_breaks_9 : decode cX6_breaks 9 = .ok (.ireturn, 1) := by decide +kernel
theorem dX6_breaks_10 : decode cX6_breaks 10 = .ok (.iconst 0, 1) := by decide +kernel
theorem dX6_breaks_11 : decode cX6_breaks 11 = .ok (.istore_n 2, 1) := by decide +kernel
theorem dX6_breaks_12 : decode cX6_breaks 12 = .ok (.iload_n 2, 1) := by decide +kernel
theorem dX6_breaks_13 : decode cX6_breaks 13 = .ok (.aload_n 0, 1) := by decide +kernel
theorem dX6_breaks_14 : decode cX6_breaks 14 = .ok (.getfield 81, 3) := by decide +kernel
theorem dX6_breaks_17 : decode cX6_breaks 17 = .ok (.if_icmp .ge 20, 3) := by decide +kernel
theorem dX6_breaks_20 : decode cX6_breaks 20 = .ok (.aload_n 0, 1) := by decide +kernel
theorem dX6_breaks_21 : decode cX6_breaks 21 = .ok (.iload_n 1, 1) := by decide +kernel
theorem dX6_breaks_22 : decode cX6_breaks 22 = .ok (.iload_n 2, 1) := by decide +kernel
theorem dX6_breaks_23 : decode cX6_breaks 23 = .ok (.invokevirtual 85, 3) := by decide +kernel
theorem dX6_breaks_26 : decode cX6_breaks 26 = .ok (.ifCond .ne 5, 3) := by decide +kernel
theorem dX6_breaks_29 : decode cX6_breaks 29 = .ok (.iload_n 2, 1) := by decide +kernel
theorem dX6_breaks_30 : decode cX6_breaks 30 = .ok (.ireturn, 1) := by decide +kernel
theorem dX6_breaks_31 : decode cX6_breaks 31 = .ok (.iinc 2 1, 3) := by decide +kernel
theorem dX6_breaks_34 : decode cX6_breaks 34 = .ok (.goto (-22), 3) := by decide +kernel
theorem dX6_breaks_37 : decode cX6_breaks 37 = .ok (.iconst (-1), 1) := by decide +kernel
theorem dX6_breaks_38 : decode cX6_breaks 38 = .ok (.ireturn, 1) := by decide +kernel
theorem dX6_hear_0 : decode cX6_hear 0 = .ok (.iload_n 1, 1) := by decide +kernel
theorem dX6_hear_1 : decode cX6_hear 1 = .ok (.invokestatic 89, 3) := by decide +kernel
theorem dX6_hear_4 : decode cX6_hear 4 = .ok (.ifCond .eq 15, 3) := by decide +kernel
theorem dX6_hear_7 : decode cX6_hear 7 = .ok (.iload_n 2, 1) := by decide +kernel
theorem dX6_hear_8 : decode cX6_hear 8 = .ok (.iconst (-1), 1) := by decide +kernel
theorem dX6_hear_9 : decode cX6_hear 9 = .ok (.if_icmp .eq 13, 3) := by decide +kernel
theorem dX6_hear_12 : decode cX6_hear 12 = .ok (.iload_n 2, 1) := by decide +kernel
theorem dX6_hear_13 : decode cX6_hear 13 = .ok (.invokestatic 70, 3) := by decide +kernel
theorem dX6_hear_16 : decode cX6_hear 16 = .ok (.ifCond .ne 6, 3) := by decide +kernel
theorem dX6_hear_19 : decode cX6_hear 19 = .ok (.bipush (-2), 2) := by decide +kernel
theorem dX6_hear_21 : decode cX6_hear 21 = .ok (.ireturn, 1) := by decide +kernel
theorem dX6_hear_22 : decode cX6_hear 22 = .ok (.aload_n 0, 1) := by decide +kernel
theorem dX6_hear_23 : decode cX6_hear 23 = .ok (.getfield 19, 3) := by decide +kernel
theorem dX6_hear_26 : decode cX6_hear 26 = .ok (.iload_n 1, 1) := by decide +kernel
theorem dX6_hear_27 : decode cX6_hear 27 = .ok (.iaload, 1) := by decide +kernel
theorem dX6_hear_28 : decode cX6_hear 28 = .ok (.bipush 40, 2) := by decide +kernel
theorem dX6_hear_30 : decode cX6_hear 30 = .ok (.if_icmp .ne 6, 3) := by decide +kernel
theorem dX6_hear_33 : decode cX6_hear 33 = .ok (.bipush (-4), 2) := by decide +kernel
theorem dX6_hear_35 : decode cX6_hear 35 = .ok (.ireturn, 1) := by decide +kernel
theorem dX6_hear_36 : decode cX6_hear 36 = .ok (.aload_n 0, 1) := by decide +kernel
theorem dX6_hear_37 : decode cX6_hear 37 = .ok (.getfield 16, 3) := by decide +kernel
theorem dX6_hear_40 : decode cX6_hear 40 = .ok (.bipush 40, 2) := by decide +kernel
theorem dX6_hear_42 : decode cX6_hear 42 = .ok (.iload_n 1, 1) := by decide +kernel
theorem dX6_hear_43 : decode cX6_hear 43 = .ok (.imul, 1) := by decide +kernel
theorem dX6_hear_44 : decode cX6_hear 44 = .ok (.aload_n 0, 1) := by decide +kernel
theorem dX6_hear_45 : decode cX6_hear 45 = .ok (.getfield 19, 3) := by decide +kernel
theorem dX6_hear_48 : decode cX6_hear 48 = .ok (.iload_n 1, 1) := by decide +kernel
theorem dX6_hear_49 : decode cX6_hear 49 = .ok (.iaload, 1) := by decide +kernel
theorem dX6_hear_50 : decode cX6_hear 50 = .ok (.iadd, 1) := by decide +kernel
theorem dX6_hear_51 : decode cX6_hear 51 = .ok (.iload_n 2, 1) := by decide +kernel
theorem dX6_hear_52 : decode cX6_hear 52 = .ok (.iastore, 1) := by decide +kernel
theorem dX6_hear_53 : decode cX6_hear 53 = .ok (.aload_n 0, 1) := by decide +kernel
theorem dX6_hear_54 : decode cX6_hear 54 = .ok (.getfield 19, 3) := by decide +kernel
theorem dX6_hear_57 : decode cX6_hear 57 = .ok (.iload_n 1, 1) := by decide +kernel
theorem dX6_hear_58 : decode cX6_hear 58 = .ok (.dup2, 1) := by decide +kernel
theorem dX6_hear_59 : decode cX6_hear 59 = .ok (.iaload, 1) := by decide +kernel
theorem dX6_hear_60 : decode cX6_hear 60 = .ok (.iconst 1, 1) := by decide +kernel
theorem dX6_hear_61 : decode cX6_hear 61 = .ok (.iadd, 1) := by decide +kernel
theorem dX6_hear_62 : decode cX6_hear 62 = .ok (.iastore, 1) := by decide +kernel
theorem dX6_hear_63 : decode cX6_hear 63 = .ok (.aload_n 0, 1) := by decide +kernel
theorem dX6_hear_64 : decode cX6_hear 64 = .ok (.getfield 19, 3) := by decide +kernel
theorem dX6_hear_67 : decode cX6_hear 67 = .ok (.iload_n 1, 1) := by decide +kernel
theorem dX6_hear_68 : decode cX6_hear 68 = .ok (.iaload, 1) := by decide +kernel
theorem dX6_hear_69 : decode cX6_hear 69 = .ok (.ireturn, 1) := by decide +kernel
theorem dX6_forget_0 : decode cX6_forget 0 = .ok (.iload_n 1, 1) := by decide +kernel
theorem dX6_forget_1 : decode cX6_forget 1 = .ok (.invokestatic 89, 3) := by decide +kernel
theorem dX6_forget_4 : decode cX6_forget 4 = .ok (.ifCond .ne 6, 3) := by decide +kernel
theorem dX6_forget_7 : decode cX6_forget 7 = .ok (.bipush (-2), 2) := by decide +kernel
theorem dX6_forget_9 : decode cX6_forget 9 = .ok (.ireturn, 1) := by decide +kernel
theorem dX6_forget_10 : decode cX6_forget 10 = .ok (.aload_n 0, 1) := by decide +kernel
theorem dX6_forget_11 : decode cX6_forget 11 = .ok (.getfield 19, 3) := by decide +kernel
theorem dX6_forget_14 : decode cX6_forget 14 = .ok (.iload_n 1, 1) := by decide +kernel
theorem dX6_forget_15 : decode cX6_forget 15 = .ok (.iaload, 1) := by decide +kernel
theorem dX6_forget_16 : decode cX6_forget 16 = .ok (.istore_n 2, 1) := by decide +kernel
theorem dX6_forget_17 : decode cX6_forget 17 = .ok (.aload_n 0, 1) := by decide +kernel
theorem dX6_forget_18 : decode cX6_forget 18 = .ok (.getfield 19, 3) := by decide +kernel
theorem dX6_forget_21 : decode cX6_forget 21 = .ok (.iload_n 1, 1) := by decide +kernel
theorem dX6_forget_22 : decode cX6_forget 22 = .ok (.iconst 0, 1) := by decide +kernel
theorem dX6_forget_23 : decode cX6_forget 23 = .ok (.iastore, 1) := by decide +kernel
theorem dX6_forget_24 : decode cX6_forget 24 = .ok (.iload_n 2, 1) := by decide +kernel
theorem dX6_forget_25 : decode cX6_forget 25 = .ok (.ireturn, 1) := by decide +kernel
theorem dX6_heard_0 : decode cX6_heard 0 = .ok (.iload_n 1, 1) := by decide +kernel
theorem dX6_heard_1 : decode cX6_heard 1 = .ok (.invokestatic 89, 3) := by decide +kernel
theorem dX6_heard_4 : decode cX6_heard 4 = .ok (.ifCond .eq 33, 3) := by decide +kernel
theorem dX6_heard_7 : decode cX6_heard 7 = .ok (.iload_n 2, 1) := by decide +kernel
theorem dX6_heard_8 : decode cX6_heard 8 = .ok (.iconst 0, 1) := by decide +kernel
theorem dX6_heard_9 : decode cX6_heard 9 = .ok (.aload_n 0, 1) := by decide +kernel
theorem dX6_heard_10 : decode cX6_heard 10 = .ok (.getfield 19, 3) := by decide +kernel
theorem dX6_heard_13 : decode cX6_heard 13 = .ok (.iload_n 1, 1) := by decide +kernel
theorem dX6_heard_14 : decode cX6_heard 14 = .ok (.iaload, 1) := by decide +kernel
theorem dX6_heard_15 : decode cX6_heard 15 = .ok (.iconst 1, 1) := by decide +kernel
theorem dX6_heard_16 : decode cX6_heard 16 = .ok (.isub, 1) := by decide +kernel
theorem dX6_heard_17 : decode cX6_heard 17 = .ok (.invokestatic 62, 3) := by decide +kernel
theorem dX6_heard_20 : decode cX6_heard 20 = .ok (.ifCond .eq 17, 3) := by decide +kernel
theorem dX6_heard_23 : decode cX6_heard 23 = .ok (.aload_n 0, 1) := by decide +kernel
theorem dX6_heard_24 : decode cX6_heard 24 = .ok (.getfield 16, 3) := by decide +kernel
theorem dX6_heard_27 : decode cX6_heard 27 = .ok (.bipush 40, 2) := by decide +kernel
theorem dX6_heard_29 : decode cX6_heard 29 = .ok (.iload_n 1, 1) := by decide +kernel
theorem dX6_heard_30 : decode cX6_heard 30 = .ok (.imul, 1) := by decide +kernel
theorem dX6_heard_31 : decode cX6_heard 31 = .ok (.iload_n 2, 1) := by decide +kernel
theorem dX6_heard_32 : decode cX6_heard 32 = .ok (.iadd, 1) := by decide +kernel
theorem dX6_heard_33 : decode cX6_heard 33 = .ok (.iaload, 1) := by decide +kernel
theorem dX6_heard_34 : decode cX6_heard 34 = .ok (.goto 5, 3) := by decide +kernel
theorem dX6_heard_37 : decode cX6_heard 37 = .ok (.bipush (-2), 2) := by decide +kernel
theorem dX6_heard_39 : decode cX6_heard 39 = .ok (.ireturn, 1) := by decide +kernel
theorem dX6_judged_0 : decode cX6_judged 0 = .ok (.aload_n 0, 1) := by decide +kernel
theorem dX6_judged_1 : decode cX6_judged 1 = .ok (.getfield 25, 3) := by decide +kernel
theorem dX6_judged_4 : decode cX6_judged 4 = .ok (.iload_n 2, 1) := by decide +kernel
theorem dX6_judged_5 : decode cX6_judged 5 = .ok (.iaload, 1) := by decide +kernel
theorem dX6_judged_6 : decode cX6_judged 6 = .ok (.istore_n 3, 1) := by decide +kernel
theorem dX6_judged_7 : decode cX6_judged 7 = .ok (.aload_n 0, 1) := by decide +kernel
theorem dX6_judged_8 : decode cX6_judged 8 = .ok (.getfield 28, 3) := by decide +kernel
theorem dX6_judged_11 : decode cX6_judged 11 = .ok (.iload_n 2, 1) := by decide +kernel
theorem dX6_judged_12 : decode cX6_judged 12 = .ok (.iaload, 1) := by decide +kernel
theorem dX6_judged_13 : decode cX6_judged 13 = .ok (.istore 4, 2) := by decide +kernel
theorem dX6_judged_15 : decode cX6_judged 15 = .ok (.iconst 0, 1) := by decide +kernel
theorem dX6_judged_16 : decode cX6_judged 16 = .ok (.istore 5, 2) := by decide +kernel
theorem dX6_judged_18 : decode cX6_judged 18 = .ok (.iconst 0, 1) := by decide +kernel
theorem dX6_judged_19 : decode cX6_judged 19 = .ok (.istore 6, 2) := by decide +kernel
theorem dX6_judged_21 : decode cX6_judged 21 = .ok (.iconst 0, 1) := by decide +kernel
theorem dX6_judged_22 : decode cX6_judged 22 = .ok (.istore 7, 2) := by decide +kernel
theorem dX6_judged_24 : decode cX6_judged 24 = .ok (.iconst 1, 1) := by decide +kernel
theorem dX6_judged_25 : decode cX6_judged 25 = .ok (.istore 8, 2) := by decide +kernel
theorem dX6_judged_27 : decode cX6_judged 27 = .ok (.iconst 1, 1) := by decide +kernel
theorem dX6_judged_28 : decode cX6_judged 28 = .ok (.istore 9, 2) := by decide +kernel
theorem dX6_judged_30 : decode cX6_judged 30 = .ok (.iconst 0, 1) := by decide +kernel
theorem dX6_judged_31 : decode cX6_judged 31 = .ok (.istore 10, 2) := by decide +kernel
theorem dX6_judged_33 : decode cX6_judged 33 = .ok (.iconst 0, 1) := by decide +kernel
theorem dX6_judged_34 : decode cX6_judged 34 = .ok (.istore 11, 2) := by decide +kernel
theorem dX6_judged_36 : decode cX6_judged 36 = .ok (.iload 11, 2) := by decide +kernel
theorem dX6_judged_38 : decode cX6_judged 38 = .ok (.aload_n 0, 1) := by decide +kernel
theorem dX6_judged_39 : decode cX6_judged 39 = .ok (.getfield 19, 3) := by decide +kernel
theorem dX6_judged_42 : decode cX6_judged 42 = .ok (.iload_n 1, 1) := by decide +kernel
theorem dX6_judged_43 : decode cX6_judged 43 = .ok (.iaload, 1) := by decide +kernel
theorem dX6_judged_44 : decode cX6_judged 44 = .ok (.if_icmp .ge 242, 3) := by decide +kernel
theorem dX6_judged_47 : decode cX6_judged 47 = .ok (.aload_n 0, 1) := by decide +kernel
theorem dX6_judged_48 : decode cX6_judged 48 = .ok (.getfield 16, 3) := by decide +kernel
theorem dX6_judged_51 : decode cX6_judged 51 = .ok (.bipush 40, 2) := by decide +kernel
theorem dX6_judged_53 : decode cX6_judged 53 = .ok (.iload_n 1, 1) := by decide +kernel
theorem dX6_judged_54 : decode cX6_judged 54 = .ok (.imul, 1) := by decide +kernel
theorem dX6_judged_55 : decode cX6_judged 55 = .ok (.iload 11, 2) := by decide +kernel
theorem dX6_judged_57 : decode cX6_judged 57 = .ok (.iadd, 1) := by decide +kernel
theorem dX6_judged_58 : decode cX6_judged 58 = .ok (.iaload, 1) := by decide +kernel
theorem dX6_judged_59 : decode cX6_judged 59 = .ok (.istore 12, 2) := by decide +kernel
theorem dX6_judged_61 : decode cX6_judged 61 = .ok (.iload 11, 2) := by decide +kernel
theorem dX6_judged_63 : decode cX6_judged 63 = .ok (.ifCond .le 20, 3) := by decide +kernel
theorem dX6_judged_66 : decode cX6_judged 66 = .ok (.aload_n 0, 1) := by decide +kernel
theorem dX6_judged_67 : decode cX6_judged 67 = .ok (.getfield 16, 3) := by decide +kernel
theorem dX6_judged_70 : decode cX6_judged 70 = .ok (.bipush 40, 2) := by decide +kernel
theorem dX6_judged_72 : decode cX6_judged 72 = .ok (.iload_n 1, 1) := by decide +kernel
theorem dX6_judged_73 : decode cX6_judged 73 = .ok (.imul, 1) := by decide +kernel
theorem dX6_judged_74 : decode cX6_judged 74 = .ok (.iload 11, 2) := by decide +kernel
theorem dX6_judged_76 : decode cX6_judged 76 = .ok (.iadd, 1) := by decide +kernel
theorem dX6_judged_77 : decode cX6_judged 77 = .ok (.iconst 1, 1) := by decide +kernel
theorem dX6_judged_78 : decode cX6_judged 78 = .ok (.isub, 1) := by decide +kernel
theorem dX6_judged_79 : decode cX6_judged 79 = .ok (.iaload, 1) := by decide +kernel
theorem dX6_judged_80 : decode cX6_judged 80 = .ok (.goto 5, 3) := by decide +kernel
theorem dX6_judged_83 : decode cX6_judged 83 = .ok (.bipush (-2), 2) := by decide +kernel
theorem dX6_judged_85 : decode cX6_judged 85 = .ok (.istore 13, 2) := by decide +kernel
theorem dX6_judged_87 : decode cX6_judged 87 = .ok (.iload 12, 2) := by decide +kernel
theorem dX6_judged_89 : decode cX6_judged 89 = .ok (.iconst (-1), 1) := by decide +kernel
theorem dX6_judged_90 : decode cX6_judged 90 = .ok (.if_icmp .ne 23, 3) := by decide +kernel
theorem dX6_judged_93 : decode cX6_judged 93 = .ok (.iload 10, 2) := by decide +kernel
theorem dX6_judged_95 : decode cX6_judged 95 = .ok (.ifCond .ne 8, 3) := by decide +kernel
theorem dX6_judged_98 : decode cX6_judged 98 = .ok (.iload 6, 2) := by decide +kernel
theorem dX6_judged_100 : decode cX6_judged 100 = .ok (.ifCond .ne 7, 3) := by decide +kernel
theorem dX6_judged_103 : decode cX6_judged 103 = .ok (.iconst 1, 1) := by decide +kernel
theorem dX6_judged_104 : decode cX6_judged 104 = .ok (.goto 4, 3) := by decide +kernel
theorem dX6_judged_107 : decode cX6_judged 107 = .ok (.iconst 0, 1) := by decide +kernel
theorem dX6_judged_108 : decode cX6_judged 108 = .ok (.istore 10, 2) := by decide +kernel
theorem dX6_judged_110 : decode cX6_judged 110 = .ok (.iconst 1, 1) := by decide +kernel
theorem dX6_judged_111 : decode cX6_judged 111 = .ok (.istore 7, 2) := by decide +kernel
theorem dX6_judged_113 : decode cX6_judged 113 = .ok (.iload 12, 2) := by decide +kernel
theorem dX6_judged_115 : decode cX6_judged 115 = .ok (.iload 4, 2) := by decide +kernel
theorem dX6_judged_117 : decode cX6_judged 117 = .ok (.if_icmp .ne 22, 3) := by decide +kernel
theorem dX6_judged_120 : decode cX6_judged 120 = .ok (.aload_n 0, 1) := by decide +kernel
theorem dX6_judged_121 : decode cX6_judged 121 = .ok (.getfield 22, 3) := by decide +kernel
theorem dX6_judged_124 : decode cX6_judged 124 = .ok (.iload_n 2, 1) := by decide +kernel
theorem dX6_judged_125 : decode cX6_judged 125 = .ok (.iaload, 1) := by decide +kernel
theorem dX6_judged_126 : decode cX6_judged 126 = .ok (.bipush 6, 2) := by decide +kernel
theorem dX6_judged_128 : decode cX6_judged 128 = .ok (.if_icmp .ne 11, 3) := by decide +kernel
theorem dX6_judged_131 : decode cX6_judged 131 = .ok (.iload 5, 2) := by decide +kernel
theorem dX6_judged_133 : decode cX6_judged 133 = .ok (.ifCond .le 6, 3) := by decide +kernel
theorem dX6_judged_136 : decode cX6_judged 136 = .ok (.iconst 0, 1) := by decide +kernel
theorem dX6_judged_137 : decode cX6_judged 137 = .ok (.istore 9, 2) := by decide +kernel
theorem dX6_judged_139 : decode cX6_judged 139 = .ok (.iload 12, 2) := by decide +kernel
theorem dX6_judged_141 : decode cX6_judged 141 = .ok (.iload_n 3, 1) := by decide +kernel
theorem dX6_judged_142 : decode cX6_judged 142 = .ok (.if_icmp .ne 121, 3) := by decide +kernel
theorem dX6_judged_145 : decode cX6_judged 145 = .ok (.iload 10, 2) := by decide +kernel
theorem dX6_judged_147 : decode cX6_judged 147 = .ok (.ifCond .ne 8, 3) := by decide +kernel
theorem dX6_judged_150 : decode cX6_judged 150 = .ok (.iload 6, 2) := by decide +kernel
theorem dX6_judged_152 : decode cX6_judged 152 = .ok (.ifCond .ne 7, 3) := by decide +kernel
theorem dX6_judged_155 : decode cX6_judged 155 = .ok (.iconst 1, 1) := by decide +kernel
theorem dX6_judged_156 : decode cX6_judged 156 = .ok (.goto 4, 3) := by decide +kernel
theorem dX6_judged_159 : decode cX6_judged 159 = .ok (.iconst 0, 1) := by decide +kernel
theorem dX6_judged_160 : decode cX6_judged 160 = .ok (.istore 10, 2) := by decide +kernel
theorem dX6_judged_162 : decode cX6_judged 162 = .ok (.aload_n 0, 1) := by decide +kernel
theorem dX6_judged_163 : decode cX6_judged 163 = .ok (.getfield 22, 3) := by decide +kernel
theorem dX6_judged_166 : decode cX6_judged 166 = .ok (.iload_n 2, 1) := by decide +kernel
theorem dX6_judged_167 : decode cX6_judged 167 = .ok (.iaload, 1) := by decide +kernel
theorem dX6_judged_168 : decode cX6_judged 168 = .ok (.iconst 2, 1) := by decide +kernel
theorem dX6_judged_169 : decode cX6_judged 169 = .ok (.if_icmp .ne 31, 3) := by decide +kernel
theorem dX6_judged_172 : decode cX6_judged 172 = .ok (.iload 8, 2) := by decide +kernel
theorem dX6_judged_174 : decode cX6_judged 174 = .ok (.ifCond .eq 23, 3) := by decide +kernel
theorem dX6_judged_177 : decode cX6_judged 177 = .ok (.iload_n 3, 1) := by decide +kernel
theorem dX6_judged_178 : decode cX6_judged 178 = .ok (.iload 4, 2) := by decide +kernel
theorem dX6_judged_180 : decode cX6_judged 180 = .ok (.if_icmp .eq 17, 3) := by decide +kernel
theorem dX6_judged_183 : decode cX6_judged 183 = .ok (.iload 6, 2) := by decide +kernel
theorem dX6_judged_185 : decode cX6_judged 185 = .ok (.ifCond .gt 8, 3) := by decide +kernel
theorem dX6_judged_188 : decode cX6_judged 188 = .ok (.iload 7, 2) := by decide +kernel
theorem dX6_judged_190 : decode cX6_judged 190 = .ok (.ifCond .eq 7, 3) := by decide +kernel
theorem dX6_judged_193 : decode cX6_judged 193 = .ok (.iconst 1, 1) := by decide +kernel
theorem dX6_judged_194 : decode cX6_judged 194 = .ok (.goto 4, 3) := by decide +kernel
theorem dX6_judged_197 : decode cX6_judged 197 = .ok (.iconst 0, 1) := by decide +kernel
theorem dX6_judged_198 : decode cX6_judged 198 = .ok (.istore 8, 2) := by decide +kernel
theorem dX6_judged_200 : decode cX6_judged 200 = .ok (.aload_n 0, 1) := by decide +kernel
theorem dX6_judged_201 : decode cX6_judged 201 = .ok (.getfield 22, 3) := by decide +kernel
theorem dX6_judged_204 : decode cX6_judged 204 = .ok (.iload_n 2, 1) := by decide +kernel
theorem dX6_judged_205 : decode cX6_judged 205 = .ok (.iaload, 1) := by decide +kernel
theorem dX6_judged_206 : decode cX6_judged 206 = .ok (.iconst 5, 1) := by decide +kernel
theorem dX6_judged_207 : decode cX6_judged 207 = .ok (.if_icmp .ne 53, 3) := by decide +kernel
theorem dX6_judged_210 : decode cX6_judged 210 = .ok (.iload 8, 2) := by decide +kernel
theorem dX6_judged_212 : decode cX6_judged 212 = .ok (.ifCond .eq 26, 3) := by decide +kernel
theorem dX6_judged_215 : decode cX6_judged 215 = .ok (.iload_n 3, 1) := by decide +kernel
theorem dX6_judged_216 : decode cX6_judged 216 = .ok (.iload 4, 2) := by decide +kernel
theorem dX6_judged_218 : decode cX6_judged 218 = .ok (.if_icmp .eq 20, 3) := by decide +kernel
theorem dX6_judged_221 : decode cX6_judged 221 = .ok (.iload 13, 2) := by decide +kernel
theorem dX6_judged_223 : decode cX6_judged 223 = .ok (.iload 4, 2) := by decide +kernel
theorem dX6_judged_225 : decode cX6_judged 225 = .ok (.if_icmp .eq 9, 3) := by decide +kernel
theorem dX6_judged_228 : decode cX6_judged 228 = .ok (.iload 13, 2) := by decide +kernel
theorem dX6_judged_230 : decode cX6_judged 230 = .ok (.iconst (-1), 1) := by decide +kernel
theorem dX6_judged_231 : decode cX6_judged 231 = .ok (.if_icmp .ne 7, 3) := by decide +kernel
theorem dX6_judged_234 : decode cX6_judged 234 = .ok (.iconst 1, 1) := by decide +kernel
theorem dX6_judged_235 : decode cX6_judged 235 = .ok (.goto 4, 3) := by decide +kernel
theorem dX6_judged_238 : decode cX6_judged 238 = .ok (.iconst 0, 1) := by decide +kernel
theorem dX6_judged_239 : decode cX6_judged 239 = .ok (.istore 8, 2) := by decide +kernel
theorem dX6_judged_241 : decode cX6_judged 241 = .ok (.iload 9, 2) := by decide +kernel
theorem dX6_judged_243 : decode cX6_judged 243 = .ok (.ifCond .eq 14, 3) := by decide +kernel
theorem dX6_judged_246 : decode cX6_judged 246 = .ok (.iload 13, 2) := by decide +kernel
theorem dX6_judged_248 : decode cX6_judged 248 = .ok (.iload 4, 2) := by decide +kernel
theorem dX6_judged_250 : decode cX6_judged 250 = .ok (.if_icmp .ne 7, 3) := by decide +kernel
theorem dX6_judged_253 : decode cX6_judged 253 = .ok (.iconst 1, 1) := by decide +kernel
theorem dX6_judged_254 : decode cX6_judged 254 = .ok (.goto 4, 3) := by decide +kernel
theorem dX6_judged_257 : decode cX6_judged 257 = .ok (.iconst 0, 1) := by decide +kernel
theorem dX6_judged_258 : decode cX6_judged 258 = .ok (.istore 9, 2) := by decide +kernel
theorem dX6_judged_260 : decode cX6_judged 260 = .ok (.iinc 5 1, 3) := by decide +kernel
theorem dX6_judged_263 : decode cX6_judged 263 = .ok (.iload 6, 2) := by decide +kernel
theorem dX6_judged_265 : decode cX6_judged 265 = .ok (.iload 12, 2) := by decide +kernel
theorem dX6_judged_267 : decode cX6_judged 267 = .ok (.iload 4, 2) := by decide +kernel
theorem dX6_judged_269 : decode cX6_judged 269 = .ok (.if_icmp .ne 7, 3) := by decide +kernel
theorem dX6_judged_272 : decode cX6_judged 272 = .ok (.iconst 1, 1) := by decide +kernel
theorem dX6_judged_273 : decode cX6_judged 273 = .ok (.goto 4, 3) := by decide +kernel
theorem dX6_judged_276 : decode cX6_judged 276 = .ok (.iconst 0, 1) := by decide +kernel
theorem dX6_judged_277 : decode cX6_judged 277 = .ok (.iadd, 1) := by decide +kernel
theorem dX6_judged_278 : decode cX6_judged 278 = .ok (.istore 6, 2) := by decide +kernel
theorem dX6_judged_280 : decode cX6_judged 280 = .ok (.iinc 11 1, 3) := by decide +kernel
theorem dX6_judged_283 : decode cX6_judged 283 = .ok (.goto (-247), 3) := by decide +kernel
theorem dX6_judged_286 : decode cX6_judged 286 = .ok (.iconst 1, 1) := by decide +kernel
theorem dX6_judged_287 : decode cX6_judged 287 = .ok (.istore 11, 2) := by decide +kernel
theorem dX6_judged_289 : decode cX6_judged 289 = .ok (.iload 7, 2) := by decide +kernel
theorem dX6_judged_291 : decode cX6_judged 291 = .ok (.istore 12, 2) := by decide +kernel
theorem dX6_judged_293 : decode cX6_judged 293 = .ok (.aload_n 0, 1) := by decide +kernel
theorem dX6_judged_294 : decode cX6_judged 294 = .ok (.getfield 22, 3) := by decide +kernel
theorem dX6_judged_297 : decode cX6_judged 297 = .ok (.iload_n 2, 1) := by decide +kernel
theorem dX6_judged_298 : decode cX6_judged 298 = .ok (.iaload, 1) := by decide +kernel
theorem dX6_judged_299 : decode cX6_judged 299 = .ok (.tableswitch 209 0 5 #[37, 69, 105, 116, 153, 185], 37) := by decide +kernel
theorem dX6_judged_336 : decode cX6_judged 336 = .ok (.iload 5, 2) := by decide +kernel
theorem dX6_judged_338 : decode cX6_judged 338 = .ok (.ifCond .ne 7, 3) := by decide +kernel
theorem dX6_judged_341 : decode cX6_judged 341 = .ok (.iconst 1, 1) := by decide +kernel
theorem dX6_judged_342 : decode cX6_judged 342 = .ok (.goto 4, 3) := by decide +kernel
theorem dX6_judged_345 : decode cX6_judged 345 = .ok (.iconst 0, 1) := by decide +kernel
theorem dX6_judged_346 : decode cX6_judged 346 = .ok (.istore 11, 2) := by decide +kernel
theorem dX6_judged_348 : decode cX6_judged 348 = .ok (.iload 7, 2) := by decide +kernel
theorem dX6_judged_350 : decode cX6_judged 350 = .ok (.ifCond .ne 8, 3) := by decide +kernel
theorem dX6_judged_353 : decode cX6_judged 353 = .ok (.iload 5, 2) := by decide +kernel
theorem dX6_judged_355 : decode cX6_judged 355 = .ok (.ifCond .le 7, 3) := by decide +kernel
theorem dX6_judged_358 : decode cX6_judged 358 = .ok (.iconst 1, 1) := by decide +kernel
theorem dX6_judged_359 : decode cX6_judged 359 = .ok (.goto 4, 3) := by decide +kernel
theorem dX6_judged_362 : decode cX6_judged 362 = .ok (.iconst 0, 1) := by decide +kernel
theorem dX6_judged_363 : decode cX6_judged 363 = .ok (.istore 12, 2) := by decide +kernel
theorem dX6_judged_365 : decode cX6_judged 365 = .ok (.goto 164, 3) := by decide +kernel
theorem dX6_judged_368 : decode cX6_judged 368 = .ok (.iload 5, 2) := by decide +kernel
theorem dX6_judged_370 : decode cX6_judged 370 = .ok (.iload 4, 2) := by decide +kernel
theorem dX6_judged_372 : decode cX6_judged 372 = .ok (.if_icmp .gt 7, 3) := by decide +kernel
theorem dX6_judged_375 : decode cX6_judged 375 = .ok (.iconst 1, 1) := by decide +kernel
theorem dX6_judged_376 : decode cX6_judged 376 = .ok (.goto 4, 3) := by decide +kernel
theorem dX6_judged_379 : decode cX6_judged 379 = .ok (.iconst 0, 1) := by decide +kernel
theorem dX6_judged_380 : decode cX6_judged 380 = .ok (.istore 11, 2) := by decide +kernel
theorem dX6_judged_382 : decode cX6_judged 382 = .ok (.iload 7, 2) := by decide +kernel
theorem dX6_judged_384 : decode cX6_judged 384 = .ok (.ifCond .ne 10, 3) := by decide +kernel
theorem dX6_judged_387 : decode cX6_judged 387 = .ok (.iload 5, 2) := by decide +kernel
theorem dX6_judged_389 : decode cX6_judged 389 = .ok (.iload 4, 2) := by decide +kernel
theorem dX6_judged_391 : decode cX6_judged 391 = .ok (.if_icmp .le 7, 3) := by decide +kernel
theorem dX6_judged_394 : decode cX6_judged 394 = .ok (.iconst 1, 1) := by decide +kernel
theorem dX6_judged_395 : decode cX6_judged 395 = .ok (.goto 4, 3) := by decide +kernel
theorem dX6_judged_398 : decode cX6_judged 398 = .ok (.iconst 0, 1) := by decide +kernel
theorem dX6_judged_399 : decode cX6_judged 399 = .ok (.istore 12, 2) := by decide +kernel
theorem dX6_judged_401 : decode cX6_judged 401 = .ok (.goto 128, 3) := by decide +kernel
theorem dX6_judged_404 : decode cX6_judged 404 = .ok (.iload 8, 2) := by decide +kernel
theorem dX6_judged_406 : decode cX6_judged 406 = .ok (.istore 11, 2) := by decide +kernel
theorem dX6_judged_408 : decode cX6_judged 408 = .ok (.iload 10, 2) := by decide +kernel
theorem dX6_judged_410 : decode cX6_judged 410 = .ok (.istore 12, 2) := by decide +kernel
theorem dX6_judged_412 : decode cX6_judged 412 = .ok (.goto 117, 3) := by decide +kernel
theorem dX6_judged_415 : decode cX6_judged 415 = .ok (.iload 5, 2) := by decide +kernel
theorem dX6_judged_417 : decode cX6_judged 417 = .ok (.ifCond .eq 8, 3) := by decide +kernel
theorem dX6_judged_420 : decode cX6_judged 420 = .ok (.iload 6, 2) := by decide +kernel
theorem dX6_judged_422 : decode cX6_judged 422 = .ok (.ifCond .ne 7, 3) := by decide +kernel
theorem dX6_judged_425 : decode cX6_judged 425 = .ok (.iconst 1, 1) := by decide +kernel
theorem dX6_judged_426 : decode cX6_judged 426 = .ok (.goto 4, 3) := by decide +kernel
theorem dX6_judged_429 : decode cX6_judged 429 = .ok (.iconst 0, 1) := by decide +kernel
theorem dX6_judged_430 : decode cX6_judged 430 = .ok (.istore 11, 2) := by decide +kernel
theorem dX6_judged_432 : decode cX6_judged 432 = .ok (.iload 7, 2) := by decide +kernel
theorem dX6_judged_434 : decode cX6_judged 434 = .ok (.ifCond .ne 8, 3) := by decide +kernel
theorem dX6_judged_437 : decode cX6_judged 437 = .ok (.iload 11, 2) := by decide +kernel
theorem dX6_judged_439 : decode cX6_judged 439 = .ok (.ifCond .ne 7, 3) := by decide +kernel
theorem dX6_judged_442 : decode cX6_judged 442 = .ok (.iconst 1, 1) := by decide +kernel
theorem dX6_judged_443 : decode cX6_judged 443 = .ok (.goto 4, 3) := by decide +kernel
theorem dX6_judged_446 : decode cX6_judged 446 = .ok (.iconst 0, 1) := by decide +kernel
theorem dX6_judged_447 : decode cX6_judged 447 = .ok (.istore 12, 2) := by decide +kernel
theorem dX6_judged_449 : decode cX6_judged 449 = .ok (.goto 80, 3) := by decide +kernel
theorem dX6_judged_452 : decode cX6_judged 452 = .ok (.iload 5, 2) := by decide +kernel
theorem dX6_judged_454 : decode cX6_judged 454 = .ok (.ifCond .gt 8, 3) := by decide +kernel
theorem dX6_judged_457 : decode cX6_judged 457 = .ok (.iload 7, 2) := by decide +kernel
theorem dX6_judged_459 : decode cX6_judged 459 = .ok (.ifCond .eq 7, 3) := by decide +kernel
theorem dX6_judged_462 : decode cX6_judged 462 = .ok (.iconst 1, 1) := by decide +kernel
theorem dX6_judged_463 : decode cX6_judged 463 = .ok (.goto 4, 3) := by decide +kernel
theorem dX6_judged_466 : decode cX6_judged 466 = .ok (.iconst 0, 1) := by decide +kernel
theorem dX6_judged_467 : decode cX6_judged 467 = .ok (.istore 11, 2) := by decide +kernel
theorem dX6_judged_469 : decode cX6_judged 469 = .ok (.iload 5, 2) := by decide +kernel
theorem dX6_judged_471 : decode cX6_judged 471 = .ok (.ifCond .ne 7, 3) := by decide +kernel
theorem dX6_judged_474 : decode cX6_judged 474 = .ok (.iconst 1, 1) := by decide +kernel
theorem dX6_judged_475 : decode cX6_judged 475 = .ok (.goto 4, 3) := by decide +kernel
theorem dX6_judged_478 : decode cX6_judged 478 = .ok (.iconst 0, 1) := by decide +kernel
theorem dX6_judged_479 : decode cX6_judged 479 = .ok (.istore 12, 2) := by decide +kernel
theorem dX6_judged_481 : decode cX6_judged 481 = .ok (.goto 48, 3) := by decide +kernel
theorem dX6_judged_484 : decode cX6_judged 484 = .ok (.iload 8, 2) := by decide +kernel
theorem dX6_judged_486 : decode cX6_judged 486 = .ok (.istore 11, 2) := by decide +kernel
theorem dX6_judged_488 : decode cX6_judged 488 = .ok (.iload 7, 2) := by decide +kernel
theorem dX6_judged_490 : decode cX6_judged 490 = .ok (.ifCond .ne 8, 3) := by decide +kernel
theorem dX6_judged_493 : decode cX6_judged 493 = .ok (.iload 9, 2) := by decide +kernel
theorem dX6_judged_495 : decode cX6_judged 495 = .ok (.ifCond .ne 7, 3) := by decide +kernel
theorem dX6_judged_498 : decode cX6_judged 498 = .ok (.iconst 1, 1) := by decide +kernel
theorem dX6_judged_499 : decode cX6_judged 499 = .ok (.goto 4, 3) := by decide +kernel
theorem dX6_judged_502 : decode cX6_judged 502 = .ok (.iconst 0, 1) := by decide +kernel
theorem dX6_judged_503 : decode cX6_judged 503 = .ok (.istore 12, 2) := by decide +kernel
theorem dX6_judged_505 : decode cX6_judged 505 = .ok (.goto 24, 3) := by decide +kernel
theorem dX6_judged_508 : decode cX6_judged 508 = .ok (.iload 9, 2) := by decide +kernel
theorem dX6_judged_510 : decode cX6_judged 510 = .ok (.istore 11, 2) := by decide +kernel
theorem dX6_judged_512 : decode cX6_judged 512 = .ok (.iload 7, 2) := by decide +kernel
theorem dX6_judged_514 : decode cX6_judged 514 = .ok (.ifCond .ne 8, 3) := by decide +kernel
theorem dX6_judged_517 : decode cX6_judged 517 = .ok (.iload 9, 2) := by decide +kernel
theorem dX6_judged_519 : decode cX6_judged 519 = .ok (.ifCond .ne 7, 3) := by decide +kernel
theorem dX6_judged_522 : decode cX6_judged 522 = .ok (.iconst 1, 1) := by decide +kernel
theorem dX6_judged_523 : decode cX6_judged 523 = .ok (.goto 4, 3) := by decide +kernel
theorem dX6_judged_526 : decode cX6_judged 526 = .ok (.iconst 0, 1) := by decide +kernel
theorem dX6_judged_527 : decode cX6_judged 527 = .ok (.istore 12, 2) := by decide +kernel
theorem dX6_judged_529 : decode cX6_judged 529 = .ok (.iload 12, 2) := by decide +kernel
theorem dX6_judged_531 : decode cX6_judged 531 = .ok (.ifCond .ne 7, 3) := by decide +kernel
theorem dX6_judged_534 : decode cX6_judged 534 = .ok (.iconst 0, 1) := by decide +kernel
theorem dX6_judged_535 : decode cX6_judged 535 = .ok (.goto 13, 3) := by decide +kernel
theorem dX6_judged_538 : decode cX6_judged 538 = .ok (.iload 11, 2) := by decide +kernel
theorem dX6_judged_540 : decode cX6_judged 540 = .ok (.ifCond .eq 7, 3) := by decide +kernel
theorem dX6_judged_543 : decode cX6_judged 543 = .ok (.iconst 1, 1) := by decide +kernel
theorem dX6_judged_544 : decode cX6_judged 544 = .ok (.goto 4, 3) := by decide +kernel
theorem dX6_judged_547 : decode cX6_judged 547 = .ok (.iconst 2, 1) := by decide +kernel
theorem dX6_judged_548 : decode cX6_judged 548 = .ok (.ireturn, 1) := by decide +kernel
theorem dX6_judge_0 : decode cX6_judge 0 = .ok (.iload_n 1, 1) := by decide +kernel
theorem dX6_judge_1 : decode cX6_judge 1 = .ok (.invokestatic 89, 3) := by decide +kernel
theorem dX6_judge_4 : decode cX6_judge 4 = .ok (.ifCond .eq 26, 3) := by decide +kernel
theorem dX6_judge_7 : decode cX6_judge 7 = .ok (.iload_n 2, 1) := by decide +kernel
theorem dX6_judge_8 : decode cX6_judge 8 = .ok (.iconst 0, 1) := by decide +kernel
theorem dX6_judge_9 : decode cX6_judge 9 = .ok (.aload_n 0, 1) := by decide +kernel
theorem dX6_judge_10 : decode cX6_judge 10 = .ok (.getfield 81, 3) := by decide +kernel
theorem dX6_judge_13 : decode cX6_judge 13 = .ok (.iconst 1, 1) := by decide +kernel
theorem dX6_judge_14 : decode cX6_judge 14 = .ok (.isub, 1) := by decide +kernel
theorem dX6_judge_15 : decode cX6_judge 15 = .ok (.invokestatic 62, 3) := by decide +kernel
theorem dX6_judge_18 : decode cX6_judge 18 = .ok (.ifCond .eq 12, 3) := by decide +kernel
theorem dX6_judge_21 : decode cX6_judge 21 = .ok (.aload_n 0, 1) := by decide +kernel
theorem dX6_judge_22 : decode cX6_judge 22 = .ok (.iload_n 1, 1) := by decide +kernel
theorem dX6_judge_23 : decode cX6_judge 23 = .ok (.iload_n 2, 1) := by decide +kernel
theorem dX6_judge_24 : decode cX6_judge 24 = .ok (.invokevirtual 92, 3) := by decide +kernel
theorem dX6_judge_27 : decode cX6_judge 27 = .ok (.goto 5, 3) := by decide +kernel
theorem dX6_judge_30 : decode cX6_judge 30 = .ok (.bipush (-2), 2) := by decide +kernel
theorem dX6_judge_32 : decode cX6_judge 32 = .ok (.ireturn, 1) := by decide +kernel
theorem dX6_verdict_0 : decode cX6_verdict 0 = .ok (.iload_n 1, 1) := by decide +kernel
theorem dX6_verdict_1 : decode cX6_verdict 1 = .ok (.invokestatic 89, 3) := by decide +kernel
theorem dX6_verdict_4 : decode cX6_verdict 4 = .ok (.ifCond .ne 6, 3) := by decide +kernel
theorem dX6_verdict_7 : decode cX6_verdict 7 = .ok (.bipush (-2), 2) := by decide +kernel
theorem dX6_verdict_9 : decode cX6_verdict 9 = .ok (.ireturn, 1) := by decide +kernel
theorem dX6_verdict_10 : decode cX6_verdict 10 = .ok (.iconst 0, 1) := by decide +kernel
theorem dX6_verdict_11 : decode cX6_verdict 11 = .ok (.istore_n 2, 1) := by decide +kernel
theorem dX6_verdict_12 : decode cX6_verdict 12 = .ok (.iconst 0, 1) := by decide +kernel
theorem dX6_verdict_13 : decode cX6_verdict 13 = .ok (.istore_n 3, 1) := by decide +kernel
theorem dX6_verdict_14 : decode cX6_verdict 14 = .ok (.iload_n 3, 1) := by decide +kernel
theorem dX6_verdict_15 : decode cX6_verdict 15 = .ok (.aload_n 0, 1) := by decide +kernel
theorem dX6_verdict_16 : decode cX6_verdict 16 = .ok (.getfield 81, 3) := by decide +kernel
theorem dX6_verdict_19 : decode cX6_verdict 19 = .ok (.if_icmp .ge 30, 3) := by decide +kernel
theorem dX6_verdict_22 : decode cX6_verdict 22 = .ok (.aload_n 0, 1) := by decide +kernel
theorem dX6_verdict_23 : decode cX6_verdict 23 = .ok (.iload_n 1, 1) := by decide +kernel
theorem dX6_verdict_24 : decode cX6_verdict 24 = .ok (.iload_n 3, 1) := by decide +kernel
theorem dX6_verdict_25 : decode cX6_verdict 25 = .ok (.invokevirtual 92, 3) := by decide +kernel
theorem dX6_verdict_28 : decode cX6_verdict 28 = .ok (.istore 4, 2) := by decide +kernel
theorem dX6_verdict_30 : decode cX6_verdict 30 = .ok (.iload 4, 2) := by decide +kernel
theorem dX6_verdict_32 : decode cX6_verdict 32 = .ok (.iload_n 2, 1) := by decide +kernel
theorem dX6_verdict_33 : decode cX6_verdict 33 = .ok (.if_icmp .le 8, 3) := by decide +kernel
theorem dX6_verdict_36 : decode cX6_verdict 36 = .ok (.iload 4, 2) := by decide +kernel
theorem dX6_verdict_38 : decode cX6_verdict 38 = .ok (.goto 4, 3) := by decide +kernel
theorem dX6_verdict_41 : decode cX6_verdict 41 = .ok (.iload_n 2, 1) := by decide +kernel
theorem dX6_verdict_42 : decode cX6_verdict 42 = .ok (.istore_n 2, 1) := by decide +kernel
theorem dX6_verdict_43 : decode cX6_verdict 43 = .ok (.iinc 3 1, 3) := by decide +kernel
theorem dX6_verdict_46 : decode cX6_verdict 46 = .ok (.goto (-32), 3) := by decide +kernel
theorem dX6_verdict_49 : decode cX6_verdict 49 = .ok (.iload_n 2, 1) := by decide +kernel
theorem dX6_verdict_50 : decode cX6_verdict 50 = .ok (.ireturn, 1) := by decide +kernel
end
section
theorem dX6_both_0 : decode cX6_both 0 = .ok (.iload_n 1, 1) := by decide +kernel
theorem dX6_both_1 : decode cX6_both 1 = .ok (.invokestatic 89, 3) := by decide +kernel
theorem dX6_both_4 : decode cX6_both 4 = .ok (.ifCond .eq 17, 3) := by decide +kernel
theorem dX6_both_7 : decode cX6_both 7 = .ok (.iload_n 2, 1) := by decide +kernel
theorem dX6_both_8 : decode cX6_both 8 = .ok (.invokestatic 89, 3) := by decide +kernel
theorem dX6_both_11 : decode cX6_both 11 = .ok (.ifCond .eq 10, 3) := by decide +kernel
theorem dX6_both_14 : decode cX6_both 14 = .ok (.iload_n 3, 1) := by decide +kernel
theorem dX6_both_15 : decode cX6_both 15 = .ok (.invokestatic 89, 3) := by decide +kernel
theorem dX6_both_18 : decode cX6_both 18 = .ok (.ifCond .ne 6, 3) := by decide +kernel
theorem dX6_both_21 : decode cX6_both 21 = .ok (.bipush (-2), 2) := by decide +kernel
theorem dX6_both_23 : decode cX6_both 23 = .ok (.ireturn, 1) := by decide +kernel
theorem dX6_both_24 : decode cX6_both 24 = .ok (.aload_n 0, 1) := by decide +kernel
theorem dX6_both_25 : decode cX6_both 25 = .ok (.getfield 19, 3) := by decide +kernel
theorem dX6_both_28 : decode cX6_both 28 = .ok (.iload_n 1, 1) := by decide +kernel
theorem dX6_both_29 : decode cX6_both 29 = .ok (.iaload, 1) := by decide +kernel
theorem dX6_both_30 : decode cX6_both 30 = .ok (.aload_n 0, 1) := by decide +kernel
theorem dX6_both_31 : decode cX6_both 31 = .ok (.getfield 19, 3) := by decide +kernel
theorem dX6_both_34 : decode cX6_both 34 = .ok (.iload_n 2, 1) := by decide +kernel
theorem dX6_both_35 : decode cX6_both 35 = .ok (.iaload, 1) := by decide +kernel
theorem dX6_both_36 : decode cX6_both 36 = .ok (.if_icmp .eq 6, 3) := by decide +kernel
theorem dX6_both_39 : decode cX6_both 39 = .ok (.bipush (-3), 2) := by decide +kernel
theorem dX6_both_41 : decode cX6_both 41 = .ok (.ireturn, 1) := by decide +kernel
theorem dX6_both_42 : decode cX6_both 42 = .ok (.iconst 0, 1) := by decide +kernel
theorem dX6_both_43 : decode cX6_both 43 = .ok (.istore 4, 2) := by decide +kernel
theorem dX6_both_45 : decode cX6_both 45 = .ok (.aload_n 0, 1) := by decide +kernel
theorem dX6_both_46 : decode cX6_both 46 = .ok (.getfield 19, 3) := by decide +kernel
theorem dX6_both_49 : decode cX6_both 49 = .ok (.iload_n 1, 1) := by decide +kernel
theorem dX6_both_50 : decode cX6_both 50 = .ok (.iaload, 1) := by decide +kernel
theorem dX6_both_51 : decode cX6_both 51 = .ok (.istore 5, 2) := by decide +kernel
theorem dX6_both_53 : decode cX6_both 53 = .ok (.iconst 0, 1) := by decide +kernel
theorem dX6_both_54 : decode cX6_both 54 = .ok (.istore 6, 2) := by decide +kernel
theorem dX6_both_56 : decode cX6_both 56 = .ok (.iload 6, 2) := by decide +kernel
theorem dX6_both_58 : decode cX6_both 58 = .ok (.iload 5, 2) := by decide +kernel
theorem dX6_both_60 : decode cX6_both 60 = .ok (.if_icmp .ge 112, 3) := by decide +kernel
theorem dX6_both_63 : decode cX6_both 63 = .ok (.aload_n 0, 1) := by decide +kernel
theorem dX6_both_64 : decode cX6_both 64 = .ok (.getfield 16, 3) := by decide +kernel
theorem dX6_both_67 : decode cX6_both 67 = .ok (.bipush 40, 2) := by decide +kernel
theorem dX6_both_69 : decode cX6_both 69 = .ok (.iload_n 1, 1) := by decide +kernel
theorem dX6_both_70 : decode cX6_both 70 = .ok (.imul, 1) := by decide +kernel
theorem dX6_both_71 : decode cX6_both 71 = .ok (.iload 6, 2) := by decide +kernel
theorem dX6_both_73 : decode cX6_both 73 = .ok (.iadd, 1) := by decide +kernel
theorem dX6_both_74 : decode cX6_both 74 = .ok (.iaload, 1) := by decide +kernel
theorem dX6_both_75 : decode cX6_both 75 = .ok (.istore 7, 2) := by decide +kernel
theorem dX6_both_77 : decode cX6_both 77 = .ok (.aload_n 0, 1) := by decide +kernel
theorem dX6_both_78 : decode cX6_both 78 = .ok (.getfield 16, 3) := by decide +kernel
theorem dX6_both_81 : decode cX6_both 81 = .ok (.bipush 40, 2) := by decide +kernel
theorem dX6_both_83 : decode cX6_both 83 = .ok (.iload_n 2, 1) := by decide +kernel
theorem dX6_both_84 : decode cX6_both 84 = .ok (.imul, 1) := by decide +kernel
theorem dX6_both_85 : decode cX6_both 85 = .ok (.iload 6, 2) := by decide +kernel
theorem dX6_both_87 : decode cX6_both 87 = .ok (.iadd, 1) := by decide +kernel
theorem dX6_both_88 : decode cX6_both 88 = .ok (.iaload, 1) := by decide +kernel
theorem dX6_both_89 : decode cX6_both 89 = .ok (.istore 8, 2) := by decide +kernel
theorem dX6_both_91 : decode cX6_both 91 = .ok (.iload 7, 2) := by decide +kernel
theorem dX6_both_93 : decode cX6_both 93 = .ok (.iload 8, 2) := by decide +kernel
theorem dX6_both_95 : decode cX6_both 95 = .ok (.if_icmp .eq 19, 3) := by decide +kernel
theorem dX6_both_98 : decode cX6_both 98 = .ok (.iload 7, 2) := by decide +kernel
theorem dX6_both_100 : decode cX6_both 100 = .ok (.iconst (-1), 1) := by decide +kernel
theorem dX6_both_101 : decode cX6_both 101 = .ok (.if_icmp .eq 13, 3) := by decide +kernel
theorem dX6_both_104 : decode cX6_both 104 = .ok (.iload 8, 2) := by decide +kernel
theorem dX6_both_106 : decode cX6_both 106 = .ok (.iconst (-1), 1) := by decide +kernel
theorem dX6_both_107 : decode cX6_both 107 = .ok (.if_icmp .eq 7, 3) := by decide +kernel
theorem dX6_both_110 : decode cX6_both 110 = .ok (.iconst 1, 1) := by decide +kernel
theorem dX6_both_111 : decode cX6_both 111 = .ok (.goto 4, 3) := by decide +kernel
theorem dX6_both_114 : decode cX6_both 114 = .ok (.iconst 0, 1) := by decide +kernel
theorem dX6_both_115 : decode cX6_both 115 = .ok (.istore 9, 2) := by decide +kernel
theorem dX6_both_117 : decode cX6_both 117 = .ok (.iload 4, 2) := by decide +kernel
theorem dX6_both_119 : decode cX6_both 119 = .ok (.iload 9, 2) := by decide +kernel
theorem dX6_both_121 : decode cX6_both 121 = .ok (.ifCond .eq 7, 3) := by decide +kernel
theorem dX6_both_124 : decode cX6_both 124 = .ok (.iconst 1, 1) := by decide +kernel
theorem dX6_both_125 : decode cX6_both 125 = .ok (.goto 4, 3) := by decide +kernel
theorem dX6_both_128 : decode cX6_both 128 = .ok (.iconst 0, 1) := by decide +kernel
theorem dX6_both_129 : decode cX6_both 129 = .ok (.iadd, 1) := by decide +kernel
theorem dX6_both_130 : decode cX6_both 130 = .ok (.istore 4, 2) := by decide +kernel
theorem dX6_both_132 : decode cX6_both 132 = .ok (.aload_n 0, 1) := by decide +kernel
theorem dX6_both_133 : decode cX6_both 133 = .ok (.getfield 16, 3) := by decide +kernel
theorem dX6_both_136 : decode cX6_both 136 = .ok (.bipush 40, 2) := by decide +kernel
theorem dX6_both_138 : decode cX6_both 138 = .ok (.iload_n 3, 1) := by decide +kernel
theorem dX6_both_139 : decode cX6_both 139 = .ok (.imul, 1) := by decide +kernel
theorem dX6_both_140 : decode cX6_both 140 = .ok (.iload 6, 2) := by decide +kernel
theorem dX6_both_142 : decode cX6_both 142 = .ok (.iadd, 1) := by decide +kernel
theorem dX6_both_143 : decode cX6_both 143 = .ok (.iload 9, 2) := by decide +kernel
theorem dX6_both_145 : decode cX6_both 145 = .ok (.ifCond .eq 7, 3) := by decide +kernel
theorem dX6_both_148 : decode cX6_both 148 = .ok (.iconst (-1), 1) := by decide +kernel
theorem dX6_both_149 : decode cX6_both 149 = .ok (.goto 16, 3) := by decide +kernel
theorem dX6_both_152 : decode cX6_both 152 = .ok (.iload 7, 2) := by decide +kernel
theorem dX6_both_154 : decode cX6_both 154 = .ok (.iconst (-1), 1) := by decide +kernel
theorem dX6_both_155 : decode cX6_both 155 = .ok (.if_icmp .ne 8, 3) := by decide +kernel
theorem dX6_both_158 : decode cX6_both 158 = .ok (.iload 8, 2) := by decide +kernel
theorem dX6_both_160 : decode cX6_both 160 = .ok (.goto 5, 3) := by decide +kernel
theorem dX6_both_163 : decode cX6_both 163 = .ok (.iload 7, 2) := by decide +kernel
theorem dX6_both_165 : decode cX6_both 165 = .ok (.iastore, 1) := by decide +kernel
theorem dX6_both_166 : decode cX6_both 166 = .ok (.iinc 6 1, 3) := by decide +kernel
theorem dX6_both_169 : decode cX6_both 169 = .ok (.goto (-113), 3) := by decide +kernel
theorem dX6_both_172 : decode cX6_both 172 = .ok (.aload_n 0, 1) := by decide +kernel
theorem dX6_both_173 : decode cX6_both 173 = .ok (.getfield 19, 3) := by decide +kernel
theorem dX6_both_176 : decode cX6_both 176 = .ok (.iload_n 3, 1) := by decide +kernel
theorem dX6_both_177 : decode cX6_both 177 = .ok (.iload 5, 2) := by decide +kernel
theorem dX6_both_179 : decode cX6_both 179 = .ok (.iastore, 1) := by decide +kernel
theorem dX6_both_180 : decode cX6_both 180 = .ok (.iload 4, 2) := by decide +kernel
theorem dX6_both_182 : decode cX6_both 182 = .ok (.ireturn, 1) := by decide +kernel
theorem dX6_may_0 : decode cX6_may 0 = .ok (.iload_n 1, 1) := by decide +kernel
theorem dX6_may_1 : decode cX6_may 1 = .ok (.invokestatic 89, 3) := by decide +kernel
theorem dX6_may_4 : decode cX6_may 4 = .ok (.ifCond .eq 10, 3) := by decide +kernel
theorem dX6_may_7 : decode cX6_may 7 = .ok (.iload_n 2, 1) := by decide +kernel
theorem dX6_may_8 : decode cX6_may 8 = .ok (.invokestatic 66, 3) := by decide +kernel
theorem dX6_may_11 : decode cX6_may 11 = .ok (.ifCond .ne 6, 3) := by decide +kernel
theorem dX6_may_14 : decode cX6_may 14 = .ok (.bipush (-2), 2) := by decide +kernel
theorem dX6_may_16 : decode cX6_may 16 = .ok (.ireturn, 1) := by decide +kernel
theorem dX6_may_17 : decode cX6_may 17 = .ok (.aload_n 0, 1) := by decide +kernel
theorem dX6_may_18 : decode cX6_may 18 = .ok (.getfield 19, 3) := by decide +kernel
theorem dX6_may_21 : decode cX6_may 21 = .ok (.iload_n 1, 1) := by decide +kernel
theorem dX6_may_22 : decode cX6_may 22 = .ok (.iaload, 1) := by decide +kernel
theorem dX6_may_23 : decode cX6_may 23 = .ok (.istore_n 3, 1) := by decide +kernel
theorem dX6_may_24 : decode cX6_may 24 = .ok (.aload_n 0, 1) := by decide +kernel
theorem dX6_may_25 : decode cX6_may 25 = .ok (.getfield 13, 3) := by decide +kernel
theorem dX6_may_28 : decode cX6_may 28 = .ok (.iload_n 2, 1) := by decide +kernel
theorem dX6_may_29 : decode cX6_may 29 = .ok (.iaload, 1) := by decide +kernel
theorem dX6_may_30 : decode cX6_may 30 = .ok (.istore 4, 2) := by decide +kernel
theorem dX6_may_32 : decode cX6_may 32 = .ok (.iload_n 3, 1) := by decide +kernel
theorem dX6_may_33 : decode cX6_may 33 = .ok (.istore 5, 2) := by decide +kernel
theorem dX6_may_35 : decode cX6_may 35 = .ok (.iload 5, 2) := by decide +kernel
theorem dX6_may_37 : decode cX6_may 37 = .ok (.ifCond .lt 201, 3) := by decide +kernel
theorem dX6_may_40 : decode cX6_may 40 = .ok (.iload 4, 2) := by decide +kernel
theorem dX6_may_42 : decode cX6_may 42 = .ok (.istore 6, 2) := by decide +kernel
theorem dX6_may_44 : decode cX6_may 44 = .ok (.iload 6, 2) := by decide +kernel
theorem dX6_may_46 : decode cX6_may 46 = .ok (.ifCond .lt 186, 3) := by decide +kernel
theorem dX6_may_49 : decode cX6_may 49 = .ok (.iload 5, 2) := by decide +kernel
theorem dX6_may_51 : decode cX6_may 51 = .ok (.iload_n 3, 1) := by decide +kernel
theorem dX6_may_52 : decode cX6_may 52 = .ok (.if_icmp .ne 14, 3) := by decide +kernel
theorem dX6_may_55 : decode cX6_may 55 = .ok (.iload 6, 2) := by decide +kernel
theorem dX6_may_57 : decode cX6_may 57 = .ok (.iload 4, 2) := by decide +kernel
theorem dX6_may_59 : decode cX6_may 59 = .ok (.if_icmp .ne 7, 3) := by decide +kernel
theorem dX6_may_62 : decode cX6_may 62 = .ok (.iconst 1, 1) := by decide +kernel
theorem dX6_may_63 : decode cX6_may 63 = .ok (.goto 4, 3) := by decide +kernel
theorem dX6_may_66 : decode cX6_may 66 = .ok (.iconst 0, 1) := by decide +kernel
theorem dX6_may_67 : decode cX6_may 67 = .ok (.istore 7, 2) := by decide +kernel
theorem dX6_may_69 : decode cX6_may 69 = .ok (.iload 5, 2) := by decide +kernel
theorem dX6_may_71 : decode cX6_may 71 = .ok (.iload_n 3, 1) := by decide +kernel
theorem dX6_may_72 : decode cX6_may 72 = .ok (.if_icmp .ge 72, 3) := by decide +kernel
theorem dX6_may_75 : decode cX6_may 75 = .ok (.aload_n 0, 1) := by decide +kernel
theorem dX6_may_76 : decode cX6_may 76 = .ok (.getfield 16, 3) := by decide +kernel
theorem dX6_may_79 : decode cX6_may 79 = .ok (.bipush 40, 2) := by decide +kernel
theorem dX6_may_81 : decode cX6_may 81 = .ok (.iload_n 1, 1) := by decide +kernel
theorem dX6_may_82 : decode cX6_may 82 = .ok (.imul, 1) := by decide +kernel
theorem dX6_may_83 : decode cX6_may 83 = .ok (.iload 5, 2) := by decide +kernel
theorem dX6_may_85 : decode cX6_may 85 = .ok (.iadd, 1) := by decide +kernel
theorem dX6_may_86 : decode cX6_may 86 = .ok (.iaload, 1) := by decide +kernel
theorem dX6_may_87 : decode cX6_may 87 = .ok (.iconst (-1), 1) := by decide +kernel
theorem dX6_may_88 : decode cX6_may 88 = .ok (.if_icmp .ne 56, 3) := by decide +kernel
theorem dX6_may_91 : decode cX6_may 91 = .ok (.aload_n 0, 1) := by decide +kernel
theorem dX6_may_92 : decode cX6_may 92 = .ok (.getfield 58, 3) := by decide +kernel
theorem dX6_may_95 : decode cX6_may 95 = .ok (.bipush 41, 2) := by decide +kernel
theorem dX6_may_97 : decode cX6_may 97 = .ok (.iload 5, 2) := by decide +kernel
theorem dX6_may_99 : decode cX6_may 99 = .ok (.iconst 1, 1) := by decide +kernel
theorem dX6_may_100 : decode cX6_may 100 = .ok (.iadd, 1) := by decide +kernel
theorem dX6_may_101 : decode cX6_may 101 = .ok (.imul, 1) := by decide +kernel
theorem dX6_may_102 : decode cX6_may 102 = .ok (.iload 6, 2) := by decide +kernel
theorem dX6_may_104 : decode cX6_may 104 = .ok (.iadd, 1) := by decide +kernel
theorem dX6_may_105 : decode cX6_may 105 = .ok (.baload, 1) := by decide +kernel
theorem dX6_may_106 : decode cX6_may 106 = .ok (.ifCond .ne 28, 3) := by decide +kernel
theorem dX6_may_109 : decode cX6_may 109 = .ok (.iload 6, 2) := by decide +kernel
theorem dX6_may_111 : decode cX6_may 111 = .ok (.iload 4, 2) := by decide +kernel
theorem dX6_may_113 : decode cX6_may 113 = .ok (.if_icmp .ge 25, 3) := by decide +kernel
theorem dX6_may_116 : decode cX6_may 116 = .ok (.aload_n 0, 1) := by decide +kernel
theorem dX6_may_117 : decode cX6_may 117 = .ok (.getfield 58, 3) := by decide +kernel
theorem dX6_may_120 : decode cX6_may 120 = .ok (.bipush 41, 2) := by decide +kernel
theorem dX6_may_122 : decode cX6_may 122 = .ok (.iload 5, 2) := by decide +kernel
theorem dX6_may_124 : decode cX6_may 124 = .ok (.imul, 1) := by decide +kernel
theorem dX6_may_125 : decode cX6_may 125 = .ok (.iload 6, 2) := by decide +kernel
theorem dX6_may_127 : decode cX6_may 127 = .ok (.iadd, 1) := by decide +kernel
theorem dX6_may_128 : decode cX6_may 128 = .ok (.iconst 1, 1) := by decide +kernel
theorem dX6_may_129 : decode cX6_may 129 = .ok (.iadd, 1) := by decide +kernel
theorem dX6_may_130 : decode cX6_may 130 = .ok (.baload, 1) := by decide +kernel
theorem dX6_may_131 : decode cX6_may 131 = .ok (.ifCond .eq 7, 3) := by decide +kernel
theorem dX6_may_134 : decode cX6_may 134 = .ok (.iconst 1, 1) := by decide +kernel
theorem dX6_may_135 : decode cX6_may 135 = .ok (.goto 4, 3) := by decide +kernel
theorem dX6_may_138 : decode cX6_may 138 = .ok (.iconst 0, 1) := by decide +kernel
theorem dX6_may_139 : decode cX6_may 139 = .ok (.istore 7, 2) := by decide +kernel
theorem dX6_may_141 : decode cX6_may 141 = .ok (.goto 70, 3) := by decide +kernel
theorem dX6_may_144 : decode cX6_may 144 = .ok (.iload 5, 2) := by decide +kernel
theorem dX6_may_146 : decode cX6_may 146 = .ok (.iload_n 3, 1) := by decide +kernel
theorem dX6_may_147 : decode cX6_may 147 = .ok (.if_icmp .ge 64, 3) := by decide +kernel
theorem dX6_may_150 : decode cX6_may 150 = .ok (.iload 6, 2) := by decide +kernel
theorem dX6_may_152 : decode cX6_may 152 = .ok (.iload 4, 2) := by decide +kernel
theorem dX6_may_154 : decode cX6_may 154 = .ok (.if_icmp .ge 57, 3) := by decide +kernel
theorem dX6_may_157 : decode cX6_may 157 = .ok (.aload_n 0, 1) := by decide +kernel
theorem dX6_may_158 : decode cX6_may 158 = .ok (.getfield 16, 3) := by decide +kernel
theorem dX6_may_161 : decode cX6_may 161 = .ok (.bipush 40, 2) := by decide +kernel
theorem dX6_may_163 : decode cX6_may 163 = .ok (.iload_n 1, 1) := by decide +kernel
theorem dX6_may_164 : decode cX6_may 164 = .ok (.imul, 1) := by decide +kernel
theorem dX6_may_165 : decode cX6_may 165 = .ok (.iload 5, 2) := by decide +kernel
theorem dX6_may_167 : decode cX6_may 167 = .ok (.iadd, 1) := by decide +kernel
theorem dX6_may_168 : decode cX6_may 168 = .ok (.iaload, 1) := by decide +kernel
theorem dX6_may_169 : decode cX6_may 169 = .ok (.aload_n 0, 1) := by decide +kernel
theorem dX6_may_170 : decode cX6_may 170 = .ok (.getfield 7, 3) := by decide +kernel
theorem dX6_may_173 : decode cX6_may 173 = .ok (.bipush 40, 2) := by decide +kernel
theorem dX6_may_175 : decode cX6_may 175 = .ok (.iload_n 2, 1) := by decide +kernel
theorem dX6_may_176 : decode cX6_may 176 = .ok (.imul, 1) := by decide +kernel
theorem dX6_may_177 : decode cX6_may 177 = .ok (.iload 6, 2) := by decide +kernel
theorem dX6_may_179 : decode cX6_may 179 = .ok (.iadd, 1) := by decide +kernel
theorem dX6_may_180 : decode cX6_may 180 = .ok (.iaload, 1) := by decide +kernel
theorem dX6_may_181 : decode cX6_may 181 = .ok (.if_icmp .ne 27, 3) := by decide +kernel
theorem dX6_may_184 : decode cX6_may 184 = .ok (.aload_n 0, 1) := by decide +kernel
theorem dX6_may_185 : decode cX6_may 185 = .ok (.getfield 58, 3) := by decide +kernel
theorem dX6_may_188 : decode cX6_may 188 = .ok (.bipush 41, 2) := by decide +kernel
theorem dX6_may_190 : decode cX6_may 190 = .ok (.iload 5, 2) := by decide +kernel
theorem dX6_may_192 : decode cX6_may 192 = .ok (.iconst 1, 1) := by decide +kernel
theorem dX6_may_193 : decode cX6_may 193 = .ok (.iadd, 1) := by decide +kernel
theorem dX6_may_194 : decode cX6_may 194 = .ok (.imul, 1) := by decide +kernel
theorem dX6_may_195 : decode cX6_may 195 = .ok (.iload 6, 2) := by decide +kernel
theorem dX6_may_197 : decode cX6_may 197 = .ok (.iadd, 1) := by decide +kernel
theorem dX6_may_198 : decode cX6_may 198 = .ok (.iconst 1, 1) := by decide +kernel
theorem dX6_may_199 : decode cX6_may 199 = .ok (.iadd, 1) := by decide +kernel
theorem dX6_may_200 : decode cX6_may 200 = .ok (.baload, 1) := by decide +kernel
theorem dX6_may_201 : decode cX6_may 201 = .ok (.ifCond .eq 7, 3) := by decide +kernel
theorem dX6_may_204 : decode cX6_may 204 = .ok (.iconst 1, 1) := by decide +kernel
theorem dX6_may_205 : decode cX6_may 205 = .ok (.goto 4, 3) := by decide +kernel
theorem dX6_may_208 : decode cX6_may 208 = .ok (.iconst 0, 1) := by decide +kernel
theorem dX6_may_209 : decode cX6_may 209 = .ok (.istore 7, 2) := by decide +kernel
theorem dX6_may_211 : decode cX6_may 211 = .ok (.aload_n 0, 1) := by decide +kernel
theorem dX6_may_212 : decode cX6_may 212 = .ok (.getfield 58, 3) := by decide +kernel
theorem dX6_may_215 : decode cX6_may 215 = .ok (.bipush 41, 2) := by decide +kernel
theorem dX6_may_217 : decode cX6_may 217 = .ok (.iload 5, 2) := by decide +kernel
theorem dX6_may_219 : decode cX6_may 219 = .ok (.imul, 1) := by decide +kernel
theorem dX6_may_220 : decode cX6_may 220 = .ok (.iload 6, 2) := by decide +kernel
theorem dX6_may_222 : decode cX6_may 222 = .ok (.iadd, 1) := by decide +kernel
theorem dX6_may_223 : decode cX6_may 223 = .ok (.iload 7, 2) := by decide +kernel
theorem dX6_may_225 : decode cX6_may 225 = .ok (.bastore, 1) := by decide +kernel
theorem dX6_may_226 : decode cX6_may 226 = .ok (.iinc 6 (-1), 3) := by decide +kernel
theorem dX6_may_229 : decode cX6_may 229 = .ok (.goto (-185), 3) := by decide +kernel
theorem dX6_may_232 : decode cX6_may 232 = .ok (.iinc 5 (-1), 3) := by decide +kernel
theorem dX6_may_235 : decode cX6_may 235 = .ok (.goto (-200), 3) := by decide +kernel
theorem dX6_may_238 : decode cX6_may 238 = .ok (.aload_n 0, 1) := by decide +kernel
theorem dX6_may_239 : decode cX6_may 239 = .ok (.getfield 58, 3) := by decide +kernel
theorem dX6_may_242 : decode cX6_may 242 = .ok (.iconst 0, 1) := by decide +kernel
theorem dX6_may_243 : decode cX6_may 243 = .ok (.baload, 1) := by decide +kernel
theorem dX6_may_244 : decode cX6_may 244 = .ok (.ifCond .eq 7, 3) := by decide +kernel
theorem dX6_may_247 : decode cX6_may 247 = .ok (.iconst 1, 1) := by decide +kernel
theorem dX6_may_248 : decode cX6_may 248 = .ok (.goto 4, 3) := by decide +kernel
theorem dX6_may_251 : decode cX6_may 251 = .ok (.iconst 0, 1) := by decide +kernel
theorem dX6_may_252 : decode cX6_may 252 = .ok (.ireturn, 1) := by decide +kernel
theorem dX6_mark_0 : decode cX6_mark 0 = .ok (.iload_n 1, 1) := by decide +kernel
theorem dX6_mark_1 : decode cX6_mark 1 = .ok (.invokestatic 70, 3) := by decide +kernel
theorem dX6_mark_4 : decode cX6_mark 4 = .ok (.ifCond .eq 14, 3) := by decide +kernel
theorem dX6_mark_7 : decode cX6_mark 7 = .ok (.iload_n 2, 1) := by decide +kernel
theorem dX6_mark_8 : decode cX6_mark 8 = .ok (.iconst 0, 1) := by decide +kernel
theorem dX6_mark_9 : decode cX6_mark 9 = .ok (.sipush 255, 3) := by decide +kernel
theorem dX6_mark_12 : decode cX6_mark 12 = .ok (.invokestatic 62, 3) := by decide +kernel
theorem dX6_mark_15 : decode cX6_mark 15 = .ok (.ifCond .ne 6, 3) := by decide +kernel
theorem dX6_mark_18 : decode cX6_mark 18 = .ok (.bipush (-2), 2) := by decide +kernel
theorem dX6_mark_20 : decode cX6_mark 20 = .ok (.ireturn, 1) := by decide +kernel
theorem dX6_mark_21 : decode cX6_mark 21 = .ok (.aload_n 0, 1) := by decide +kernel
theorem dX6_mark_22 : decode cX6_mark 22 = .ok (.getfield 31, 3) := by decide +kernel
theorem dX6_mark_25 : decode cX6_mark 25 = .ok (.iload_n 1, 1) := by decide +kernel
theorem dX6_mark_26 : decode cX6_mark 26 = .ok (.iaload, 1) := by decide +kernel
theorem dX6_mark_27 : decode cX6_mark 27 = .ok (.istore_n 3, 1) := by decide +kernel
theorem dX6_mark_28 : decode cX6_mark 28 = .ok (.aload_n 0, 1) := by decide +kernel
theorem dX6_mark_29 : decode cX6_mark 29 = .ok (.getfield 31, 3) := by decide +kernel
theorem dX6_mark_32 : decode cX6_mark 32 = .ok (.iload_n 1, 1) := by decide +kernel
theorem dX6_mark_33 : decode cX6_mark 33 = .ok (.iload_n 2, 1) := by decide +kernel
theorem dX6_mark_34 : decode cX6_mark 34 = .ok (.iastore, 1) := by decide +kernel
theorem dX6_mark_35 : decode cX6_mark 35 = .ok (.iload_n 3, 1) := by decide +kernel
theorem dX6_mark_36 : decode cX6_mark 36 = .ok (.ireturn, 1) := by decide +kernel
theorem dX6_isTown_0 : decode cX6_isTown 0 = .ok (.iload_n 0, 1) := by decide +kernel
theorem dX6_isTown_1 : decode cX6_isTown 1 = .ok (.iconst 0, 1) := by decide +kernel
theorem dX6_isTown_2 : decode cX6_isTown 2 = .ok (.bipush 7, 2) := by decide +kernel
theorem dX6_isTown_4 : decode cX6_isTown 4 = .ok (.invokestatic 62, 3) := by decide +kernel
theorem dX6_isTown_7 : decode cX6_isTown 7 = .ok (.ireturn, 1) := by decide +kernel
theorem dX6_isDay_0 : decode cX6_isDay 0 = .ok (.iload_n 0, 1) := by decide +kernel
theorem dX6_isDay_1 : decode cX6_isDay 1 = .ok (.iconst 0, 1) := by decide +kernel
theorem dX6_isDay_2 : decode cX6_isDay 2 = .ok (.sipush 999, 3) := by decide +kernel
theorem dX6_isDay_5 : decode cX6_isDay 5 = .ok (.invokestatic 62, 3) := by decide +kernel
theorem dX6_isDay_8 : decode cX6_isDay 8 = .ok (.ireturn, 1) := by decide +kernel
theorem dX6_rule_0 : decode cX6_rule 0 = .ok (.iload_n 1, 1) := by decide +kernel
theorem dX6_rule_1 : decode cX6_rule 1 = .ok (.invokestatic 95, 3) := by decide +kernel
theorem dX6_rule_4 : decode cX6_rule 4 = .ok (.ifCond .eq 35, 3) := by decide +kernel
theorem dX6_rule_7 : decode cX6_rule 7 = .ok (.iload_n 2, 1) := by decide +kernel
theorem dX6_rule_8 : decode cX6_rule 8 = .ok (.iconst 0, 1) := by decide +kernel
theorem dX6_rule_9 : decode cX6_rule 9 = .ok (.sipush 255, 3) := by decide +kernel
theorem dX6_rule_12 : decode cX6_rule 12 = .ok (.invokestatic 62, 3) := by decide +kernel
theorem dX6_rule_15 : decode cX6_rule 15 = .ok (.ifCond .eq 24, 3) := by decide +kernel
theorem dX6_rule_18 : decode cX6_rule 18 = .ok (.iload_n 3, 1) := by decide +kernel
theorem dX6_rule_19 : decode cX6_rule 19 = .ok (.invokestatic 98, 3) := by decide +kernel
theorem dX6_rule_22 : decode cX6_rule 22 = .ok (.ifCond .eq 17, 3) := by decide +kernel
theorem dX6_rule_25 : decode cX6_rule 25 = .ok (.iload 4, 2) := by decide +kernel
theorem dX6_rule_27 : decode cX6_rule 27 = .ok (.invokestatic 98, 3) := by decide +kernel
theorem dX6_rule_30 : decode cX6_rule 30 = .ok (.ifCond .eq 9, 3) := by decide +kernel
theorem dX6_rule_33 : decode cX6_rule 33 = .ok (.iload_n 3, 1) := by decide +kernel
theorem dX6_rule_34 : decode cX6_rule 34 = .ok (.iload 4, 2) := by decide +kernel
theorem dX6_rule_36 : decode cX6_rule 36 = .ok (.if_icmp .le 6, 3) := by decide +kernel
theorem dX6_rule_39 : decode cX6_rule 39 = .ok (.bipush (-2), 2) := by decide +kernel
theorem dX6_rule_41 : decode cX6_rule 41 = .ok (.ireturn, 1) := by decide +kernel
theorem dX6_rule_42 : decode cX6_rule 42 = .ok (.aload_n 0, 1) := by decide +kernel
theorem dX6_rule_43 : decode cX6_rule 43 = .ok (.getfield 101, 3) := by decide +kernel
theorem dX6_rule_46 : decode cX6_rule 46 = .ok (.bipush 20, 2) := by decide +kernel
theorem dX6_rule_48 : decode cX6_rule 48 = .ok (.if_icmp .ne 6, 3) := by decide +kernel
theorem dX6_rule_51 : decode cX6_rule 51 = .ok (.bipush (-4), 2) := by decide +kernel
theorem dX6_rule_53 : decode cX6_rule 53 = .ok (.ireturn, 1) := by decide +kernel
theorem dX6_rule_54 : decode cX6_rule 54 = .ok (.aload_n 0, 1) := by decide +kernel
theorem dX6_rule_55 : decode cX6_rule 55 = .ok (.getfield 34, 3) := by decide +kernel
theorem dX6_rule_58 : decode cX6_rule 58 = .ok (.aload_n 0, 1) := by decide +kernel
theorem dX6_rule_59 : decode cX6_rule 59 = .ok (.getfield 101, 3) := by decide +kernel
theorem dX6_rule_62 : decode cX6_rule 62 = .ok (.iload_n 1, 1) := by decide +kernel
theorem dX6_rule_63 : decode cX6_rule 63 = .ok (.iastore, 1) := by decide +kernel
theorem dX6_rule_64 : decode cX6_rule 64 = .ok (.aload_n 0, 1) := by decide +kernel
theorem dX6_rule_65 : decode cX6_rule 65 = .ok (.getfield 37, 3) := by decide +kernel
theorem dX6_rule_68 : decode cX6_rule 68 = .ok (.aload_n 0, 1) := by decide +kernel
theorem dX6_rule_69 : decode cX6_rule 69 = .ok (.getfield 101, 3) := by decide +kernel
theorem dX6_rule_72 : decode cX6_rule 72 = .ok (.iload_n 2, 1) := by decide +kernel
theorem dX6_rule_73 : decode cX6_rule 73 = .ok (.iastore, 1) := by decide +kernel
theorem dX6_rule_74 : decode cX6_rule 74 = .ok (.aload_n 0, 1) := by decide +kernel
theorem dX6_rule_75 : decode cX6_rule 75 = .ok (.getfield 40, 3) := by decide +kernel
theorem dX6_rule_78 : decode cX6_rule 78 = .ok (.aload_n 0, 1) := by decide +kernel
theorem dX6_rule_79 : decode cX6_rule 79 = .ok (.getfield 101, 3) := by decide +kernel
theorem dX6_rule_82 : decode cX6_rule 82 = .ok (.iload_n 3, 1) := by decide +kernel
theorem dX6_rule_83 : decode cX6_rule 83 = .ok (.iastore, 1) := by decide +kernel
theorem dX6_rule_84 : decode cX6_rule 84 = .ok (.aload_n 0, 1) := by decide +kernel
theorem dX6_rule_85 : decode cX6_rule 85 = .ok (.getfield 43, 3) := by decide +kernel
theorem dX6_rule_88 : decode cX6_rule 88 = .ok (.aload_n 0, 1) := by decide +kernel
theorem dX6_rule_89 : decode cX6_rule 89 = .ok (.getfield 101, 3) := by decide +kernel
theorem dX6_rule_92 : decode cX6_rule 92 = .ok (.iload 4, 2) := by decide +kernel
theorem dX6_rule_94 : decode cX6_rule 94 = .ok (.iastore, 1) := by decide +kernel
theorem dX6_rule_95 : decode cX6_rule 95 = .ok (.aload_n 0, 1) := by decide +kernel
theorem dX6_rule_96 : decode cX6_rule 96 = .ok (.dup, 1) := by decide +kernel
theorem dX6_rule_97 : decode cX6_rule 97 = .ok (.getfield 101, 3) := by decide +kernel
theorem dX6_rule_100 : decode cX6_rule 100 = .ok (.iconst 1, 1) := by decide +kernel
theorem dX6_rule_101 : decode cX6_rule 101 = .ok (.iadd, 1) := by decide +kernel
theorem dX6_rule_102 : decode cX6_rule 102 = .ok (.putfield 101, 3) := by decide +kernel
theorem dX6_rule_105 : decode cX6_rule 105 = .ok (.aload_n 0, 1) := by decide +kernel
theorem dX6_rule_106 : decode cX6_rule 106 = .ok (.getfield 101, 3) := by decide +kernel
theorem dX6_rule_109 : decode cX6_rule 109 = .ok (.iconst 1, 1) := by decide +kernel
theorem dX6_rule_110 : decode cX6_rule 110 = .ok (.isub, 1) := by decide +kernel
theorem dX6_rule_111 : decode cX6_rule 111 = .ok (.ireturn, 1) := by decide +kernel
theorem dX6_forbidden_0 : decode cX6_forbidden 0 = .ok (.iconst 0, 1) := by decide +kernel
theorem dX6_forbidden_1 : decode cX6_forbidden 1 = .ok (.istore_n 3, 1) := by decide +kernel
theorem dX6_forbidden_2 : decode cX6_forbidden 2 = .ok (.iconst 0, 1) := by decide +kernel
theorem dX6_forbidden_3 : decode cX6_forbidden 3 = .ok (.istore 4, 2) := by decide +kernel
theorem dX6_forbidden_5 : decode cX6_forbidden 5 = .ok (.iload 4, 2) := by decide +kernel
theorem dX6_forbidden_7 : decode cX6_forbidden 7 = .ok (.aload_n 0, 1) := by decide +kernel
theorem dX6_forbidden_8 : decode cX6_forbidden 8 = .ok (.getfield 101, 3) := by decide +kernel
theorem dX6_forbidden_11 : decode cX6_forbidden 11 = .ok (.if_icmp .ge 56, 3) := by decide +kernel
theorem dX6_forbidden_14 : decode cX6_forbidden 14 = .ok (.iload_n 3, 1) := by decide +kernel
theorem dX6_forbidden_15 : decode cX6_forbidden 15 = .ok (.aload_n 0, 1) := by decide +kernel
theorem dX6_forbidden_16 : decode cX6_forbidden 16 = .ok (.getfield 34, 3) := by decide +kernel
theorem dX6_forbidden_19 : decode cX6_forbidden 19 = .ok (.iload 4, 2) := by decide +kernel
theorem dX6_forbidden_21 : decode cX6_forbidden 21 = .ok (.iaload, 1) := by decide +kernel
theorem dX6_forbidden_22 : decode cX6_forbidden 22 = .ok (.iload_n 1, 1) := by decide +kernel
theorem dX6_forbidden_23 : decode cX6_forbidden 23 = .ok (.if_icmp .ne 35, 3) := by decide +kernel
theorem dX6_forbidden_26 : decode cX6_forbidden 26 = .ok (.iload_n 2, 1) := by decide +kernel
theorem dX6_forbidden_27 : decode cX6_forbidden 27 = .ok (.aload_n 0, 1) := by decide +kernel
theorem dX6_forbidden_28 : decode cX6_forbidden 28 = .ok (.getfield 40, 3) := by decide +kernel
theorem dX6_forbidden_31 : decode cX6_forbidden 31 = .ok (.iload 4, 2) := by decide +kernel
theorem dX6_forbidden_33 : decode cX6_forbidden 33 = .ok (.iaload, 1) := by decide +kernel
theorem dX6_forbidden_34 : decode cX6_forbidden 34 = .ok (.if_icmp .lt 24, 3) := by decide +kernel
theorem dX6_forbidden_37 : decode cX6_forbidden 37 = .ok (.iload_n 2, 1) := by decide +kernel
theorem dX6_forbidden_38 : decode cX6_forbidden 38 = .ok (.aload_n 0, 1) := by decide +kernel
theorem dX6_forbidden_39 : decode cX6_forbidden 39 = .ok (.getfield 43, 3) := by decide +kernel
theorem dX6_forbidden_42 : decode cX6_forbidden 42 = .ok (.iload 4, 2) := by decide +kernel
theorem dX6_forbidden_44 : decode cX6_forbidden 44 = .ok (.iaload, 1) := by decide +kernel
theorem dX6_forbidden_45 : decode cX6_forbidden 45 = .ok (.if_icmp .gt 13, 3) := by decide +kernel
theorem dX6_forbidden_48 : decode cX6_forbidden 48 = .ok (.aload_n 0, 1) := by decide +kernel
theorem dX6_forbidden_49 : decode cX6_forbidden 49 = .ok (.getfield 37, 3) := by decide +kernel
theorem dX6_forbidden_52 : decode cX6_forbidden 52 = .ok (.iload 4, 2) := by decide +kernel
theorem dX6_forbidden_54 : decode cX6_forbidden 54 = .ok (.iaload, 1) := by decide +kernel
theorem dX6_forbidden_55 : decode cX6_forbidden 55 = .ok (.goto 4, 3) := by decide +kernel
theorem dX6_forbidden_58 : decode cX6_forbidden 58 = .ok (.iconst 0, 1) := by decide +kernel
theorem dX6_forbidden_59 : decode cX6_forbidden 59 = .ok (.ior, 1) := by decide +kernel
theorem dX6_forbidden_60 : decode cX6_forbidden 60 = .ok (.istore_n 3, 1) := by decide +kernel
theorem dX6_forbidden_61 : decode cX6_forbidden 61 = .ok (.iinc 4 1, 3) := by decide +kernel
theorem dX6_forbidden_64 : decode cX6_forbidden 64 = .ok (.goto (-59), 3) := by decide +kernel
theorem dX6_forbidden_67 : decode cX6_forbidden 67 = .ok (.iload_n 3, 1) := by decide +kernel
theorem dX6_forbidden_68 : decode cX6_forbidden 68 = .ok (.ireturn, 1) := by decide +kernel
theorem dX6_cutOf_0 : decode cX6_cutOf 0 = .ok (.aload_n 0, 1) := by decide +kernel
theorem dX6_cutOf_1 : decode cX6_cutOf 1 = .ok (.iload_n 2, 1) := by decide +kernel
theorem dX6_cutOf_2 : decode cX6_cutOf 2 = .ok (.iload_n 3, 1) := by decide +kernel
theorem dX6_cutOf_3 : decode cX6_cutOf 3 = .ok (.invokevirtual 104, 3) := by decide +kernel
theorem dX6_cutOf_6 : decode cX6_cutOf 6 = .ok (.istore 4, 2) := by decide +kernel
theorem dX6_cutOf_8 : decode cX6_cutOf 8 = .ok (.iconst 0, 1) := by decide +kernel
theorem dX6_cutOf_9 : decode cX6_cutOf 9 = .ok (.istore 5, 2) := by decide +kernel
theorem dX6_cutOf_11 : decode cX6_cutOf 11 = .ok (.iconst 0, 1) := by decide +kernel
theorem dX6_cutOf_12 : decode cX6_cutOf 12 = .ok (.istore 6, 2) := by decide +kernel
theorem dX6_cutOf_14 : decode cX6_cutOf 14 = .ok (.iload 6, 2) := by decide +kernel
theorem dX6_cutOf_16 : decode cX6_cutOf 16 = .ok (.aload_n 0, 1) := by decide +kernel
theorem dX6_cutOf_17 : decode cX6_cutOf 17 = .ok (.getfield 13, 3) := by decide +kernel
theorem dX6_cutOf_20 : decode cX6_cutOf 20 = .ok (.iload_n 1, 1) := by decide +kernel
theorem dX6_cutOf_21 : decode cX6_cutOf 21 = .ok (.iaload, 1) := by decide +kernel
theorem dX6_cutOf_22 : decode cX6_cutOf 22 = .ok (.if_icmp .ge 42, 3) := by decide +kernel
theorem dX6_cutOf_25 : decode cX6_cutOf 25 = .ok (.iload 5, 2) := by decide +kernel
theorem dX6_cutOf_27 : decode cX6_cutOf 27 = .ok (.aload_n 0, 1) := by decide +kernel
theorem dX6_cutOf_28 : decode cX6_cutOf 28 = .ok (.getfield 31, 3) := by decide +kernel
theorem dX6_cutOf_31 : decode cX6_cutOf 31 = .ok (.aload_n 0, 1) := by decide +kernel
theorem dX6_cutOf_32 : decode cX6_cutOf 32 = .ok (.getfield 7, 3) := by decide +kernel
theorem dX6_cutOf_35 : decode cX6_cutOf 35 = .ok (.bipush 40, 2) := by decide +kernel
theorem dX6_cutOf_37 : decode cX6_cutOf 37 = .ok (.iload_n 1, 1) := by decide +kernel
theorem dX6_cutOf_38 : decode cX6_cutOf 38 = .ok (.imul, 1) := by decide +kernel
theorem dX6_cutOf_39 : decode cX6_cutOf 39 = .ok (.iload 6, 2) := by decide +kernel
theorem dX6_cutOf_41 : decode cX6_cutOf 41 = .ok (.iadd, 1) := by decide +kernel
theorem dX6_cutOf_42 : decode cX6_cutOf 42 = .ok (.iaload, 1) := by decide +kernel
theorem dX6_cutOf_43 : decode cX6_cutOf 43 = .ok (.iaload, 1) := by decide +kernel
theorem dX6_cutOf_44 : decode cX6_cutOf 44 = .ok (.iload 4, 2) := by decide +kernel
theorem dX6_cutOf_46 : decode cX6_cutOf 46 = .ok (.iand, 1) := by decide +kernel
theorem dX6_cutOf_47 : decode cX6_cutOf 47 = .ok (.ifCond .eq 7, 3) := by decide +kernel
theorem dX6_cutOf_50 : decode cX6_cutOf 50 = .ok (.iconst 1, 1) := by decide +kernel
theorem dX6_cutOf_51 : decode cX6_cutOf 51 = .ok (.goto 4, 3) := by decide +kernel
theorem dX6_cutOf_54 : decode cX6_cutOf 54 = .ok (.iconst 0, 1) := by decide +kernel
theorem dX6_cutOf_55 : decode cX6_cutOf 55 = .ok (.iadd, 1) := by decide +kernel
theorem dX6_cutOf_56 : decode cX6_cutOf 56 = .ok (.istore 5, 2) := by decide +kernel
theorem dX6_cutOf_58 : decode cX6_cutOf 58 = .ok (.iinc 6 1, 3) := by decide +kernel
theorem dX6_cutOf_61 : decode cX6_cutOf 61 = .ok (.goto (-47), 3) := by decide +kernel
theorem dX6_cutOf_64 : decode cX6_cutOf 64 = .ok (.iload 5, 2) := by decide +kernel
theorem dX6_cutOf_66 : decode cX6_cutOf 66 = .ok (.ireturn, 1) := by decide +kernel
theorem dX6_cut_0 : decode cX6_cut 0 = .ok (.iload_n 1, 1) := by decide +kernel
theorem dX6_cut_1 : decode cX6_cut 1 = .ok (.invokestatic 66, 3) := by decide +kernel
theorem dX6_cut_4 : decode cX6_cut 4 = .ok (.ifCond .eq 27, 3) := by decide +kernel
theorem dX6_cut_7 : decode cX6_cut 7 = .ok (.iload_n 2, 1) := by decide +kernel
theorem dX6_cut_8 : decode cX6_cut 8 = .ok (.invokestatic 95, 3) := by decide +kernel
theorem dX6_cut_11 : decode cX6_cut 11 = .ok (.ifCond .eq 20, 3) := by decide +kernel
theorem dX6_cut_14 : decode cX6_cut 14 = .ok (.iload_n 3, 1) := by decide +kernel
theorem dX6_cut_15 : decode cX6_cut 15 = .ok (.invokestatic 98, 3) := by decide +kernel
theorem dX6_cut_18 : decode cX6_cut 18 = .ok (.ifCond .eq 13, 3) := by decide +kernel
theorem dX6_cut_21 : decode cX6_cut 21 = .ok (.aload_n 0, 1) := by decide +kernel
theorem dX6_cut_22 : decode cX6_cut 22 = .ok (.iload_n 1, 1) := by decide +kernel
theorem dX6_cut_23 : decode cX6_cut 23 = .ok (.iload_n 2, 1) := by decide +kernel
theorem dX6_cut_24 : decode cX6_cut 24 = .ok (.iload_n 3, 1) := by decide +kernel
theorem dX6_cut_25 : decode cX6_cut 25 = .ok (.invokevirtual 107, 3) := by decide +kernel
theorem dX6_cut_28 : decode cX6_cut 28 = .ok (.goto 5, 3) := by decide +kernel
theorem dX6_cut_31 : decode cX6_cut 31 = .ok (.bipush (-2), 2) := by decide +kernel
theorem dX6_cut_33 : decode cX6_cut 33 = .ok (.ireturn, 1) := by decide +kernel
theorem dX6_fit_0 : decode cX6_fit 0 = .ok (.iload_n 1, 1) := by decide +kernel
theorem dX6_fit_1 : decode cX6_fit 1 = .ok (.invokestatic 66, 3) := by decide +kernel
theorem dX6_fit_4 : decode cX6_fit 4 = .ok (.ifCond .eq 25, 3) := by decide +kernel
theorem dX6_fit_7 : decode cX6_fit 7 = .ok (.iload_n 2, 1) := by decide +kernel
theorem dX6_fit_8 : decode cX6_fit 8 = .ok (.invokestatic 95, 3) := by decide +kernel
theorem dX6_fit_11 : decode cX6_fit 11 = .ok (.ifCond .eq 18, 3) := by decide +kernel
theorem dX6_fit_14 : decode cX6_fit 14 = .ok (.iload_n 3, 1) := by decide +kernel
theorem dX6_fit_15 : decode cX6_fit 15 = .ok (.invokestatic 98, 3) := by decide +kernel
theorem dX6_fit_18 : decode cX6_fit 18 = .ok (.ifCond .eq 11, 3) := by decide +kernel
theorem dX6_fit_21 : decode cX6_fit 21 = .ok (.iload 4, 2) := by decide +kernel
theorem dX6_fit_23 : decode cX6_fit 23 = .ok (.invokestatic 66, 3) := by decide +kernel
theorem dX6_fit_26 : decode cX6_fit 26 = .ok (.ifCond .ne 6, 3) := by decide +kernel
theorem dX6_fit_29 : decode cX6_fit 29 = .ok (.bipush (-2), 2) := by decide +kernel
theorem dX6_fit_31 : decode cX6_fit 31 = .ok (.ireturn, 1) := by decide +kernel
theorem dX6_fit_32 : decode cX6_fit 32 = .ok (.aload_n 0, 1) := by decide +kernel
theorem dX6_fit_33 : decode cX6_fit 33 = .ok (.iload_n 2, 1) := by decide +kernel
theorem dX6_fit_34 : decode cX6_fit 34 = .ok (.iload_n 3, 1) := by decide +kernel
theorem dX6_fit_35 : decode cX6_fit 35 = .ok (.invokevirtual 104, 3) := by decide +kernel
theorem dX6_fit_38 : decode cX6_fit 38 = .ok (.istore 5, 2) := by decide +kernel
theorem dX6_fit_40 : decode cX6_fit 40 = .ok (.iconst 0, 1) := by decide +kernel
theorem dX6_fit_41 : decode cX6_fit 41 = .ok (.istore 6, 2) := by decide +kernel
theorem dX6_fit_43 : decode cX6_fit 43 = .ok (.aload_n 0, 1) := by decide +kernel
theorem dX6_fit_44 : decode cX6_fit 44 = .ok (.getfield 13, 3) := by decide +kernel
theorem dX6_fit_47 : decode cX6_fit 47 = .ok (.iload_n 1, 1) := by decide +kernel
theorem dX6_fit_48 : decode cX6_fit 48 = .ok (.iaload, 1) := by decide +kernel
theorem dX6_fit_49 : decode cX6_fit 49 = .ok (.istore 7, 2) := by decide +kernel
theorem dX6_fit_51 : decode cX6_fit 51 = .ok (.iconst 0, 1) := by decide +kernel
theorem dX6_fit_52 : decode cX6_fit 52 = .ok (.istore 8, 2) := by decide +kernel
theorem dX6_fit_54 : decode cX6_fit 54 = .ok (.iload 8, 2) := by decide +kernel
theorem dX6_fit_56 : decode cX6_fit 56 = .ok (.iload 7, 2) := by decide +kernel
theorem dX6_fit_58 : decode cX6_fit 58 = .ok (.if_icmp .ge 54, 3) := by decide +kernel
theorem dX6_fit_61 : decode cX6_fit 61 = .ok (.aload_n 0, 1) := by decide +kernel
theorem dX6_fit_62 : decode cX6_fit 62 = .ok (.getfield 7, 3) := by decide +kernel
theorem dX6_fit_65 : decode cX6_fit 65 = .ok (.bipush 40, 2) := by decide +kernel
theorem dX6_fit_67 : decode cX6_fit 67 = .ok (.iload_n 1, 1) := by decide +kernel
theorem dX6_fit_68 : decode cX6_fit 68 = .ok (.imul, 1) := by decide +kernel
theorem dX6_fit_69 : decode cX6_fit 69 = .ok (.iload 8, 2) := by decide +kernel
theorem dX6_fit_71 : decode cX6_fit 71 = .ok (.iadd, 1) := by decide +kernel
theorem dX6_fit_72 : decode cX6_fit 72 = .ok (.iaload, 1) := by decide +kernel
theorem dX6_fit_73 : decode cX6_fit 73 = .ok (.istore 9, 2) := by decide +kernel
theorem dX6_fit_75 : decode cX6_fit 75 = .ok (.aload_n 0, 1) := by decide +kernel
theorem dX6_fit_76 : decode cX6_fit 76 = .ok (.getfield 31, 3) := by decide +kernel
theorem dX6_fit_79 : decode cX6_fit 79 = .ok (.iload 9, 2) := by decide +kernel
theorem dX6_fit_81 : decode cX6_fit 81 = .ok (.iaload, 1) := by decide +kernel
theorem dX6_fit_82 : decode cX6_fit 82 = .ok (.iload 5, 2) := by decide +kernel
theorem dX6_fit_84 : decode cX6_fit 84 = .ok (.iand, 1) := by decide +kernel
theorem dX6_fit_85 : decode cX6_fit 85 = .ok (.ifCond .ne 21, 3) := by decide +kernel
theorem dX6_fit_88 : decode cX6_fit 88 = .ok (.aload_n 0, 1) := by decide +kernel
theorem dX6_fit_89 : decode cX6_fit 89 = .ok (.getfield 7, 3) := by decide +kernel
theorem dX6_fit_92 : decode cX6_fit 92 = .ok (.bipush 40, 2) := by decide +kernel
theorem dX6_fit_94 : decode cX6_fit 94 = .ok (.iload 4, 2) := by decide +kernel
theorem dX6_fit_96 : decode cX6_fit 96 = .ok (.imul, 1) := by decide +kernel
theorem dX6_fit_97 : decode cX6_fit 97 = .ok (.iload 6, 2) := by decide +kernel
theorem dX6_fit_99 : decode cX6_fit 99 = .ok (.iadd, 1) := by decide +kernel
theorem dX6_fit_100 : decode cX6_fit 100 = .ok (.iload 9, 2) := by decide +kernel
theorem dX6_fit_102 : decode cX6_fit 102 = .ok (.iastore, 1) := by decide +kernel
theorem dX6_fit_103 : decode cX6_fit 103 = .ok (.iinc 6 1, 3) := by decide +kernel
theorem dX6_fit_106 : decode cX6_fit 106 = .ok (.iinc 8 1, 3) := by decide +kernel
theorem dX6_fit_109 : decode cX6_fit 109 = .ok (.goto (-55), 3) := by decide +kernel
theorem dX6_fit_112 : decode cX6_fit 112 = .ok (.aload_n 0, 1) := by decide +kernel
theorem dX6_fit_113 : decode cX6_fit 113 = .ok (.getfield 13, 3) := by decide +kernel
theorem dX6_fit_116 : decode cX6_fit 116 = .ok (.iload 4, 2) := by decide +kernel
theorem dX6_fit_118 : decode cX6_fit 118 = .ok (.iload 6, 2) := by decide +kernel
theorem dX6_fit_120 : decode cX6_fit 120 = .ok (.iastore, 1) := by decide +kernel
theorem dX6_fit_121 : decode cX6_fit 121 = .ok (.iload 6, 2) := by decide +kernel
theorem dX6_fit_123 : decode cX6_fit 123 = .ok (.ireturn, 1) := by decide +kernel
theorem dX6_many_0 : decode cX6_many 0 = .ok (.iconst 0, 1) := by decide +kernel
theorem dX6_many_1 : decode cX6_many 1 = .ok (.istore_n 1, 1) := by decide +kernel
theorem dX6_many_2 : decode cX6_many 2 = .ok (.iconst 0, 1) := by decide +kernel
theorem dX6_many_3 : decode cX6_many 3 = .ok (.istore_n 2, 1) := by decide +kernel
theorem dX6_many_4 : decode cX6_many 4 = .ok (.iload_n 2, 1) := by decide +kernel
theorem dX6_many_5 : decode cX6_many 5 = .ok (.bipush 8, 2) := by decide +kernel
theorem dX6_many_7 : decode cX6_many 7 = .ok (.if_icmp .ge 17, 3) := by decide +kernel
theorem dX6_many_10 : decode cX6_many 10 = .ok (.iload_n 1, 1) := by decide +kernel
theorem dX6_many_11 : decode cX6_many 11 = .ok (.iload_n 0, 1) := by decide +kernel
theorem dX6_many_12 : decode cX6_many 12 = .ok (.iload_n 2, 1) := by decide +kernel
theorem dX6_many_13 : decode cX6_many 13 = .ok (.ishr, 1) := by decide +kernel
theorem dX6_many_14 : decode cX6_many 14 = .ok (.iconst 1, 1) := by decide +kernel
theorem dX6_many_15 : decode cX6_many 15 = .ok (.iand, 1) := by decide +kernel
theorem dX6_many_16 : decode cX6_many 16 = .ok (.iadd, 1) := by decide +kernel
theorem dX6_many_17 : decode cX6_many 17 = .ok (.istore_n 1, 1) := by decide +kernel
theorem dX6_many_18 : decode cX6_many 18 = .ok (.iinc 2 1, 3) := by decide +kernel
theorem dX6_many_21 : decode cX6_many 21 = .ok (.goto (-17), 3) := by decide +kernel
theorem dX6_many_24 : decode cX6_many 24 = .ok (.iload_n 1, 1) := by decide +kernel
theorem dX6_many_25 : decode cX6_many 25 = .ok (.ireturn, 1) := by decide +kernel
theorem dX6_tour_0 : decode cX6_tour 0 = .ok (.iload_n 1, 1) := by decide +kernel
theorem dX6_tour_1 : decode cX6_tour 1 = .ok (.invokestatic 66, 3) := by decide +kernel
theorem dX6_tour_4 : decode cX6_tour 4 = .ok (.ifCond .eq 32, 3) := by decide +kernel
theorem dX6_tour_7 : decode cX6_tour 7 = .ok (.iload_n 2, 1) := by decide +kernel
theorem dX6_tour_8 : decode cX6_tour 8 = .ok (.iconst 1, 1) := by decide +kernel
theorem dX6_tour_9 : decode cX6_tour 9 = .ok (.sipush 255, 3) := by decide +kernel
theorem dX6_tour_12 : decode cX6_tour 12 = .ok (.invokestatic 62, 3) := by decide +kernel
theorem dX6_tour_15 : decode cX6_tour 15 = .ok (.ifCond .eq 21, 3) := by decide +kernel
theorem dX6_tour_18 : decode cX6_tour 18 = .ok (.iload_n 3, 1) := by decide +kernel
theorem dX6_tour_19 : decode cX6_tour 19 = .ok (.invokestatic 98, 3) := by decide +kernel
theorem dX6_tour_22 : decode cX6_tour 22 = .ok (.ifCond .eq 14, 3) := by decide +kernel
theorem dX6_tour_25 : decode cX6_tour 25 = .ok (.iload 4, 2) := by decide +kernel
theorem dX6_tour_27 : decode cX6_tour 27 = .ok (.iconst 0, 1) := by decide +kernel
theorem dX6_tour_28 : decode cX6_tour 28 = .ok (.bipush 20, 2) := by decide +kernel
theorem dX6_tour_30 : decode cX6_tour 30 = .ok (.invokestatic 62, 3) := by decide +kernel
theorem dX6_tour_33 : decode cX6_tour 33 = .ok (.ifCond .ne 6, 3) := by decide +kernel
theorem dX6_tour_36 : decode cX6_tour 36 = .ok (.bipush (-2), 2) := by decide +kernel
theorem dX6_tour_38 : decode cX6_tour 38 = .ok (.ireturn, 1) := by decide +kernel
theorem dX6_tour_39 : decode cX6_tour 39 = .ok (.iload_n 2, 1) := by decide +kernel
theorem dX6_tour_40 : decode cX6_tour 40 = .ok (.invokestatic 111, 3) := by decide +kernel
theorem dX6_tour_43 : decode cX6_tour 43 = .ok (.istore 5, 2) := by decide +kernel
theorem dX6_tour_45 : decode cX6_tour 45 = .ok (.iload_n 3, 1) := by decide +kernel
theorem dX6_tour_46 : decode cX6_tour 46 = .ok (.iload 5, 2) := by decide +kernel
theorem dX6_tour_48 : decode cX6_tour 48 = .ok (.iconst 1, 1) := by decide +kernel
theorem dX6_tour_49 : decode cX6_tour 49 = .ok (.isub, 1) := by decide +kernel
theorem dX6_tour_50 : decode cX6_tour 50 = .ok (.iload 4, 2) := by decide +kernel
theorem dX6_tour_52 : decode cX6_tour 52 = .ok (.iconst 1, 1) := by decide +kernel
theorem dX6_tour_53 : decode cX6_tour 53 = .ok (.iadd, 1) := by decide +kernel
theorem dX6_tour_54 : decode cX6_tour 54 = .ok (.imul, 1) := by decide +kernel
theorem dX6_tour_55 : decode cX6_tour 55 = .ok (.iadd, 1) := by decide +kernel
theorem dX6_tour_56 : decode cX6_tour 56 = .ok (.sipush 999, 3) := by decide +kernel
theorem dX6_tour_59 : decode cX6_tour 59 = .ok (.if_icmp .le 6, 3) := by decide +kernel
theorem dX6_tour_62 : decode cX6_tour 62 = .ok (.bipush (-3), 2) := by decide +kernel
theorem dX6_tour_64 : decode cX6_tour 64 = .ok (.ireturn, 1) := by decide +kernel
theorem dX6_tour_65 : decode cX6_tour 65 = .ok (.iconst 0, 1) := by decide +kernel
theorem dX6_tour_66 : decode cX6_tour 66 = .ok (.istore 6, 2) := by decide +kernel
theorem dX6_tour_68 : decode cX6_tour 68 = .ok (.iload 6, 2) := by decide +kernel
theorem dX6_tour_70 : decode cX6_tour 70 = .ok (.iload 5, 2) := by decide +kernel
theorem dX6_tour_72 : decode cX6_tour 72 = .ok (.if_icmp .ge 54, 3) := by decide +kernel
theorem dX6_tour_75 : decode cX6_tour 75 = .ok (.iconst 0, 1) := by decide +kernel
theorem dX6_tour_76 : decode cX6_tour 76 = .ok (.istore 7, 2) := by decide +kernel
theorem dX6_tour_78 : decode cX6_tour 78 = .ok (.iload 7, 2) := by decide +kernel
theorem dX6_tour_80 : decode cX6_tour 80 = .ok (.bipush 8, 2) := by decide +kernel
theorem dX6_tour_82 : decode cX6_tour 82 = .ok (.if_icmp .ge 38, 3) := by decide +kernel
theorem dX6_tour_85 : decode cX6_tour 85 = .ok (.aload_n 0, 1) := by decide +kernel
theorem dX6_tour_86 : decode cX6_tour 86 = .ok (.getfield 52, 3) := by decide +kernel
theorem dX6_tour_89 : decode cX6_tour 89 = .ok (.bipush 8, 2) := by decide +kernel
theorem dX6_tour_91 : decode cX6_tour 91 = .ok (.iload 6, 2) := by decide +kernel
theorem dX6_tour_93 : decode cX6_tour 93 = .ok (.imul, 1) := by decide +kernel
theorem dX6_tour_94 : decode cX6_tour 94 = .ok (.iload 7, 2) := by decide +kernel
theorem dX6_tour_96 : decode cX6_tour 96 = .ok (.iadd, 1) := by decide +kernel
theorem dX6_tour_97 : decode cX6_tour 97 = .ok (.aload_n 0, 1) := by decide +kernel
theorem dX6_tour_98 : decode cX6_tour 98 = .ok (.iload_n 1, 1) := by decide +kernel
theorem dX6_tour_99 : decode cX6_tour 99 = .ok (.iload 7, 2) := by decide +kernel
theorem dX6_tour_101 : decode cX6_tour 101 = .ok (.iload_n 3, 1) := by decide +kernel
theorem dX6_tour_102 : decode cX6_tour 102 = .ok (.iload 6, 2) := by decide +kernel
theorem dX6_tour_104 : decode cX6_tour 104 = .ok (.iload 4, 2) := by decide +kernel
theorem dX6_tour_106 : decode cX6_tour 106 = .ok (.iconst 1, 1) := by decide +kernel
theorem dX6_tour_107 : decode cX6_tour 107 = .ok (.iadd, 1) := by decide +kernel
theorem dX6_tour_108 : decode cX6_tour 108 = .ok (.imul, 1) := by decide +kernel
theorem dX6_tour_109 : decode cX6_tour 109 = .ok (.iadd, 1) := by decide +kernel
theorem dX6_tour_110 : decode cX6_tour 110 = .ok (.invokevirtual 107, 3) := by decide +kernel
theorem dX6_tour_113 : decode cX6_tour 113 = .ok (.iastore, 1) := by decide +kernel
theorem dX6_tour_114 : decode cX6_tour 114 = .ok (.iinc 7 1, 3) := by decide +kernel
theorem dX6_tour_117 : decode cX6_tour 117 = .ok (.goto (-39), 3) := by decide +kernel
theorem dX6_tour_120 : decode cX6_tour 120 = .ok (.iinc 6 1, 3) := by decide +kernel
theorem dX6_tour_123 : decode cX6_tour 123 = .ok (.goto (-55), 3) := by decide +kernel
theorem dX6_tour_126 : decode cX6_tour 126 = .ok (.iconst 0, 1) := by decide +kernel
theorem dX6_tour_127 : decode cX6_tour 127 = .ok (.istore 6, 2) := by decide +kernel
theorem dX6_tour_129 : decode cX6_tour 129 = .ok (.iload 6, 2) := by decide +kernel
theorem dX6_tour_131 : decode cX6_tour 131 = .ok (.iload_n 2, 1) := by decide +kernel
theorem dX6_tour_132 : decode cX6_tour 132 = .ok (.if_icmp .gt 123, 3) := by decide +kernel
theorem dX6_tour_135 : decode cX6_tour 135 = .ok (.iload 6, 2) := by decide +kernel
theorem dX6_tour_137 : decode cX6_tour 137 = .ok (.iload_n 2, 1) := by decide +kernel
theorem dX6_tour_138 : decode cX6_tour 138 = .ok (.iconst (-1), 1) := by decide +kernel
theorem dX6_tour_139 : decode cX6_tour 139 = .ok (.ixor, 1) := by decide +kernel
theorem dX6_tour_140 : decode cX6_tour 140 = .ok (.iand, 1) := by decide +kernel
theorem dX6_tour_141 : decode cX6_tour 141 = .ok (.ifCond .ne 108, 3) := by decide +kernel
theorem dX6_tour_144 : decode cX6_tour 144 = .ok (.iload 5, 2) := by decide +kernel
theorem dX6_tour_146 : decode cX6_tour 146 = .ok (.iload 6, 2) := by decide +kernel
theorem dX6_tour_148 : decode cX6_tour 148 = .ok (.invokestatic 111, 3) := by decide +kernel
theorem dX6_tour_151 : decode cX6_tour 151 = .ok (.isub, 1) := by decide +kernel
theorem dX6_tour_152 : decode cX6_tour 152 = .ok (.istore 7, 2) := by decide +kernel
theorem dX6_tour_154 : decode cX6_tour 154 = .ok (.iload 6, 2) := by decide +kernel
theorem dX6_tour_156 : decode cX6_tour 156 = .ok (.ifCond .ne 7, 3) := by decide +kernel
theorem dX6_tour_159 : decode cX6_tour 159 = .ok (.iconst 0, 1) := by decide +kernel
theorem dX6_tour_160 : decode cX6_tour 160 = .ok (.goto 5, 3) := by decide +kernel
theorem dX6_tour_163 : decode cX6_tour 163 = .ok (.ldc 115, 2) := by decide +kernel
theorem dX6_tour_165 : decode cX6_tour 165 = .ok (.istore 8, 2) := by decide +kernel
theorem dX6_tour_167 : decode cX6_tour 167 = .ok (.iconst 0, 1) := by decide +kernel
theorem dX6_tour_168 : decode cX6_tour 168 = .ok (.istore 9, 2) := by decide +kernel
theorem dX6_tour_170 : decode cX6_tour 170 = .ok (.iload 9, 2) := by decide +kernel
theorem dX6_tour_172 : decode cX6_tour 172 = .ok (.bipush 8, 2) := by decide +kernel
theorem dX6_tour_174 : decode cX6_tour 174 = .ok (.if_icmp .ge 66, 3) := by decide +kernel
theorem dX6_tour_177 : decode cX6_tour 177 = .ok (.iload 6, 2) := by decide +kernel
theorem dX6_tour_179 : decode cX6_tour 179 = .ok (.iload 9, 2) := by decide +kernel
theorem dX6_tour_181 : decode cX6_tour 181 = .ok (.ishr, 1) := by decide +kernel
theorem dX6_tour_182 : decode cX6_tour 182 = .ok (.iconst 1, 1) := by decide +kernel
theorem dX6_tour_183 : decode cX6_tour 183 = .ok (.iand, 1) := by decide +kernel
theorem dX6_tour_184 : decode cX6_tour 184 = .ok (.iconst 1, 1) := by decide +kernel
theorem dX6_tour_185 : decode cX6_tour 185 = .ok (.if_icmp .ne 49, 3) := by decide +kernel
theorem dX6_tour_188 : decode cX6_tour 188 = .ok (.aload_n 0, 1) := by decide +kernel
theorem dX6_tour_189 : decode cX6_tour 189 = .ok (.getfield 52, 3) := by decide +kernel
theorem dX6_tour_192 : decode cX6_tour 192 = .ok (.bipush 8, 2) := by decide +kernel
theorem dX6_tour_194 : decode cX6_tour 194 = .ok (.iload 7, 2) := by decide +kernel
theorem dX6_tour_196 : decode cX6_tour 196 = .ok (.imul, 1) := by decide +kernel
theorem dX6_tour_197 : decode cX6_tour 197 = .ok (.iload 9, 2) := by decide +kernel
theorem dX6_tour_199 : decode cX6_tour 199 = .ok (.iadd, 1) := by decide +kernel
theorem dX6_tour_200 : decode cX6_tour 200 = .ok (.iaload, 1) := by decide +kernel
theorem dX6_tour_201 : decode cX6_tour 201 = .ok (.aload_n 0, 1) := by decide +kernel
theorem dX6_tour_202 : decode cX6_tour 202 = .ok (.getfield 49, 3) := by decide +kernel
theorem dX6_tour_205 : decode cX6_tour 205 = .ok (.iload 6, 2) := by decide +kernel
theorem dX6_tour_207 : decode cX6_tour 207 = .ok (.iconst 1, 1) := by decide +kernel
theorem dX6_tour_208 : decode cX6_tour 208 = .ok (.iload 9, 2) := by decide +kernel
theorem dX6_tour_210 : decode cX6_tour 210 = .ok (.ishl, 1) := by decide +kernel
theorem dX6_tour_211 : decode cX6_tour 211 = .ok (.iconst (-1), 1) := by decide +kernel
theorem dX6_tour_212 : decode cX6_tour 212 = .ok (.ixor, 1) := by decide +kernel
theorem dX6_tour_213 : decode cX6_tour 213 = .ok (.iand, 1) := by decide +kernel
theorem dX6_tour_214 : decode cX6_tour 214 = .ok (.iaload, 1) := by decide +kernel
theorem dX6_tour_215 : decode cX6_tour 215 = .ok (.iadd, 1) := by decide +kernel
theorem dX6_tour_216 : decode cX6_tour 216 = .ok (.istore 10, 2) := by decide +kernel
theorem dX6_tour_218 : decode cX6_tour 218 = .ok (.iload 10, 2) := by decide +kernel
theorem dX6_tour_220 : decode cX6_tour 220 = .ok (.iload 8, 2) := by decide +kernel
theorem dX6_tour_222 : decode cX6_tour 222 = .ok (.if_icmp .ge 8, 3) := by decide +kernel
theorem dX6_tour_225 : decode cX6_tour 225 = .ok (.iload 10, 2) := by decide +kernel
theorem dX6_tour_227 : decode cX6_tour 227 = .ok (.goto 5, 3) := by decide +kernel
theorem dX6_tour_230 : decode cX6_tour 230 = .ok (.iload 8, 2) := by decide +kernel
theorem dX6_tour_232 : decode cX6_tour 232 = .ok (.istore 8, 2) := by decide +kernel
theorem dX6_tour_234 : decode cX6_tour 234 = .ok (.iinc 9 1, 3) := by decide +kernel
theorem dX6_tour_237 : decode cX6_tour 237 = .ok (.goto (-67), 3) := by decide +kernel
theorem dX6_tour_240 : decode cX6_tour 240 = .ok (.aload_n 0, 1) := by decide +kernel
theorem dX6_tour_241 : decode cX6_tour 241 = .ok (.getfield 49, 3) := by decide +kernel
theorem dX6_tour_244 : decode cX6_tour 244 = .ok (.iload 6, 2) := by decide +kernel
theorem dX6_tour_246 : decode cX6_tour 246 = .ok (.iload 8, 2) := by decide +kernel
theorem dX6_tour_248 : decode cX6_tour 248 = .ok (.iastore, 1) := by decide +kernel
theorem dX6_tour_249 : decode cX6_tour 249 = .ok (.iinc 6 1, 3) := by decide +kernel
theorem dX6_tour_252 : decode cX6_tour 252 = .ok (.goto (-123), 3) := by decide +kernel
theorem dX6_tour_255 : decode cX6_tour 255 = .ok (.iload_n 2, 1) := by decide +kernel
theorem dX6_tour_256 : decode cX6_tour 256 = .ok (.istore 6, 2) := by decide +kernel
theorem dX6_tour_258 : decode cX6_tour 258 = .ok (.iconst 0, 1) := by decide +kernel
theorem dX6_tour_259 : decode cX6_tour 259 = .ok (.istore 7, 2) := by decide +kernel
theorem dX6_tour_261 : decode cX6_tour 261 = .ok (.iload 7, 2) := by decide +kernel
theorem dX6_tour_263 : decode cX6_tour 263 = .ok (.iload 5, 2) := by decide +kernel
theorem dX6_tour_265 : decode cX6_tour 265 = .ok (.if_icmp .ge 86, 3) := by decide +kernel
theorem dX6_tour_268 : decode cX6_tour 268 = .ok (.iconst 0, 1) := by decide +kernel
theorem dX6_tour_269 : decode cX6_tour 269 = .ok (.istore 8, 2) := by decide +kernel
theorem dX6_tour_271 : decode cX6_tour 271 = .ok (.iload 6, 2) := by decide +kernel
theorem dX6_tour_273 : decode cX6_tour 273 = .ok (.iload 8, 2) := by decide +kernel
theorem dX6_tour_275 : decode cX6_tour 275 = .ok (.ishr, 1) := by decide +kernel
theorem dX6_tour_276 : decode cX6_tour 276 = .ok (.iconst 1, 1) := by decide +kernel
theorem dX6_tour_277 : decode cX6_tour 277 = .ok (.iand, 1) := by decide +kernel
theorem dX6_tour_278 : decode cX6_tour 278 = .ok (.ifCond .eq 41, 3) := by decide +kernel
theorem dX6_tour_281 : decode cX6_tour 281 = .ok (.aload_n 0, 1) := by decide +kernel
theorem dX6_tour_282 : decode cX6_tour 282 = .ok (.getfield 52, 3) := by decide +kernel
theorem dX6_tour_285 : decode cX6_tour 285 = .ok (.bipush 8, 2) := by decide +kernel
theorem dX6_tour_287 : decode cX6_tour 287 = .ok (.iload 7, 2) := by decide +kernel
theorem dX6_tour_289 : decode cX6_tour 289 = .ok (.imul, 1) := by decide +kernel
theorem dX6_tour_290 : decode cX6_tour 290 = .ok (.iload 8, 2) := by decide +kernel
theorem dX6_tour_292 : decode cX6_tour 292 = .ok (.iadd, 1) := by decide +kernel
theorem dX6_tour_293 : decode cX6_tour 293 = .ok (.iaload, 1) := by decide +kernel
theorem dX6_tour_294 : decode cX6_tour 294 = .ok (.aload_n 0, 1) := by decide +kernel
theorem dX6_tour_295 : decode cX6_tour 295 = .ok (.getfield 49, 3) := by decide +kernel
theorem dX6_tour_298 : decode cX6_tour 298 = .ok (.iload 6, 2) := by decide +kernel
theorem dX6_tour_300 : decode cX6_tour 300 = .ok (.iconst 1, 1) := by decide +kernel
theorem dX6_tour_301 : decode cX6_tour 301 = .ok (.iload 8, 2) := by decide +kernel
theorem dX6_tour_303 : decode cX6_tour 303 = .ok (.ishl, 1) := by decide +kernel
theorem dX6_tour_304 : decode cX6_tour 304 = .ok (.iconst (-1), 1) := by decide +kernel
theorem dX6_tour_305 : decode cX6_tour 305 = .ok (.ixor, 1) := by decide +kernel
theorem dX6_tour_306 : decode cX6_tour 306 = .ok (.iand, 1) := by decide +kernel
theorem dX6_tour_307 : decode cX6_tour 307 = .ok (.iaload, 1) := by decide +kernel
theorem dX6_tour_308 : decode cX6_tour 308 = .ok (.iadd, 1) := by decide +kernel
theorem dX6_tour_309 : decode cX6_tour 309 = .ok (.aload_n 0, 1) := by decide +kernel
theorem dX6_tour_310 : decode cX6_tour 310 = .ok (.getfield 49, 3) := by decide +kernel
theorem dX6_tour_313 : decode cX6_tour 313 = .ok (.iload 6, 2) := by decide +kernel
theorem dX6_tour_315 : decode cX6_tour 315 = .ok (.iaload, 1) := by decide +kernel
theorem dX6_tour_316 : decode cX6_tour 316 = .ok (.if_icmp .eq 9, 3) := by decide +kernel
theorem dX6_tour_319 : decode cX6_tour 319 = .ok (.iinc 8 1, 3) := by decide +kernel
theorem dX6_tour_322 : decode cX6_tour 322 = .ok (.goto (-51), 3) := by decide +kernel
theorem dX6_tour_325 : decode cX6_tour 325 = .ok (.aload_n 0, 1) := by decide +kernel
theorem dX6_tour_326 : decode cX6_tour 326 = .ok (.getfield 55, 3) := by decide +kernel
theorem dX6_tour_329 : decode cX6_tour 329 = .ok (.iload 7, 2) := by decide +kernel
theorem dX6_tour_331 : decode cX6_tour 331 = .ok (.iload 8, 2) := by decide +kernel
theorem dX6_tour_333 : decode cX6_tour 333 = .ok (.iastore, 1) := by decide +kernel
theorem dX6_tour_334 : decode cX6_tour 334 = .ok (.iload 6, 2) := by decide +kernel
theorem dX6_tour_336 : decode cX6_tour 336 = .ok (.iconst 1, 1) := by decide +kernel
theorem dX6_tour_337 : decode cX6_tour 337 = .ok (.iload 8, 2) := by decide +kernel
theorem dX6_tour_339 : decode cX6_tour 339 = .ok (.ishl, 1) := by decide +kernel
theorem dX6_tour_340 : decode cX6_tour 340 = .ok (.iconst (-1), 1) := by decide +kernel
theorem dX6_tour_341 : decode cX6_tour 341 = .ok (.ixor, 1) := by decide +kernel
theorem dX6_tour_342 : decode cX6_tour 342 = .ok (.iand, 1) := by decide +kernel
theorem dX6_tour_343 : decode cX6_tour 343 = .ok (.istore 6, 2) := by decide +kernel
theorem dX6_tour_345 : decode cX6_tour 345 = .ok (.iinc 7 1, 3) := by decide +kernel
theorem dX6_tour_348 : decode cX6_tour 348 = .ok (.goto (-87), 3) := by decide +kernel
theorem dX6_tour_351 : decode cX6_tour 351 = .ok (.aload_n 0, 1) := by decide +kernel
theorem dX6_tour_352 : decode cX6_tour 352 = .ok (.iload 5, 2) := by decide +kernel
theorem dX6_tour_354 : decode cX6_tour 354 = .ok (.putfield 116, 3) := by decide +kernel
theorem dX6_tour_357 : decode cX6_tour 357 = .ok (.aload_n 0, 1) := by decide +kernel
theorem dX6_tour_358 : decode cX6_tour 358 = .ok (.getfield 49, 3) := by decide +kernel
theorem dX6_tour_361 : decode cX6_tour 361 = .ok (.iload_n 2, 1) := by decide +kernel
theorem dX6_tour_362 : decode cX6_tour 362 = .ok (.iaload, 1) := by decide +kernel
theorem dX6_tour_363 : decode cX6_tour 363 = .ok (.ireturn, 1) := by decide +kernel
theorem dX6_town_0 : decode cX6_town 0 = .ok (.iload_n 1, 1) := by decide +kernel
theorem dX6_town_1 : decode cX6_town 1 = .ok (.iconst 0, 1) := by decide +kernel
theorem dX6_town_2 : decode cX6_town 2 = .ok (.aload_n 0, 1) := by decide +kernel
theorem dX6_town_3 : decode cX6_town 3 = .ok (.getfield 116, 3) := by decide +kernel
theorem dX6_town_6 : decode cX6_town 6 = .ok (.iconst 1, 1) := by decide +kernel
theorem dX6_town_7 : decode cX6_town 7 = .ok (.isub, 1) := by decide +kernel
theorem dX6_town_8 : decode cX6_town 8 = .ok (.invokestatic 62, 3) := by decide +kernel
theorem dX6_town_11 : decode cX6_town 11 = .ok (.ifCond .eq 12, 3) := by decide +kernel
theorem dX6_town_14 : decode cX6_town 14 = .ok (.aload_n 0, 1) := by decide +kernel
theorem dX6_town_15 : decode cX6_town 15 = .ok (.getfield 55, 3) := by decide +kernel
theorem dX6_town_18 : decode cX6_town 18 = .ok (.iload_n 1, 1) := by decide +kernel
theorem dX6_town_19 : decode cX6_town 19 = .ok (.iaload, 1) := by decide +kernel
theorem dX6_town_20 : decode cX6_town 20 = .ok (.goto 4, 3) := by decide +kernel
theorem dX6_town_23 : decode cX6_town 23 = .ok (.iconst (-1), 1) := by decide +kernel
theorem dX6_town_24 : decode cX6_town 24 = .ok (.ireturn, 1) := by decide +kernel
theorem dX6_free_0 : decode cX6_free 0 = .ok (.iload_n 1, 1) := by decide +kernel
theorem dX6_free_1 : decode cX6_free 1 = .ok (.invokestatic 66, 3) := by decide +kernel
theorem dX6_free_4 : decode cX6_free 4 = .ok (.ifCond .eq 17, 3) := by decide +kernel
theorem dX6_free_7 : decode cX6_free 7 = .ok (.iload_n 2, 1) := by decide +kernel
theorem dX6_free_8 : decode cX6_free 8 = .ok (.invokestatic 95, 3) := by decide +kernel
theorem dX6_free_11 : decode cX6_free 11 = .ok (.ifCond .eq 10, 3) := by decide +kernel
theorem dX6_free_14 : decode cX6_free 14 = .ok (.iload_n 3, 1) := by decide +kernel
theorem dX6_free_15 : decode cX6_free 15 = .ok (.invokestatic 98, 3) := by decide +kernel
theorem dX6_free_18 : decode cX6_free 18 = .ok (.ifCond .ne 6, 3) := by decide +kernel
theorem dX6_free_21 : decode cX6_free 21 = .ok (.bipush (-2), 2) := by decide +kernel
theorem dX6_free_23 : decode cX6_free 23 = .ok (.ireturn, 1) := by decide +kernel
theorem dX6_free_24 : decode cX6_free 24 = .ok (.iload_n 3, 1) := by decide +kernel
theorem dX6_free_25 : decode cX6_free 25 = .ok (.istore 4, 2) := by decide +kernel
theorem dX6_free_27 : decode cX6_free 27 = .ok (.iload 4, 2) := by decide +kernel
theorem dX6_free_29 : decode cX6_free 29 = .ok (.sipush 1000, 3) := by decide +kernel
theorem dX6_free_32 : decode cX6_free 32 = .ok (.if_icmp .ge 23, 3) := by decide +kernel
theorem dX6_free_35 : decode cX6_free 35 = .ok (.aload_n 0, 1) := by decide +kernel
theorem dX6_free_36 : decode cX6_free 36 = .ok (.iload_n 1, 1) := by decide +kernel
theorem dX6_free_37 : decode cX6_free 37 = .ok (.iload_n 2, 1) := by decide +kernel
theorem dX6_free_38 : decode cX6_free 38 = .ok (.iload 4, 2) := by decide +kernel
theorem dX6_free_40 : decode cX6_free 40 = .ok (.invokevirtual 107, 3) := by decide +kernel
theorem dX6_free_43 : decode cX6_free 43 = .ok (.ifCond .ne 6, 3) := by decide +kernel
theorem dX6_free_46 : decode cX6_free 46 = .ok (.iload 4, 2) := by decide +kernel
theorem dX6_free_48 : decode cX6_free 48 = .ok (.ireturn, 1) := by decide +kernel
theorem dX6_free_49 : decode cX6_free 49 = .ok (.iinc 4 1, 3) := by decide +kernel
theorem dX6_free_52 : decode cX6_free 52 = .ok (.goto (-25), 3) := by decide +kernel
theorem dX6_free_55 : decode cX6_free 55 = .ok (.iconst (-1), 1) := by decide +kernel
theorem dX6_free_56 : decode cX6_free 56 = .ok (.ireturn, 1) := by decide +kernel
theorem dX6_count_0 : decode cX6_count 0 = .ok (.iconst 0, 1) := by decide +kernel
theorem dX6_count_1 : decode cX6_count 1 = .ok (.istore_n 2, 1) := by decide +kernel
theorem dX6_count_2 : decode cX6_count 2 = .ok (.iload_n 1, 1) := by decide +kernel
theorem dX6_count_3 : decode cX6_count 3 = .ok (.tableswitch 151 0 4 #[33, 58, 63, 87, 146], 33) := by decide +kernel
theorem dX6_count_36 : decode cX6_count 36 = .ok (.iconst 0, 1) := by decide +kernel
theorem dX6_count_37 : decode cX6_count 37 = .ok (.istore_n 3, 1) := by decide +kernel
theorem dX6_count_38 : decode cX6_count 38 = .ok (.iload_n 3, 1) := by decide +kernel
theorem dX6_count_39 : decode cX6_count 39 = .ok (.bipush 8, 2) := by decide +kernel
theorem dX6_count_41 : decode cX6_count 41 = .ok (.if_icmp .ge 18, 3) := by decide +kernel
theorem dX6_count_44 : decode cX6_count 44 = .ok (.iload_n 2, 1) := by decide +kernel
theorem dX6_count_45 : decode cX6_count 45 = .ok (.aload_n 0, 1) := by decide +kernel
theorem dX6_count_46 : decode cX6_count 46 = .ok (.getfield 13, 3) := by decide +kernel
theorem dX6_count_49 : decode cX6_count 49 = .ok (.iload_n 3, 1) := by decide +kernel
theorem dX6_count_50 : decode cX6_count 50 = .ok (.iaload, 1) := by decide +kernel
theorem dX6_count_51 : decode cX6_count 51 = .ok (.iadd, 1) := by decide +kernel
theorem dX6_count_52 : decode cX6_count 52 = .ok (.istore_n 2, 1) := by decide +kernel
theorem dX6_count_53 : decode cX6_count 53 = .ok (.iinc 3 1, 3) := by decide +kernel
theorem dX6_count_56 : decode cX6_count 56 = .ok (.goto (-18), 3) := by decide +kernel
theorem dX6_count_59 : decode cX6_count 59 = .ok (.iload_n 2, 1) := by decide +kernel
theorem dX6_count_60 : decode cX6_count 60 = .ok (.ireturn, 1) := by decide +kernel
theorem dX6_count_61 : decode cX6_count 61 = .ok (.aload_n 0, 1) := by decide +kernel
theorem dX6_count_62 : decode cX6_count 62 = .ok (.getfield 81, 3) := by decide +kernel
theorem dX6_count_65 : decode cX6_count 65 = .ok (.ireturn, 1) := by decide +kernel
theorem dX6_count_66 : decode cX6_count 66 = .ok (.iconst 0, 1) := by decide +kernel
theorem dX6_count_67 : decode cX6_count 67 = .ok (.istore_n 3, 1) := by decide +kernel
theorem dX6_count_68 : decode cX6_count 68 = .ok (.iload_n 3, 1) := by decide +kernel
theorem dX6_count_69 : decode cX6_count 69 = .ok (.iconst 4, 1) := by decide +kernel
theorem dX6_count_70 : decode cX6_count 70 = .ok (.if_icmp .ge 18, 3) := by decide +kernel
theorem dX6_count_73 : decode cX6_count 73 = .ok (.iload_n 2, 1) := by decide +kernel
theorem dX6_count_74 : decode cX6_count 74 = .ok (.aload_n 0, 1) := by decide +kernel
theorem dX6_count_75 : decode cX6_count 75 = .ok (.getfield 19, 3) := by decide +kernel
theorem dX6_count_78 : decode cX6_count 78 = .ok (.iload_n 3, 1) := by decide +kernel
theorem dX6_count_79 : decode cX6_count 79 = .ok (.iaload, 1) := by decide +kernel
theorem dX6_count_80 : decode cX6_count 80 = .ok (.iadd, 1) := by decide +kernel
theorem dX6_count_81 : decode cX6_count 81 = .ok (.istore_n 2, 1) := by decide +kernel
theorem dX6_count_82 : decode cX6_count 82 = .ok (.iinc 3 1, 3) := by decide +kernel
theorem dX6_count_85 : decode cX6_count 85 = .ok (.goto (-17), 3) := by decide +kernel
theorem dX6_count_88 : decode cX6_count 88 = .ok (.iload_n 2, 1) := by decide +kernel
theorem dX6_count_89 : decode cX6_count 89 = .ok (.ireturn, 1) := by decide +kernel
theorem dX6_count_90 : decode cX6_count 90 = .ok (.iconst 0, 1) := by decide +kernel
theorem dX6_count_91 : decode cX6_count 91 = .ok (.istore_n 3, 1) := by decide +kernel
theorem dX6_count_92 : decode cX6_count 92 = .ok (.iload_n 3, 1) := by decide +kernel
theorem dX6_count_93 : decode cX6_count 93 = .ok (.iconst 4, 1) := by decide +kernel
theorem dX6_count_94 : decode cX6_count 94 = .ok (.if_icmp .ge 53, 3) := by decide +kernel
theorem dX6_count_97 : decode cX6_count 97 = .ok (.iconst 0, 1) := by decide +kernel
theorem dX6_count_98 : decode cX6_count 98 = .ok (.istore 4, 2) := by decide +kernel
theorem dX6_count_100 : decode cX6_count 100 = .ok (.iload 4, 2) := by decide +kernel
theorem dX6_count_102 : decode cX6_count 102 = .ok (.aload_n 0, 1) := by decide +kernel
theorem dX6_count_103 : decode cX6_count 103 = .ok (.getfield 19, 3) := by decide +kernel
theorem dX6_count_106 : decode cX6_count 106 = .ok (.iload_n 3, 1) := by decide +kernel
theorem dX6_count_107 : decode cX6_count 107 = .ok (.iaload, 1) := by decide +kernel
theorem dX6_count_108 : decode cX6_count 108 = .ok (.if_icmp .ge 33, 3) := by decide +kernel
theorem dX6_count_111 : decode cX6_count 111 = .ok (.iload_n 2, 1) := by decide +kernel
theorem dX6_count_112 : decode cX6_count 112 = .ok (.aload_n 0, 1) := by decide +kernel
theorem dX6_count_113 : decode cX6_count 113 = .ok (.getfield 16, 3) := by decide +kernel
theorem dX6_count_116 : decode cX6_count 116 = .ok (.bipush 40, 2) := by decide +kernel
theorem dX6_count_118 : decode cX6_count 118 = .ok (.iload_n 3, 1) := by decide +kernel
theorem dX6_count_119 : decode cX6_count 119 = .ok (.imul, 1) := by decide +kernel
theorem dX6_count_120 : decode cX6_count 120 = .ok (.iload 4, 2) := by decide +kernel
theorem dX6_count_122 : decode cX6_count 122 = .ok (.iadd, 1) := by decide +kernel
theorem dX6_count_123 : decode cX6_count 123 = .ok (.iaload, 1) := by decide +kernel
theorem dX6_count_124 : decode cX6_count 124 = .ok (.iconst (-1), 1) := by decide +kernel
theorem dX6_count_125 : decode cX6_count 125 = .ok (.if_icmp .ne 7, 3) := by decide +kernel
theorem dX6_count_128 : decode cX6_count 128 = .ok (.iconst 1, 1) := by decide +kernel
theorem dX6_count_129 : decode cX6_count 129 = .ok (.goto 4, 3) := by decide +kernel
theorem dX6_count_132 : decode cX6_count 132 = .ok (.iconst 0, 1) := by decide +kernel
theorem dX6_count_133 : decode cX6_count 133 = .ok (.iadd, 1) := by decide +kernel
theorem dX6_count_134 : decode cX6_count 134 = .ok (.istore_n 2, 1) := by decide +kernel
theorem dX6_count_135 : decode cX6_count 135 = .ok (.iinc 4 1, 3) := by decide +kernel
theorem dX6_count_138 : decode cX6_count 138 = .ok (.goto (-38), 3) := by decide +kernel
theorem dX6_count_141 : decode cX6_count 141 = .ok (.iinc 3 1, 3) := by decide +kernel
theorem dX6_count_144 : decode cX6_count 144 = .ok (.goto (-52), 3) := by decide +kernel
theorem dX6_count_147 : decode cX6_count 147 = .ok (.iload_n 2, 1) := by decide +kernel
theorem dX6_count_148 : decode cX6_count 148 = .ok (.ireturn, 1) := by decide +kernel
theorem dX6_count_149 : decode cX6_count 149 = .ok (.aload_n 0, 1) := by decide +kernel
theorem dX6_count_150 : decode cX6_count 150 = .ok (.getfield 101, 3) := by decide +kernel
theorem dX6_count_153 : decode cX6_count 153 = .ok (.ireturn, 1) := by decide +kernel
theorem dX6_count_154 : decode cX6_count 154 = .ok (.bipush (-2), 2) := by decide +kernel
theorem dX6_count_156 : decode cX6_count 156 = .ok (.ireturn, 1) := by decide +kernel
end
section
theorem dX6_digest_0 : decode cX6_digest 0 = .ok (.ldc2_w 119, 3) := by decide +kernel
theorem dX6_digest_3 : decode cX6_digest 3 = .ok (.lstore_n 1, 1) := by decide +kernel
theorem dX6_digest_4 : decode cX6_digest 4 = .ok (.iconst 0, 1) := by decide +kernel
theorem dX6_digest_5 : decode cX6_digest 5 = .ok (.istore_n 3, 1) := by decide +kernel
theorem dX6_digest_6 : decode cX6_digest 6 = .ok (.iload_n 3, 1) := by decide +kernel
theorem dX6_digest_7 : decode cX6_digest 7 = .ok (.iconst 5, 1) := by decide +kernel
theorem dX6_digest_8 : decode cX6_digest 8 = .ok (.if_icmp .ge 22, 3) := by decide +kernel
theorem dX6_digest_11 : decode cX6_digest 11 = .ok (.ldc2_w 121, 3) := by decide +kernel
theorem dX6_digest_14 : decode cX6_digest 14 = .ok (.lload_n 1, 1) := by decide +kernel
theorem dX6_digest_15 : decode cX6_digest 15 = .ok (.lmul, 1) := by decide +kernel
theorem dX6_digest_16 : decode cX6_digest 16 = .ok (.aload_n 0, 1) := by decide +kernel
theorem dX6_digest_17 : decode cX6_digest 17 = .ok (.iload_n 3, 1) := by decide +kernel
theorem dX6_digest_18 : decode cX6_digest 18 = .ok (.invokevirtual 123, 3) := by decide +kernel
theorem dX6_digest_21 : decode cX6_digest 21 = .ok (.i2l, 1) := by decide +kernel
theorem dX6_digest_22 : decode cX6_digest 22 = .ok (.ladd, 1) := by decide +kernel
theorem dX6_digest_23 : decode cX6_digest 23 = .ok (.lstore_n 1, 1) := by decide +kernel
theorem dX6_digest_24 : decode cX6_digest 24 = .ok (.iinc 3 1, 3) := by decide +kernel
theorem dX6_digest_27 : decode cX6_digest 27 = .ok (.goto (-21), 3) := by decide +kernel
theorem dX6_digest_30 : decode cX6_digest 30 = .ok (.iconst 0, 1) := by decide +kernel
theorem dX6_digest_31 : decode cX6_digest 31 = .ok (.istore_n 3, 1) := by decide +kernel
theorem dX6_digest_32 : decode cX6_digest 32 = .ok (.iload_n 3, 1) := by decide +kernel
theorem dX6_digest_33 : decode cX6_digest 33 = .ok (.bipush 8, 2) := by decide +kernel
theorem dX6_digest_35 : decode cX6_digest 35 = .ok (.if_icmp .ge 63, 3) := by decide +kernel
theorem dX6_digest_38 : decode cX6_digest 38 = .ok (.ldc2_w 121, 3) := by decide +kernel
theorem dX6_digest_41 : decode cX6_digest 41 = .ok (.lload_n 1, 1) := by decide +kernel
theorem dX6_digest_42 : decode cX6_digest 42 = .ok (.lmul, 1) := by decide +kernel
theorem dX6_digest_43 : decode cX6_digest 43 = .ok (.aload_n 0, 1) := by decide +kernel
theorem dX6_digest_44 : decode cX6_digest 44 = .ok (.getfield 13, 3) := by decide +kernel
theorem dX6_digest_47 : decode cX6_digest 47 = .ok (.iload_n 3, 1) := by decide +kernel
theorem dX6_digest_48 : decode cX6_digest 48 = .ok (.iaload, 1) := by decide +kernel
theorem dX6_digest_49 : decode cX6_digest 49 = .ok (.i2l, 1) := by decide +kernel
theorem dX6_digest_50 : decode cX6_digest 50 = .ok (.ladd, 1) := by decide +kernel
theorem dX6_digest_51 : decode cX6_digest 51 = .ok (.lstore_n 1, 1) := by decide +kernel
theorem dX6_digest_52 : decode cX6_digest 52 = .ok (.iconst 0, 1) := by decide +kernel
theorem dX6_digest_53 : decode cX6_digest 53 = .ok (.istore 4, 2) := by decide +kernel
theorem dX6_digest_55 : decode cX6_digest 55 = .ok (.iload 4, 2) := by decide +kernel
theorem dX6_digest_57 : decode cX6_digest 57 = .ok (.aload_n 0, 1) := by decide +kernel
theorem dX6_digest_58 : decode cX6_digest 58 = .ok (.getfield 13, 3) := by decide +kernel
theorem dX6_digest_61 : decode cX6_digest 61 = .ok (.iload_n 3, 1) := by decide +kernel
theorem dX6_digest_62 : decode cX6_digest 62 = .ok (.iaload, 1) := by decide +kernel
theorem dX6_digest_63 : decode cX6_digest 63 = .ok (.if_icmp .ge 29, 3) := by decide +kernel
theorem dX6_digest_66 : decode cX6_digest 66 = .ok (.ldc2_w 121, 3) := by decide +kernel
theorem dX6_digest_69 : decode cX6_digest 69 = .ok (.lload_n 1, 1) := by decide +kernel
theorem dX6_digest_70 : decode cX6_digest 70 = .ok (.lmul, 1) := by decide +kernel
theorem dX6_digest_71 : decode cX6_digest 71 = .ok (.aload_n 0, 1) := by decide +kernel
theorem dX6_digest_72 : decode cX6_digest 72 = .ok (.getfield 7, 3) := by decide +kernel
theorem dX6_digest_75 : decode cX6_digest 75 = .ok (.bipush 40, 2) := by decide +kernel
theorem dX6_digest_77 : decode cX6_digest 77 = .ok (.iload_n 3, 1) := by decide +kernel
theorem dX6_digest_78 : decode cX6_digest 78 = .ok (.imul, 1) := by decide +kernel
theorem dX6_digest_79 : decode cX6_digest 79 = .ok (.iload 4, 2) := by decide +kernel
theorem dX6_digest_81 : decode cX6_digest 81 = .ok (.iadd, 1) := by decide +kernel
theorem dX6_digest_82 : decode cX6_digest 82 = .ok (.iaload, 1) := by decide +kernel
theorem dX6_digest_83 : decode cX6_digest 83 = .ok (.i2l, 1) := by decide +kernel
theorem dX6_digest_84 : decode cX6_digest 84 = .ok (.ladd, 1) := by decide +kernel
theorem dX6_digest_85 : decode cX6_digest 85 = .ok (.lstore_n 1, 1) := by decide +kernel
theorem dX6_digest_86 : decode cX6_digest 86 = .ok (.iinc 4 1, 3) := by decide +kernel
theorem dX6_digest_89 : decode cX6_digest 89 = .ok (.goto (-34), 3) := by decide +kernel
theorem dX6_digest_92 : decode cX6_digest 92 = .ok (.iinc 3 1, 3) := by decide +kernel
theorem dX6_digest_95 : decode cX6_digest 95 = .ok (.goto (-63), 3) := by decide +kernel
theorem dX6_digest_98 : decode cX6_digest 98 = .ok (.iconst 0, 1) := by decide +kernel
theorem dX6_digest_99 : decode cX6_digest 99 = .ok (.istore_n 3, 1) := by decide +kernel
theorem dX6_digest_100 : decode cX6_digest 100 = .ok (.iload_n 3, 1) := by decide +kernel
theorem dX6_digest_101 : decode cX6_digest 101 = .ok (.iconst 4, 1) := by decide +kernel
theorem dX6_digest_102 : decode cX6_digest 102 = .ok (.if_icmp .ge 63, 3) := by decide +kernel
theorem dX6_digest_105 : decode cX6_digest 105 = .ok (.ldc2_w 121, 3) := by decide +kernel
theorem dX6_digest_108 : decode cX6_digest 108 = .ok (.lload_n 1, 1) := by decide +kernel
theorem dX6_digest_109 : decode cX6_digest 109 = .ok (.lmul, 1) := by decide +kernel
theorem dX6_digest_110 : decode cX6_digest 110 = .ok (.aload_n 0, 1) := by decide +kernel
theorem dX6_digest_111 : decode cX6_digest 111 = .ok (.getfield 19, 3) := by decide +kernel
theorem dX6_digest_114 : decode cX6_digest 114 = .ok (.iload_n 3, 1) := by decide +kernel
theorem dX6_digest_115 : decode cX6_digest 115 = .ok (.iaload, 1) := by decide +kernel
theorem dX6_digest_116 : decode cX6_digest 116 = .ok (.i2l, 1) := by decide +kernel
theorem dX6_digest_117 : decode cX6_digest 117 = .ok (.ladd, 1) := by decide +kernel
theorem dX6_digest_118 : decode cX6_digest 118 = .ok (.lstore_n 1, 1) := by decide +kernel
theorem dX6_digest_119 : decode cX6_digest 119 = .ok (.iconst 0, 1) := by decide +kernel
theorem dX6_digest_120 : decode cX6_digest 120 = .ok (.istore 4, 2) := by decide +kernel
theorem dX6_digest_122 : decode cX6_digest 122 = .ok (.iload 4, 2) := by decide +kernel
theorem dX6_digest_124 : decode cX6_digest 124 = .ok (.aload_n 0, 1) := by decide +kernel
theorem dX6_digest_125 : decode cX6_digest 125 = .ok (.getfield 19, 3) := by decide +kernel
theorem dX6_digest_128 : decode cX6_digest 128 = .ok (.iload_n 3, 1) := by decide +kernel
theorem dX6_digest_129 : decode cX6_digest 129 = .ok (.iaload, 1) := by decide +kernel
theorem dX6_digest_130 : decode cX6_digest 130 = .ok (.if_icmp .ge 29, 3) := by decide +kernel
theorem dX6_digest_133 : decode cX6_digest 133 = .ok (.ldc2_w 121, 3) := by decide +kernel
theorem dX6_digest_136 : decode cX6_digest 136 = .ok (.lload_n 1, 1) := by decide +kernel
theorem dX6_digest_137 : decode cX6_digest 137 = .ok (.lmul, 1) := by decide +kernel
theorem dX6_digest_138 : decode cX6_digest 138 = .ok (.aload_n 0, 1) := by decide +kernel
theorem dX6_digest_139 : decode cX6_digest 139 = .ok (.getfield 16, 3) := by decide +kernel
theorem dX6_digest_142 : decode cX6_digest 142 = .ok (.bipush 40, 2) := by decide +kernel
theorem dX6_digest_144 : decode cX6_digest 144 = .ok (.iload_n 3, 1) := by decide +kernel
theorem dX6_digest_145 : decode cX6_digest 145 = .ok (.imul, 1) := by decide +kernel
theorem dX6_digest_146 : decode cX6_digest 146 = .ok (.iload 4, 2) := by decide +kernel
theorem dX6_digest_148 : decode cX6_digest 148 = .ok (.iadd, 1) := by decide +kernel
theorem dX6_digest_149 : decode cX6_digest 149 = .ok (.iaload, 1) := by decide +kernel
theorem dX6_digest_150 : decode cX6_digest 150 = .ok (.i2l, 1) := by decide +kernel
theorem dX6_digest_151 : decode cX6_digest 151 = .ok (.ladd, 1) := by decide +kernel
theorem dX6_digest_152 : decode cX6_digest 152 = .ok (.lstore_n 1, 1) := by decide +kernel
theorem dX6_digest_153 : decode cX6_digest 153 = .ok (.iinc 4 1, 3) := by decide +kernel
theorem dX6_digest_156 : decode cX6_digest 156 = .ok (.goto (-34), 3) := by decide +kernel
theorem dX6_digest_159 : decode cX6_digest 159 = .ok (.iinc 3 1, 3) := by decide +kernel
theorem dX6_digest_162 : decode cX6_digest 162 = .ok (.goto (-62), 3) := by decide +kernel
theorem dX6_digest_165 : decode cX6_digest 165 = .ok (.iconst 0, 1) := by decide +kernel
theorem dX6_digest_166 : decode cX6_digest 166 = .ok (.istore_n 3, 1) := by decide +kernel
theorem dX6_digest_167 : decode cX6_digest 167 = .ok (.iload_n 3, 1) := by decide +kernel
theorem dX6_digest_168 : decode cX6_digest 168 = .ok (.bipush 100, 2) := by decide +kernel
theorem dX6_digest_170 : decode cX6_digest 170 = .ok (.if_icmp .ge 23, 3) := by decide +kernel
theorem dX6_digest_173 : decode cX6_digest 173 = .ok (.ldc2_w 121, 3) := by decide +kernel
theorem dX6_digest_176 : decode cX6_digest 176 = .ok (.lload_n 1, 1) := by decide +kernel
theorem dX6_digest_177 : decode cX6_digest 177 = .ok (.lmul, 1) := by decide +kernel
theorem dX6_digest_178 : decode cX6_digest 178 = .ok (.aload_n 0, 1) := by decide +kernel
theorem dX6_digest_179 : decode cX6_digest 179 = .ok (.getfield 31, 3) := by decide +kernel
theorem dX6_digest_182 : decode cX6_digest 182 = .ok (.iload_n 3, 1) := by decide +kernel
theorem dX6_digest_183 : decode cX6_digest 183 = .ok (.iaload, 1) := by decide +kernel
theorem dX6_digest_184 : decode cX6_digest 184 = .ok (.i2l, 1) := by decide +kernel
theorem dX6_digest_185 : decode cX6_digest 185 = .ok (.ladd, 1) := by decide +kernel
theorem dX6_digest_186 : decode cX6_digest 186 = .ok (.lstore_n 1, 1) := by decide +kernel
theorem dX6_digest_187 : decode cX6_digest 187 = .ok (.iinc 3 1, 3) := by decide +kernel
theorem dX6_digest_190 : decode cX6_digest 190 = .ok (.goto (-23), 3) := by decide +kernel
theorem dX6_digest_193 : decode cX6_digest 193 = .ok (.iconst 0, 1) := by decide +kernel
theorem dX6_digest_194 : decode cX6_digest 194 = .ok (.istore_n 3, 1) := by decide +kernel
theorem dX6_digest_195 : decode cX6_digest 195 = .ok (.iload_n 3, 1) := by decide +kernel
theorem dX6_digest_196 : decode cX6_digest 196 = .ok (.aload_n 0, 1) := by decide +kernel
theorem dX6_digest_197 : decode cX6_digest 197 = .ok (.getfield 101, 3) := by decide +kernel
theorem dX6_digest_200 : decode cX6_digest 200 = .ok (.if_icmp .ge 59, 3) := by decide +kernel
theorem dX6_digest_203 : decode cX6_digest 203 = .ok (.ldc2_w 121, 3) := by decide +kernel
theorem dX6_digest_206 : decode cX6_digest 206 = .ok (.ldc2_w 121, 3) := by decide +kernel
theorem dX6_digest_209 : decode cX6_digest 209 = .ok (.ldc2_w 121, 3) := by decide +kernel
theorem dX6_digest_212 : decode cX6_digest 212 = .ok (.ldc2_w 121, 3) := by decide +kernel
theorem dX6_digest_215 : decode cX6_digest 215 = .ok (.lload_n 1, 1) := by decide +kernel
theorem dX6_digest_216 : decode cX6_digest 216 = .ok (.lmul, 1) := by decide +kernel
theorem dX6_digest_217 : decode cX6_digest 217 = .ok (.aload_n 0, 1) := by decide +kernel
theorem dX6_digest_218 : decode cX6_digest 218 = .ok (.getfield 34, 3) := by decide +kernel
theorem dX6_digest_221 : decode cX6_digest 221 = .ok (.iload_n 3, 1) := by decide +kernel
theorem dX6_digest_222 : decode cX6_digest 222 = .ok (.iaload, 1) := by decide +kernel
theorem dX6_digest_223 : decode cX6_digest 223 = .ok (.i2l, 1) := by decide +kernel
theorem dX6_digest_224 : decode cX6_digest 224 = .ok (.ladd, 1) := by decide +kernel
theorem dX6_digest_225 : decode cX6_digest 225 = .ok (.lmul, 1) := by decide +kernel
theorem dX6_digest_226 : decode cX6_digest 226 = .ok (.aload_n 0, 1) := by decide +kernel
theorem dX6_digest_227 : decode cX6_digest 227 = .ok (.getfield 37, 3) := by decide +kernel
theorem dX6_digest_230 : decode cX6_digest 230 = .ok (.iload_n 3, 1) := by decide +kernel
theorem dX6_digest_231 : decode cX6_digest 231 = .ok (.iaload, 1) := by decide +kernel
theorem dX6_digest_232 : decode cX6_digest 232 = .ok (.i2l, 1) := by decide +kernel
theorem dX6_digest_233 : decode cX6_digest 233 = .ok (.ladd, 1) := by decide +kernel
theorem dX6_digest_234 : decode cX6_digest 234 = .ok (.lmul, 1) := by decide +kernel
theorem dX6_digest_235 : decode cX6_digest 235 = .ok (.aload_n 0, 1) := by decide +kernel
theorem dX6_digest_236 : decode cX6_digest 236 = .ok (.getfield 40, 3) := by decide +kernel
theorem dX6_digest_239 : decode cX6_digest 239 = .ok (.iload_n 3, 1) := by decide +kernel
theorem dX6_digest_240 : decode cX6_digest 240 = .ok (.iaload, 1) := by decide +kernel
theorem dX6_digest_241 : decode cX6_digest 241 = .ok (.i2l, 1) := by decide +kernel
theorem dX6_digest_242 : decode cX6_digest 242 = .ok (.ladd, 1) := by decide +kernel
theorem dX6_digest_243 : decode cX6_digest 243 = .ok (.lmul, 1) := by decide +kernel
theorem dX6_digest_244 : decode cX6_digest 244 = .ok (.aload_n 0, 1) := by decide +kernel
theorem dX6_digest_245 : decode cX6_digest 245 = .ok (.getfield 43, 3) := by decide +kernel
theorem dX6_digest_248 : decode cX6_digest 248 = .ok (.iload_n 3, 1) := by decide +kernel
theorem dX6_digest_249 : decode cX6_digest 249 = .ok (.iaload, 1) := by decide +kernel
theorem dX6_digest_250 : decode cX6_digest 250 = .ok (.i2l, 1) := by decide +kernel
theorem dX6_digest_251 : decode cX6_digest 251 = .ok (.ladd, 1) := by decide +kernel
theorem dX6_digest_252 : decode cX6_digest 252 = .ok (.lstore_n 1, 1) := by decide +kernel
theorem dX6_digest_253 : decode cX6_digest 253 = .ok (.iinc 3 1, 3) := by decide +kernel
theorem dX6_digest_256 : decode cX6_digest 256 = .ok (.goto (-61), 3) := by decide +kernel
theorem dX6_digest_259 : decode cX6_digest 259 = .ok (.iconst 0, 1) := by decide +kernel
theorem dX6_digest_260 : decode cX6_digest 260 = .ok (.istore_n 3, 1) := by decide +kernel
theorem dX6_digest_261 : decode cX6_digest 261 = .ok (.iload_n 3, 1) := by decide +kernel
theorem dX6_digest_262 : decode cX6_digest 262 = .ok (.aload_n 0, 1) := by decide +kernel
theorem dX6_digest_263 : decode cX6_digest 263 = .ok (.getfield 81, 3) := by decide +kernel
theorem dX6_digest_266 : decode cX6_digest 266 = .ok (.if_icmp .ge 47, 3) := by decide +kernel
theorem dX6_digest_269 : decode cX6_digest 269 = .ok (.ldc2_w 121, 3) := by decide +kernel
theorem dX6_digest_272 : decode cX6_digest 272 = .ok (.ldc2_w 121, 3) := by decide +kernel
theorem dX6_digest_275 : decode cX6_digest 275 = .ok (.ldc2_w 121, 3) := by decide +kernel
theorem dX6_digest_278 : decode cX6_digest 278 = .ok (.lload_n 1, 1) := by decide +kernel
theorem dX6_digest_279 : decode cX6_digest 279 = .ok (.lmul, 1) := by decide +kernel
theorem dX6_digest_280 : decode cX6_digest 280 = .ok (.aload_n 0, 1) := by decide +kernel
theorem dX6_digest_281 : decode cX6_digest 281 = .ok (.getfield 22, 3) := by decide +kernel
theorem dX6_digest_284 : decode cX6_digest 284 = .ok (.iload_n 3, 1) := by decide +kernel
theorem dX6_digest_285 : decode cX6_digest 285 = .ok (.iaload, 1) := by decide +kernel
theorem dX6_digest_286 : decode cX6_digest 286 = .ok (.i2l, 1) := by decide +kernel
theorem dX6_digest_287 : decode cX6_digest 287 = .ok (.ladd, 1) := by decide +kernel
theorem dX6_digest_288 : decode cX6_digest 288 = .ok (.lmul, 1) := by decide +kernel
theorem dX6_digest_289 : decode cX6_digest 289 = .ok (.aload_n 0, 1) := by decide +kernel
theorem dX6_digest_290 : decode cX6_digest 290 = .ok (.getfield 25, 3) := by decide +kernel
theorem dX6_digest_293 : decode cX6_digest 293 = .ok (.iload_n 3, 1) := by decide +kernel
theorem dX6_digest_294 : decode cX6_digest 294 = .ok (.iaload, 1) := by decide +kernel
theorem dX6_digest_295 : decode cX6_digest 295 = .ok (.i2l, 1) := by decide +kernel
theorem dX6_digest_296 : decode cX6_digest 296 = .ok (.ladd, 1) := by decide +kernel
theorem dX6_digest_297 : decode cX6_digest 297 = .ok (.lmul, 1) := by decide +kernel
theorem dX6_digest_298 : decode cX6_digest 298 = .ok (.aload_n 0, 1) := by decide +kernel
theorem dX6_digest_299 : decode cX6_digest 299 = .ok (.getfield 28, 3) := by decide +kernel
theorem dX6_digest_302 : decode cX6_digest 302 = .ok (.iload_n 3, 1) := by decide +kernel
theorem dX6_digest_303 : decode cX6_digest 303 = .ok (.iaload, 1) := by decide +kernel
theorem dX6_digest_304 : decode cX6_digest 304 = .ok (.i2l, 1) := by decide +kernel
theorem dX6_digest_305 : decode cX6_digest 305 = .ok (.ladd, 1) := by decide +kernel
theorem dX6_digest_306 : decode cX6_digest 306 = .ok (.lstore_n 1, 1) := by decide +kernel
theorem dX6_digest_307 : decode cX6_digest 307 = .ok (.iinc 3 1, 3) := by decide +kernel
theorem dX6_digest_310 : decode cX6_digest 310 = .ok (.goto (-49), 3) := by decide +kernel
theorem dX6_digest_313 : decode cX6_digest 313 = .ok (.lload_n 1, 1) := by decide +kernel
theorem dX6_digest_314 : decode cX6_digest 314 = .ok (.lreturn, 1) := by decide +kernel
theorem dJ6_bitCount_0f7a4_0 : decode cJ6_bitCount_0f7a4 0 = .ok (.iload_n 0, 1) := by decide +kernel
theorem dJ6_bitCount_0f7a4_1 : decode cJ6_bitCount_0f7a4 1 = .ok (.iload_n 0, 1) := by decide +kernel
theorem dJ6_bitCount_0f7a4_2 : decode cJ6_bitCount_0f7a4 2 = .ok (.iconst 1, 1) := by decide +kernel
theorem dJ6_bitCount_0f7a4_3 : decode cJ6_bitCount_0f7a4 3 = .ok (.iushr, 1) := by decide +kernel
theorem dJ6_bitCount_0f7a4_4 : decode cJ6_bitCount_0f7a4 4 = .ok (.ldc_w 265, 3) := by decide +kernel
theorem dJ6_bitCount_0f7a4_7 : decode cJ6_bitCount_0f7a4 7 = .ok (.iand, 1) := by decide +kernel
theorem dJ6_bitCount_0f7a4_8 : decode cJ6_bitCount_0f7a4 8 = .ok (.isub, 1) := by decide +kernel
theorem dJ6_bitCount_0f7a4_9 : decode cJ6_bitCount_0f7a4 9 = .ok (.istore_n 0, 1) := by decide +kernel
theorem dJ6_bitCount_0f7a4_10 : decode cJ6_bitCount_0f7a4 10 = .ok (.iload_n 0, 1) := by decide +kernel
theorem dJ6_bitCount_0f7a4_11 : decode cJ6_bitCount_0f7a4 11 = .ok (.ldc_w 266, 3) := by decide +kernel
theorem dJ6_bitCount_0f7a4_14 : decode cJ6_bitCount_0f7a4 14 = .ok (.iand, 1) := by decide +kernel
theorem dJ6_bitCount_0f7a4_15 : decode cJ6_bitCount_0f7a4 15 = .ok (.iload_n 0, 1) := by decide +kernel
theorem dJ6_bitCount_0f7a4_16 : decode cJ6_bitCount_0f7a4 16 = .ok (.iconst 2, 1) := by decide +kernel
theorem dJ6_bitCount_0f7a4_17 : decode cJ6_bitCount_0f7a4 17 = .ok (.iushr, 1) := by decide +kernel
theorem dJ6_bitCount_0f7a4_18 : decode cJ6_bitCount_0f7a4 18 = .ok (.ldc_w 266, 3) := by decide +kernel
theorem dJ6_bitCount_0f7a4_21 : decode cJ6_bitCount_0f7a4 21 = .ok (.iand, 1) := by decide +kernel
theorem dJ6_bitCount_0f7a4_22 : decode cJ6_bitCount_0f7a4 22 = .ok (.iadd, 1) := by decide +kernel
theorem dJ6_bitCount_0f7a4_23 : decode cJ6_bitCount_0f7a4 23 = .ok (.istore_n 0, 1) := by decide +kernel
theorem dJ6_bitCount_0f7a4_24 : decode cJ6_bitCount_0f7a4 24 = .ok (.iload_n 0, 1) := by decide +kernel
theorem dJ6_bitCount_0f7a4_25 : decode cJ6_bitCount_0f7a4 25 = .ok (.iload_n 0, 1) := by decide +kernel
theorem dJ6_bitCount_0f7a4_26 : decode cJ6_bitCount_0f7a4 26 = .ok (.iconst 4, 1) := by decide +kernel
theorem dJ6_bitCount_0f7a4_27 : decode cJ6_bitCount_0f7a4 27 = .ok (.iushr, 1) := by decide +kernel
theorem dJ6_bitCount_0f7a4_28 : decode cJ6_bitCount_0f7a4 28 = .ok (.iadd, 1) := by decide +kernel
theorem dJ6_bitCount_0f7a4_29 : decode cJ6_bitCount_0f7a4 29 = .ok (.ldc_w 267, 3) := by decide +kernel
theorem dJ6_bitCount_0f7a4_32 : decode cJ6_bitCount_0f7a4 32 = .ok (.iand, 1) := by decide +kernel
theorem dJ6_bitCount_0f7a4_33 : decode cJ6_bitCount_0f7a4 33 = .ok (.istore_n 0, 1) := by decide +kernel
theorem dJ6_bitCount_0f7a4_34 : decode cJ6_bitCount_0f7a4 34 = .ok (.iload_n 0, 1) := by decide +kernel
theorem dJ6_bitCount_0f7a4_35 : decode cJ6_bitCount_0f7a4 35 = .ok (.iload_n 0, 1) := by decide +kernel
theorem dJ6_bitCount_0f7a4_36 : decode cJ6_bitCount_0f7a4 36 = .ok (.bipush 8, 2) := by decide +kernel
theorem dJ6_bitCount_0f7a4_38 : decode cJ6_bitCount_0f7a4 38 = .ok (.iushr, 1) := by decide +kernel
theorem dJ6_bitCount_0f7a4_39 : decode cJ6_bitCount_0f7a4 39 = .ok (.iadd, 1) := by decide +kernel
theorem dJ6_bitCount_0f7a4_40 : decode cJ6_bitCount_0f7a4 40 = .ok (.istore_n 0, 1) := by decide +kernel
theorem dJ6_bitCount_0f7a4_41 : decode cJ6_bitCount_0f7a4 41 = .ok (.iload_n 0, 1) := by decide +kernel
theorem dJ6_bitCount_0f7a4_42 : decode cJ6_bitCount_0f7a4 42 = .ok (.iload_n 0, 1) := by decide +kernel
theorem dJ6_bitCount_0f7a4_43 : decode cJ6_bitCount_0f7a4 43 = .ok (.bipush 16, 2) := by decide +kernel
theorem dJ6_bitCount_0f7a4_45 : decode cJ6_bitCount_0f7a4 45 = .ok (.iushr, 1) := by decide +kernel
theorem dJ6_bitCount_0f7a4_46 : decode cJ6_bitCount_0f7a4 46 = .ok (.iadd, 1) := by decide +kernel
theorem dJ6_bitCount_0f7a4_47 : decode cJ6_bitCount_0f7a4 47 = .ok (.istore_n 0, 1) := by decide +kernel
theorem dJ6_bitCount_0f7a4_48 : decode cJ6_bitCount_0f7a4 48 = .ok (.iload_n 0, 1) := by decide +kernel
theorem dJ6_bitCount_0f7a4_49 : decode cJ6_bitCount_0f7a4 49 = .ok (.bipush 63, 2) := by decide +kernel
theorem dJ6_bitCount_0f7a4_51 : decode cJ6_bitCount_0f7a4 51 = .ok (.iand, 1) := by decide +kernel
theorem dJ6_bitCount_0f7a4_52 : decode cJ6_bitCount_0f7a4 52 = .ok (.ireturn, 1) := by decide +kernel
theorem dJ9_max_7cf53_0 : decode cJ9_max_7cf53 0 = .ok (.iload_n 0, 1) := by decide +kernel
theorem dJ9_max_7cf53_1 : decode cJ9_max_7cf53 1 = .ok (.iload_n 1, 1) := by decide +kernel
theorem dJ9_max_7cf53_2 : decode cJ9_max_7cf53 2 = .ok (.if_icmp .lt 7, 3) := by decide +kernel
theorem dJ9_max_7cf53_5 : decode cJ9_max_7cf53 5 = .ok (.iload_n 0, 1) := by decide +kernel
theorem dJ9_max_7cf53_6 : decode cJ9_max_7cf53 6 = .ok (.goto 4, 3) := by decide +kernel
theorem dJ9_max_7cf53_9 : decode cJ9_max_7cf53 9 = .ok (.iload_n 1, 1) := by decide +kernel
theorem dJ9_max_7cf53_10 : decode cJ9_max_7cf53 10 = .ok (.ireturn, 1) := by decide +kernel
theorem dJ9_min_7cf53_0 : decode cJ9_min_7cf53 0 = .ok (.iload_n 0, 1) := by decide +kernel
theorem dJ9_min_7cf53_1 : decode cJ9_min_7cf53 1 = .ok (.iload_n 1, 1) := by decide +kernel
theorem dJ9_min_7cf53_2 : decode cJ9_min_7cf53 2 = .ok (.if_icmp .gt 7, 3) := by decide +kernel
theorem dJ9_min_7cf53_5 : decode cJ9_min_7cf53 5 = .ok (.iload_n 0, 1) := by decide +kernel
theorem dJ9_min_7cf53_6 : decode cJ9_min_7cf53 6 = .ok (.goto 4, 3) := by decide +kernel
theorem dJ9_min_7cf53_9 : decode cJ9_min_7cf53 9 = .ok (.iload_n 1, 1) := by decide +kernel
theorem dJ9_min_7cf53_10 : decode cJ9_min_7cf53 10 = .ok (.ireturn, 1) := by decide +kernel
end
section
theorem dL_law_0 : decode cL_law 0 = .ok (.new 7, 3) := by decide +kernel
theorem dL_law_3 : decode cL_law 3 = .ok (.dup, 1) := by decide +kernel
theorem dL_law_4 : decode cL_law 4 = .ok (.invokespecial 9, 3) := by decide +kernel
theorem dL_law_7 : decode cL_law 7 = .ok (.astore_n 1, 1) := by decide +kernel
theorem dL_law_8 : decode cL_law 8 = .ok (.new 10, 3) := by decide +kernel
theorem dL_law_11 : decode cL_law 11 = .ok (.dup, 1) := by decide +kernel
theorem dL_law_12 : decode cL_law 12 = .ok (.invokespecial 12, 3) := by decide +kernel
theorem dL_law_15 : decode cL_law 15 = .ok (.astore_n 2, 1) := by decide +kernel
theorem dL_law_16 : decode cL_law 16 = .ok (.iconst 0, 1) := by decide +kernel
theorem dL_law_17 : decode cL_law 17 = .ok (.istore_n 3, 1) := by decide +kernel
theorem dL_law_18 : decode cL_law 18 = .ok (.iload_n 3, 1) := by decide +kernel
theorem dL_law_19 : decode cL_law 19 = .ok (.aload_n 0, 1) := by decide +kernel
theorem dL_law_20 : decode cL_law 20 = .ok (.arraylength, 1) := by decide +kernel
theorem dL_law_21 : decode cL_law 21 = .ok (.iconst 5, 1) := by decide +kernel
theorem dL_law_22 : decode cL_law 22 = .ok (.isub, 1) := by decide +kernel
theorem dL_law_23 : decode cL_law 23 = .ok (.if_icmp .gt 987, 3) := by decide +kernel
theorem dL_law_26 : decode cL_law 26 = .ok (.aload_n 0, 1) := by decide +kernel
theorem dL_law_27 : decode cL_law 27 = .ok (.iload_n 3, 1) := by decide +kernel
theorem dL_law_28 : decode cL_law 28 = .ok (.iaload, 1) := by decide +kernel
theorem dL_law_29 : decode cL_law 29 = .ok (.bipush 31, 2) := by decide +kernel
theorem dL_law_31 : decode cL_law 31 = .ok (.iand, 1) := by decide +kernel
theorem dL_law_32 : decode cL_law 32 = .ok (.tableswitch 972 0 24 #[116, 159, 192, 225, 258, 291, 334, 377, 390, 413, 446, 469, 502, 535, 558, 601, 634, 667, 720, 763, 816, 869, 892, 935, 958], 116) := by decide +kernel
theorem dL_law_148 : decode cL_law 148 = .ok (.aload_n 1, 1) := by decide +kernel
theorem dL_law_149 : decode cL_law 149 = .ok (.aload_n 0, 1) := by decide +kernel
theorem dL_law_150 : decode cL_law 150 = .ok (.iload_n 3, 1) := by decide +kernel
theorem dL_law_151 : decode cL_law 151 = .ok (.iconst 1, 1) := by decide +kernel
theorem dL_law_152 : decode cL_law 152 = .ok (.iadd, 1) := by decide +kernel
theorem dL_law_153 : decode cL_law 153 = .ok (.iaload, 1) := by decide +kernel
theorem dL_law_154 : decode cL_law 154 = .ok (.aload_n 0, 1) := by decide +kernel
theorem dL_law_155 : decode cL_law 155 = .ok (.iload_n 3, 1) := by decide +kernel
theorem dL_law_156 : decode cL_law 156 = .ok (.iconst 2, 1) := by decide +kernel
theorem dL_law_157 : decode cL_law 157 = .ok (.iadd, 1) := by decide +kernel
theorem dL_law_158 : decode cL_law 158 = .ok (.iaload, 1) := by decide +kernel
theorem dL_law_159 : decode cL_law 159 = .ok (.aload_n 0, 1) := by decide +kernel
theorem dL_law_160 : decode cL_law 160 = .ok (.iload_n 3, 1) := by decide +kernel
theorem dL_law_161 : decode cL_law 161 = .ok (.iconst 3, 1) := by decide +kernel
theorem dL_law_162 : decode cL_law 162 = .ok (.iadd, 1) := by decide +kernel
theorem dL_law_163 : decode cL_law 163 = .ok (.iaload, 1) := by decide +kernel
theorem dL_law_164 : decode cL_law 164 = .ok (.invokevirtual 13, 3) := by decide +kernel
theorem dL_law_167 : decode cL_law 167 = .ok (.aload_n 2, 1) := by decide +kernel
theorem dL_law_168 : decode cL_law 168 = .ok (.aload_n 0, 1) := by decide +kernel
theorem dL_law_169 : decode cL_law 169 = .ok (.iload_n 3, 1) := by decide +kernel
theorem dL_law_170 : decode cL_law 170 = .ok (.iconst 1, 1) := by decide +kernel
theorem dL_law_171 : decode cL_law 171 = .ok (.iadd, 1) := by decide +kernel
theorem dL_law_172 : decode cL_law 172 = .ok (.iaload, 1) := by decide +kernel
theorem dL_law_173 : decode cL_law 173 = .ok (.aload_n 0, 1) := by decide +kernel
theorem dL_law_174 : decode cL_law 174 = .ok (.iload_n 3, 1) := by decide +kernel
theorem dL_law_175 : decode cL_law 175 = .ok (.iconst 2, 1) := by decide +kernel
theorem dL_law_176 : decode cL_law 176 = .ok (.iadd, 1) := by decide +kernel
theorem dL_law_177 : decode cL_law 177 = .ok (.iaload, 1) := by decide +kernel
theorem dL_law_178 : decode cL_law 178 = .ok (.aload_n 0, 1) := by decide +kernel
theorem dL_law_179 : decode cL_law 179 = .ok (.iload_n 3, 1) := by decide +kernel
theorem dL_law_180 : decode cL_law 180 = .ok (.iconst 3, 1) := by decide +kernel
theorem dL_law_181 : decode cL_law 181 = .ok (.iadd, 1) := by decide +kernel
theorem dL_law_182 : decode cL_law 182 = .ok (.iaload, 1) := by decide +kernel
theorem dL_law_183 : decode cL_law 183 = .ok (.invokevirtual 17, 3) := by decide +kernel
theorem dL_law_186 : decode cL_law 186 = .ok (.if_icmp .eq 818, 3) := by decide +kernel
theorem dL_law_189 : decode cL_law 189 = .ok (.iconst 0, 1) := by decide +kernel
theorem dL_law_190 : decode cL_law 190 = .ok (.ireturn, 1) := by decide +kernel
theorem dL_law_191 : decode cL_law 191 = .ok (.aload_n 1, 1) := by decide +kernel
theorem dL_law_192 : decode cL_law 192 = .ok (.aload_n 0, 1) := by decide +kernel
theorem dL_law_193 : decode cL_law 193 = .ok (.iload_n 3, 1) := by decide +kernel
theorem dL_law_194 : decode cL_law 194 = .ok (.iconst 1, 1) := by decide +kernel
theorem dL_law_195 : decode cL_law 195 = .ok (.iadd, 1) := by decide +kernel
theorem dL_law_196 : decode cL_law 196 = .ok (.iaload, 1) := by decide +kernel
theorem dL_law_197 : decode cL_law 197 = .ok (.aload_n 0, 1) := by decide +kernel
theorem dL_law_198 : decode cL_law 198 = .ok (.iload_n 3, 1) := by decide +kernel
theorem dL_law_199 : decode cL_law 199 = .ok (.iconst 2, 1) := by decide +kernel
theorem dL_law_200 : decode cL_law 200 = .ok (.iadd, 1) := by decide +kernel
theorem dL_law_201 : decode cL_law 201 = .ok (.iaload, 1) := by decide +kernel
theorem dL_law_202 : decode cL_law 202 = .ok (.invokevirtual 18, 3) := by decide +kernel
theorem dL_law_205 : decode cL_law 205 = .ok (.aload_n 2, 1) := by decide +kernel
theorem dL_law_206 : decode cL_law 206 = .ok (.aload_n 0, 1) := by decide +kernel
theorem dL_law_207 : decode cL_law 207 = .ok (.iload_n 3, 1) := by decide +kernel
theorem dL_law_208 : decode cL_law 208 = .ok (.iconst 1, 1) := by decide +kernel
theorem dL_law_209 : decode cL_law 209 = .ok (.iadd, 1) := by decide +kernel
theorem dL_law_210 : decode cL_law 210 = .ok (.iaload, 1) := by decide +kernel
theorem dL_law_211 : decode cL_law 211 = .ok (.aload_n 0, 1) := by decide +kernel
theorem dL_law_212 : decode cL_law 212 = .ok (.iload_n 3, 1) := by decide +kernel
theorem dL_law_213 : decode cL_law 213 = .ok (.iconst 2, 1) := by decide +kernel
theorem dL_law_214 : decode cL_law 214 = .ok (.iadd, 1) := by decide +kernel
theorem dL_law_215 : decode cL_law 215 = .ok (.iaload, 1) := by decide +kernel
theorem dL_law_216 : decode cL_law 216 = .ok (.invokevirtual 22, 3) := by decide +kernel
theorem dL_law_219 : decode cL_law 219 = .ok (.if_icmp .eq 785, 3) := by decide +kernel
theorem dL_law_222 : decode cL_law 222 = .ok (.iconst 0, 1) := by decide +kernel
theorem dL_law_223 : decode cL_law 223 = .ok (.ireturn, 1) := by decide +kernel
theorem dL_law_224 : decode cL_law 224 = .ok (.aload_n 1, 1) := by decide +kernel
theorem dL_law_225 : decode cL_law 225 = .ok (.aload_n 0, 1) := by decide +kernel
theorem dL_law_226 : decode cL_law 226 = .ok (.iload_n 3, 1) := by decide +kernel
theorem dL_law_227 : decode cL_law 227 = .ok (.iconst 1, 1) := by decide +kernel
theorem dL_law_228 : decode cL_law 228 = .ok (.iadd, 1) := by decide +kernel
theorem dL_law_229 : decode cL_law 229 = .ok (.iaload, 1) := by decide +kernel
theorem dL_law_230 : decode cL_law 230 = .ok (.aload_n 0, 1) := by decide +kernel
theorem dL_law_231 : decode cL_law 231 = .ok (.iload_n 3, 1) := by decide +kernel
theorem dL_law_232 : decode cL_law 232 = .ok (.iconst 2, 1) := by decide +kernel
theorem dL_law_233 : decode cL_law 233 = .ok (.iadd, 1) := by decide +kernel
theorem dL_law_234 : decode cL_law 234 = .ok (.iaload, 1) := by decide +kernel
theorem dL_law_235 : decode cL_law 235 = .ok (.invokevirtual 23, 3) := by decide +kernel
theorem dL_law_238 : decode cL_law 238 = .ok (.aload_n 2, 1) := by decide +kernel
theorem dL_law_239 : decode cL_law 239 = .ok (.aload_n 0, 1) := by decide +kernel
theorem dL_law_240 : decode cL_law 240 = .ok (.iload_n 3, 1) := by decide +kernel
theorem dL_law_241 : decode cL_law 241 = .ok (.iconst 1, 1) := by decide +kernel
theorem dL_law_242 : decode cL_law 242 = .ok (.iadd, 1) := by decide +kernel
theorem dL_law_243 : decode cL_law 243 = .ok (.iaload, 1) := by decide +kernel
theorem dL_law_244 : decode cL_law 244 = .ok (.aload_n 0, 1) := by decide +kernel
theorem dL_law_245 : decode cL_law 245 = .ok (.iload_n 3, 1) := by decide +kernel
theorem dL_law_246 : decode cL_law 246 = .ok (.iconst 2, 1) := by decide +kernel
theorem dL_law_247 : decode cL_law 247 = .ok (.iadd, 1) := by decide +kernel
theorem dL_law_248 : decode cL_law 248 = .ok (.iaload, 1) := by decide +kernel
theorem dL_law_249 : decode cL_law 249 = .ok (.invokevirtual 26, 3) := by decide +kernel
theorem dL_law_252 : decode cL_law 252 = .ok (.if_icmp .eq 752, 3) := by decide +kernel
theorem dL_law_255 : decode cL_law 255 = .ok (.iconst 0, 1) := by decide +kernel
theorem dL_law_256 : decode cL_law 256 = .ok (.ireturn, 1) := by decide +kernel
theorem dL_law_257 : decode cL_law 257 = .ok (.aload_n 1, 1) := by decide +kernel
theorem dL_law_258 : decode cL_law 258 = .ok (.aload_n 0, 1) := by decide +kernel
theorem dL_law_259 : decode cL_law 259 = .ok (.iload_n 3, 1) := by decide +kernel
theorem dL_law_260 : decode cL_law 260 = .ok (.iconst 1, 1) := by decide +kernel
theorem dL_law_261 : decode cL_law 261 = .ok (.iadd, 1) := by decide +kernel
theorem dL_law_262 : decode cL_law 262 = .ok (.iaload, 1) := by decide +kernel
theorem dL_law_263 : decode cL_law 263 = .ok (.aload_n 0, 1) := by decide +kernel
theorem dL_law_264 : decode cL_law 264 = .ok (.iload_n 3, 1) := by decide +kernel
theorem dL_law_265 : decode cL_law 265 = .ok (.iconst 2, 1) := by decide +kernel
theorem dL_law_266 : decode cL_law 266 = .ok (.iadd, 1) := by decide +kernel
theorem dL_law_267 : decode cL_law 267 = .ok (.iaload, 1) := by decide +kernel
theorem dL_law_268 : decode cL_law 268 = .ok (.invokevirtual 27, 3) := by decide +kernel
theorem dL_law_271 : decode cL_law 271 = .ok (.aload_n 2, 1) := by decide +kernel
theorem dL_law_272 : decode cL_law 272 = .ok (.aload_n 0, 1) := by decide +kernel
theorem dL_law_273 : decode cL_law 273 = .ok (.iload_n 3, 1) := by decide +kernel
theorem dL_law_274 : decode cL_law 274 = .ok (.iconst 1, 1) := by decide +kernel
theorem dL_law_275 : decode cL_law 275 = .ok (.iadd, 1) := by decide +kernel
theorem dL_law_276 : decode cL_law 276 = .ok (.iaload, 1) := by decide +kernel
theorem dL_law_277 : decode cL_law 277 = .ok (.aload_n 0, 1) := by decide +kernel
theorem dL_law_278 : decode cL_law 278 = .ok (.iload_n 3, 1) := by decide +kernel
theorem dL_law_279 : decode cL_law 279 = .ok (.iconst 2, 1) := by decide +kernel
theorem dL_law_280 : decode cL_law 280 = .ok (.iadd, 1) := by decide +kernel
theorem dL_law_281 : decode cL_law 281 = .ok (.iaload, 1) := by decide +kernel
theorem dL_law_282 : decode cL_law 282 = .ok (.invokevirtual 30, 3) := by decide +kernel
theorem dL_law_285 : decode cL_law 285 = .ok (.if_icmp .eq 719, 3) := by decide +kernel
theorem dL_law_288 : decode cL_law 288 = .ok (.iconst 0, 1) := by decide +kernel
theorem dL_law_289 : decode cL_law 289 = .ok (.ireturn, 1) := by decide +kernel
theorem dL_law_290 : decode cL_law 290 = .ok (.aload_n 1, 1) := by decide +kernel
theorem dL_law_291 : decode cL_law 291 = .ok (.aload_n 0, 1) := by decide +kernel
theorem dL_law_292 : decode cL_law 292 = .ok (.iload_n 3, 1) := by decide +kernel
theorem dL_law_293 : decode cL_law 293 = .ok (.iconst 1, 1) := by decide +kernel
theorem dL_law_294 : decode cL_law 294 = .ok (.iadd, 1) := by decide +kernel
theorem dL_law_295 : decode cL_law 295 = .ok (.iaload, 1) := by decide +kernel
theorem dL_law_296 : decode cL_law 296 = .ok (.aload_n 0, 1) := by decide +kernel
theorem dL_law_297 : decode cL_law 297 = .ok (.iload_n 3, 1) := by decide +kernel
theorem dL_law_298 : decode cL_law 298 = .ok (.iconst 2, 1) := by decide +kernel
theorem dL_law_299 : decode cL_law 299 = .ok (.iadd, 1) := by decide +kernel
theorem dL_law_300 : decode cL_law 300 = .ok (.iaload, 1) := by decide +kernel
theorem dL_law_301 : decode cL_law 301 = .ok (.invokevirtual 31, 3) := by decide +kernel
theorem dL_law_304 : decode cL_law 304 = .ok (.aload_n 2, 1) := by decide +kernel
theorem dL_law_305 : decode cL_law 305 = .ok (.aload_n 0, 1) := by decide +kernel
theorem dL_law_306 : decode cL_law 306 = .ok (.iload_n 3, 1) := by decide +kernel
theorem dL_law_307 : decode cL_law 307 = .ok (.iconst 1, 1) := by decide +kernel
theorem dL_law_308 : decode cL_law 308 = .ok (.iadd, 1) := by decide +kernel
theorem dL_law_309 : decode cL_law 309 = .ok (.iaload, 1) := by decide +kernel
theorem dL_law_310 : decode cL_law 310 = .ok (.aload_n 0, 1) := by decide +kernel
theorem dL_law_311 : decode cL_law 311 = .ok (.iload_n 3, 1) := by decide +kernel
theorem dL_law_312 : decode cL_law 312 = .ok (.iconst 2, 1) := by decide +kernel
theorem dL_law_313 : decode cL_law 313 = .ok (.iadd, 1) := by decide +kernel
theorem dL_law_314 : decode cL_law 314 = .ok (.iaload, 1) := by decide +kernel
theorem dL_law_315 : decode cL_law 315 = .ok (.invokevirtual 34, 3) := by decide +kernel
theorem dL_law_318 : decode cL_law 318 = .ok (.if_icmp .eq 686, 3) := by decide +kernel
theorem dL_law_321 : decode cL_law 321 = .ok (.iconst 0, 1) := by decide +kernel
theorem dL_law_322 : decode cL_law 322 = .ok (.ireturn, 1) := by decide +kernel
theorem dL_law_323 : decode cL_law 323 = .ok (.aload_n 1, 1) := by decide +kernel
theorem dL_law_324 : decode cL_law 324 = .ok (.aload_n 0, 1) := by decide +kernel
theorem dL_law_325 : decode cL_law 325 = .ok (.iload_n 3, 1) := by decide +kernel
theorem dL_law_326 : decode cL_law 326 = .ok (.iconst 1, 1) := by decide +kernel
theorem dL_law_327 : decode cL_law 327 = .ok (.iadd, 1) := by decide +kernel
theorem dL_law_328 : decode cL_law 328 = .ok (.iaload, 1) := by decide +kernel
theorem dL_law_329 : decode cL_law 329 = .ok (.aload_n 0, 1) := by decide +kernel
theorem dL_law_330 : decode cL_law 330 = .ok (.iload_n 3, 1) := by decide +kernel
theorem dL_law_331 : decode cL_law 331 = .ok (.iconst 2, 1) := by decide +kernel
theorem dL_law_332 : decode cL_law 332 = .ok (.iadd, 1) := by decide +kernel
theorem dL_law_333 : decode cL_law 333 = .ok (.iaload, 1) := by decide +kernel
theorem dL_law_334 : decode cL_law 334 = .ok (.aload_n 0, 1) := by decide +kernel
theorem dL_law_335 : decode cL_law 335 = .ok (.iload_n 3, 1) := by decide +kernel
theorem dL_law_336 : decode cL_law 336 = .ok (.iconst 3, 1) := by decide +kernel
theorem dL_law_337 : decode cL_law 337 = .ok (.iadd, 1) := by decide +kernel
theorem dL_law_338 : decode cL_law 338 = .ok (.iaload, 1) := by decide +kernel
theorem dL_law_339 : decode cL_law 339 = .ok (.invokevirtual 35, 3) := by decide +kernel
theorem dL_law_342 : decode cL_law 342 = .ok (.aload_n 2, 1) := by decide +kernel
theorem dL_law_343 : decode cL_law 343 = .ok (.aload_n 0, 1) := by decide +kernel
theorem dL_law_344 : decode cL_law 344 = .ok (.iload_n 3, 1) := by decide +kernel
theorem dL_law_345 : decode cL_law 345 = .ok (.iconst 1, 1) := by decide +kernel
theorem dL_law_346 : decode cL_law 346 = .ok (.iadd, 1) := by decide +kernel
theorem dL_law_347 : decode cL_law 347 = .ok (.iaload, 1) := by decide +kernel
theorem dL_law_348 : decode cL_law 348 = .ok (.aload_n 0, 1) := by decide +kernel
theorem dL_law_349 : decode cL_law 349 = .ok (.iload_n 3, 1) := by decide +kernel
theorem dL_law_350 : decode cL_law 350 = .ok (.iconst 2, 1) := by decide +kernel
theorem dL_law_351 : decode cL_law 351 = .ok (.iadd, 1) := by decide +kernel
theorem dL_law_352 : decode cL_law 352 = .ok (.iaload, 1) := by decide +kernel
theorem dL_law_353 : decode cL_law 353 = .ok (.aload_n 0, 1) := by decide +kernel
theorem dL_law_354 : decode cL_law 354 = .ok (.iload_n 3, 1) := by decide +kernel
theorem dL_law_355 : decode cL_law 355 = .ok (.iconst 3, 1) := by decide +kernel
theorem dL_law_356 : decode cL_law 356 = .ok (.iadd, 1) := by decide +kernel
theorem dL_law_357 : decode cL_law 357 = .ok (.iaload, 1) := by decide +kernel
theorem dL_law_358 : decode cL_law 358 = .ok (.invokevirtual 38, 3) := by decide +kernel
theorem dL_law_361 : decode cL_law 361 = .ok (.if_icmp .eq 643, 3) := by decide +kernel
theorem dL_law_364 : decode cL_law 364 = .ok (.iconst 0, 1) := by decide +kernel
theorem dL_law_365 : decode cL_law 365 = .ok (.ireturn, 1) := by decide +kernel
theorem dL_law_366 : decode cL_law 366 = .ok (.aload_n 1, 1) := by decide +kernel
theorem dL_law_367 : decode cL_law 367 = .ok (.aload_n 0, 1) := by decide +kernel
theorem dL_law_368 : decode cL_law 368 = .ok (.iload_n 3, 1) := by decide +kernel
theorem dL_law_369 : decode cL_law 369 = .ok (.iconst 1, 1) := by decide +kernel
theorem dL_law_370 : decode cL_law 370 = .ok (.iadd, 1) := by decide +kernel
theorem dL_law_371 : decode cL_law 371 = .ok (.iaload, 1) := by decide +kernel
theorem dL_law_372 : decode cL_law 372 = .ok (.aload_n 0, 1) := by decide +kernel
theorem dL_law_373 : decode cL_law 373 = .ok (.iload_n 3, 1) := by decide +kernel
theorem dL_law_374 : decode cL_law 374 = .ok (.iconst 2, 1) := by decide +kernel
theorem dL_law_375 : decode cL_law 375 = .ok (.iadd, 1) := by decide +kernel
theorem dL_law_376 : decode cL_law 376 = .ok (.iaload, 1) := by decide +kernel
theorem dL_law_377 : decode cL_law 377 = .ok (.aload_n 0, 1) := by decide +kernel
theorem dL_law_378 : decode cL_law 378 = .ok (.iload_n 3, 1) := by decide +kernel
theorem dL_law_379 : decode cL_law 379 = .ok (.iconst 3, 1) := by decide +kernel
theorem dL_law_380 : decode cL_law 380 = .ok (.iadd, 1) := by decide +kernel
theorem dL_law_381 : decode cL_law 381 = .ok (.iaload, 1) := by decide +kernel
theorem dL_law_382 : decode cL_law 382 = .ok (.invokevirtual 39, 3) := by decide +kernel
theorem dL_law_385 : decode cL_law 385 = .ok (.aload_n 2, 1) := by decide +kernel
theorem dL_law_386 : decode cL_law 386 = .ok (.aload_n 0, 1) := by decide +kernel
theorem dL_law_387 : decode cL_law 387 = .ok (.iload_n 3, 1) := by decide +kernel
theorem dL_law_388 : decode cL_law 388 = .ok (.iconst 1, 1) := by decide +kernel
theorem dL_law_389 : decode cL_law 389 = .ok (.iadd, 1) := by decide +kernel
theorem dL_law_390 : decode cL_law 390 = .ok (.iaload, 1) := by decide +kernel
theorem dL_law_391 : decode cL_law 391 = .ok (.aload_n 0, 1) := by decide +kernel
theorem dL_law_392 : decode cL_law 392 = .ok (.iload_n 3, 1) := by decide +kernel
theorem dL_law_393 : decode cL_law 393 = .ok (.iconst 2, 1) := by decide +kernel
theorem dL_law_394 : decode cL_law 394 = .ok (.iadd, 1) := by decide +kernel
theorem dL_law_395 : decode cL_law 395 = .ok (.iaload, 1) := by decide +kernel
theorem dL_law_396 : decode cL_law 396 = .ok (.aload_n 0, 1) := by decide +kernel
theorem dL_law_397 : decode cL_law 397 = .ok (.iload_n 3, 1) := by decide +kernel
theorem dL_law_398 : decode cL_law 398 = .ok (.iconst 3, 1) := by decide +kernel
theorem dL_law_399 : decode cL_law 399 = .ok (.iadd, 1) := by decide +kernel
theorem dL_law_400 : decode cL_law 400 = .ok (.iaload, 1) := by decide +kernel
theorem dL_law_401 : decode cL_law 401 = .ok (.invokevirtual 42, 3) := by decide +kernel
theorem dL_law_404 : decode cL_law 404 = .ok (.if_icmp .eq 600, 3) := by decide +kernel
theorem dL_law_407 : decode cL_law 407 = .ok (.iconst 0, 1) := by decide +kernel
theorem dL_law_408 : decode cL_law 408 = .ok (.ireturn, 1) := by decide +kernel
theorem dL_law_409 : decode cL_law 409 = .ok (.aload_n 1, 1) := by decide +kernel
theorem dL_law_410 : decode cL_law 410 = .ok (.invokevirtual 43, 3) := by decide +kernel
theorem dL_law_413 : decode cL_law 413 = .ok (.aload_n 2, 1) := by decide +kernel
theorem dL_law_414 : decode cL_law 414 = .ok (.invokevirtual 47, 3) := by decide +kernel
theorem dL_law_417 : decode cL_law 417 = .ok (.if_icmp .eq 587, 3) := by decide +kernel
theorem dL_law_420 : decode cL_law 420 = .ok (.iconst 0, 1) := by decide +kernel
theorem dL_law_421 : decode cL_law 421 = .ok (.ireturn, 1) := by decide +kernel
theorem dL_law_422 : decode cL_law 422 = .ok (.aload_n 1, 1) := by decide +kernel
theorem dL_law_423 : decode cL_law 423 = .ok (.aload_n 0, 1) := by decide +kernel
theorem dL_law_424 : decode cL_law 424 = .ok (.iload_n 3, 1) := by decide +kernel
theorem dL_law_425 : decode cL_law 425 = .ok (.iconst 1, 1) := by decide +kernel
theorem dL_law_426 : decode cL_law 426 = .ok (.iadd, 1) := by decide +kernel
theorem dL_law_427 : decode cL_law 427 = .ok (.iaload, 1) := by decide +kernel
theorem dL_law_428 : decode cL_law 428 = .ok (.invokevirtual 48, 3) := by decide +kernel
theorem dL_law_431 : decode cL_law 431 = .ok (.aload_n 2, 1) := by decide +kernel
theorem dL_law_432 : decode cL_law 432 = .ok (.aload_n 0, 1) := by decide +kernel
theorem dL_law_433 : decode cL_law 433 = .ok (.iload_n 3, 1) := by decide +kernel
theorem dL_law_434 : decode cL_law 434 = .ok (.iconst 1, 1) := by decide +kernel
theorem dL_law_435 : decode cL_law 435 = .ok (.iadd, 1) := by decide +kernel
theorem dL_law_436 : decode cL_law 436 = .ok (.iaload, 1) := by decide +kernel
theorem dL_law_437 : decode cL_law 437 = .ok (.invokevirtual 52, 3) := by decide +kernel
theorem dL_law_440 : decode cL_law 440 = .ok (.if_icmp .eq 564, 3) := by decide +kernel
theorem dL_law_443 : decode cL_law 443 = .ok (.iconst 0, 1) := by decide +kernel
theorem dL_law_444 : decode cL_law 444 = .ok (.ireturn, 1) := by decide +kernel
theorem dL_law_445 : decode cL_law 445 = .ok (.aload_n 1, 1) := by decide +kernel
theorem dL_law_446 : decode cL_law 446 = .ok (.aload_n 0, 1) := by decide +kernel
theorem dL_law_447 : decode cL_law 447 = .ok (.iload_n 3, 1) := by decide +kernel
theorem dL_law_448 : decode cL_law 448 = .ok (.iconst 1, 1) := by decide +kernel
theorem dL_law_449 : decode cL_law 449 = .ok (.iadd, 1) := by decide +kernel
theorem dL_law_450 : decode cL_law 450 = .ok (.iaload, 1) := by decide +kernel
theorem dL_law_451 : decode cL_law 451 = .ok (.aload_n 0, 1) := by decide +kernel
theorem dL_law_452 : decode cL_law 452 = .ok (.iload_n 3, 1) := by decide +kernel
theorem dL_law_453 : decode cL_law 453 = .ok (.iconst 2, 1) := by decide +kernel
theorem dL_law_454 : decode cL_law 454 = .ok (.iadd, 1) := by decide +kernel
theorem dL_law_455 : decode cL_law 455 = .ok (.iaload, 1) := by decide +kernel
theorem dL_law_456 : decode cL_law 456 = .ok (.invokevirtual 53, 3) := by decide +kernel
theorem dL_law_459 : decode cL_law 459 = .ok (.aload_n 2, 1) := by decide +kernel
theorem dL_law_460 : decode cL_law 460 = .ok (.aload_n 0, 1) := by decide +kernel
theorem dL_law_461 : decode cL_law 461 = .ok (.iload_n 3, 1) := by decide +kernel
theorem dL_law_462 : decode cL_law 462 = .ok (.iconst 1, 1) := by decide +kernel
theorem dL_law_463 : decode cL_law 463 = .ok (.iadd, 1) := by decide +kernel
theorem dL_law_464 : decode cL_law 464 = .ok (.iaload, 1) := by decide +kernel
theorem dL_law_465 : decode cL_law 465 = .ok (.aload_n 0, 1) := by decide +kernel
theorem dL_law_466 : decode cL_law 466 = .ok (.iload_n 3, 1) := by decide +kernel
theorem dL_law_467 : decode cL_law 467 = .ok (.iconst 2, 1) := by decide +kernel
theorem dL_law_468 : decode cL_law 468 = .ok (.iadd, 1) := by decide +kernel
theorem dL_law_469 : decode cL_law 469 = .ok (.iaload, 1) := by decide +kernel
theorem dL_law_470 : decode cL_law 470 = .ok (.invokevirtual 56, 3) := by decide +kernel
theorem dL_law_473 : decode cL_law 473 = .ok (.if_icmp .eq 531, 3) := by decide +kernel
theorem dL_law_476 : decode cL_law 476 = .ok (.iconst 0, 1) := by decide +kernel
theorem dL_law_477 : decode cL_law 477 = .ok (.ireturn, 1) := by decide +kernel
theorem dL_law_478 : decode cL_law 478 = .ok (.aload_n 1, 1) := by decide +kernel
theorem dL_law_479 : decode cL_law 479 = .ok (.aload_n 0, 1) := by decide +kernel
theorem dL_law_480 : decode cL_law 480 = .ok (.iload_n 3, 1) := by decide +kernel
theorem dL_law_481 : decode cL_law 481 = .ok (.iconst 1, 1) := by decide +kernel
theorem dL_law_482 : decode cL_law 482 = .ok (.iadd, 1) := by decide +kernel
theorem dL_law_483 : decode cL_law 483 = .ok (.iaload, 1) := by decide +kernel
theorem dL_law_484 : decode cL_law 484 = .ok (.invokevirtual 57, 3) := by decide +kernel
theorem dL_law_487 : decode cL_law 487 = .ok (.aload_n 2, 1) := by decide +kernel
theorem dL_law_488 : decode cL_law 488 = .ok (.aload_n 0, 1) := by decide +kernel
theorem dL_law_489 : decode cL_law 489 = .ok (.iload_n 3, 1) := by decide +kernel
theorem dL_law_490 : decode cL_law 490 = .ok (.iconst 1, 1) := by decide +kernel
theorem dL_law_491 : decode cL_law 491 = .ok (.iadd, 1) := by decide +kernel
theorem dL_law_492 : decode cL_law 492 = .ok (.iaload, 1) := by decide +kernel
theorem dL_law_493 : decode cL_law 493 = .ok (.invokevirtual 60, 3) := by decide +kernel
theorem dL_law_496 : decode cL_law 496 = .ok (.if_icmp .eq 508, 3) := by decide +kernel
theorem dL_law_499 : decode cL_law 499 = .ok (.iconst 0, 1) := by decide +kernel
theorem dL_law_500 : decode cL_law 500 = .ok (.ireturn, 1) := by decide +kernel
theorem dL_law_501 : decode cL_law 501 = .ok (.aload_n 1, 1) := by decide +kernel
theorem dL_law_502 : decode cL_law 502 = .ok (.aload_n 0, 1) := by decide +kernel
theorem dL_law_503 : decode cL_law 503 = .ok (.iload_n 3, 1) := by decide +kernel
theorem dL_law_504 : decode cL_law 504 = .ok (.iconst 1, 1) := by decide +kernel
theorem dL_law_505 : decode cL_law 505 = .ok (.iadd, 1) := by decide +kernel
theorem dL_law_506 : decode cL_law 506 = .ok (.iaload, 1) := by decide +kernel
theorem dL_law_507 : decode cL_law 507 = .ok (.aload_n 0, 1) := by decide +kernel
theorem dL_law_508 : decode cL_law 508 = .ok (.iload_n 3, 1) := by decide +kernel
theorem dL_law_509 : decode cL_law 509 = .ok (.iconst 2, 1) := by decide +kernel
theorem dL_law_510 : decode cL_law 510 = .ok (.iadd, 1) := by decide +kernel
theorem dL_law_511 : decode cL_law 511 = .ok (.iaload, 1) := by decide +kernel
theorem dL_law_512 : decode cL_law 512 = .ok (.invokevirtual 61, 3) := by decide +kernel
theorem dL_law_515 : decode cL_law 515 = .ok (.aload_n 2, 1) := by decide +kernel
theorem dL_law_516 : decode cL_law 516 = .ok (.aload_n 0, 1) := by decide +kernel
theorem dL_law_517 : decode cL_law 517 = .ok (.iload_n 3, 1) := by decide +kernel
theorem dL_law_518 : decode cL_law 518 = .ok (.iconst 1, 1) := by decide +kernel
theorem dL_law_519 : decode cL_law 519 = .ok (.iadd, 1) := by decide +kernel
theorem dL_law_520 : decode cL_law 520 = .ok (.iaload, 1) := by decide +kernel
theorem dL_law_521 : decode cL_law 521 = .ok (.aload_n 0, 1) := by decide +kernel
theorem dL_law_522 : decode cL_law 522 = .ok (.iload_n 3, 1) := by decide +kernel
theorem dL_law_523 : decode cL_law 523 = .ok (.iconst 2, 1) := by decide +kernel
theorem dL_law_524 : decode cL_law 524 = .ok (.iadd, 1) := by decide +kernel
theorem dL_law_525 : decode cL_law 525 = .ok (.iaload, 1) := by decide +kernel
theorem dL_law_526 : decode cL_law 526 = .ok (.invokevirtual 64, 3) := by decide +kernel
theorem dL_law_529 : decode cL_law 529 = .ok (.if_icmp .eq 475, 3) := by decide +kernel
theorem dL_law_532 : decode cL_law 532 = .ok (.iconst 0, 1) := by decide +kernel
theorem dL_law_533 : decode cL_law 533 = .ok (.ireturn, 1) := by decide +kernel
theorem dL_law_534 : decode cL_law 534 = .ok (.aload_n 1, 1) := by decide +kernel
theorem dL_law_535 : decode cL_law 535 = .ok (.aload_n 0, 1) := by decide +kernel
theorem dL_law_536 : decode cL_law 536 = .ok (.iload_n 3, 1) := by decide +kernel
theorem dL_law_537 : decode cL_law 537 = .ok (.iconst 1, 1) := by decide +kernel
theorem dL_law_538 : decode cL_law 538 = .ok (.iadd, 1) := by decide +kernel
theorem dL_law_539 : decode cL_law 539 = .ok (.iaload, 1) := by decide +kernel
theorem dL_law_540 : decode cL_law 540 = .ok (.aload_n 0, 1) := by decide +kernel
theorem dL_law_541 : decode cL_law 541 = .ok (.iload_n 3, 1) := by decide +kernel
theorem dL_law_542 : decode cL_law 542 = .ok (.iconst 2, 1) := by decide +kernel
theorem dL_law_543 : decode cL_law 543 = .ok (.iadd, 1) := by decide +kernel
theorem dL_law_544 : decode cL_law 544 = .ok (.iaload, 1) := by decide +kernel
theorem dL_law_545 : decode cL_law 545 = .ok (.invokevirtual 65, 3) := by decide +kernel
theorem dL_law_548 : decode cL_law 548 = .ok (.aload_n 2, 1) := by decide +kernel
theorem dL_law_549 : decode cL_law 549 = .ok (.aload_n 0, 1) := by decide +kernel
theorem dL_law_550 : decode cL_law 550 = .ok (.iload_n 3, 1) := by decide +kernel
theorem dL_law_551 : decode cL_law 551 = .ok (.iconst 1, 1) := by decide +kernel
theorem dL_law_552 : decode cL_law 552 = .ok (.iadd, 1) := by decide +kernel
theorem dL_law_553 : decode cL_law 553 = .ok (.iaload, 1) := by decide +kernel
theorem dL_law_554 : decode cL_law 554 = .ok (.aload_n 0, 1) := by decide +kernel
theorem dL_law_555 : decode cL_law 555 = .ok (.iload_n 3, 1) := by decide +kernel
theorem dL_law_556 : decode cL_law 556 = .ok (.iconst 2, 1) := by decide +kernel
theorem dL_law_557 : decode cL_law 557 = .ok (.iadd, 1) := by decide +kernel
theorem dL_law_558 : decode cL_law 558 = .ok (.iaload, 1) := by decide +kernel
theorem dL_law_559 : decode cL_law 559 = .ok (.invokevirtual 68, 3) := by decide +kernel
theorem dL_law_562 : decode cL_law 562 = .ok (.if_icmp .eq 442, 3) := by decide +kernel
theorem dL_law_565 : decode cL_law 565 = .ok (.iconst 0, 1) := by decide +kernel
theorem dL_law_566 : decode cL_law 566 = .ok (.ireturn, 1) := by decide +kernel
theorem dL_law_567 : decode cL_law 567 = .ok (.aload_n 1, 1) := by decide +kernel
theorem dL_law_568 : decode cL_law 568 = .ok (.aload_n 0, 1) := by decide +kernel
theorem dL_law_569 : decode cL_law 569 = .ok (.iload_n 3, 1) := by decide +kernel
theorem dL_law_570 : decode cL_law 570 = .ok (.iconst 1, 1) := by decide +kernel
theorem dL_law_571 : decode cL_law 571 = .ok (.iadd, 1) := by decide +kernel
theorem dL_law_572 : decode cL_law 572 = .ok (.iaload, 1) := by decide +kernel
theorem dL_law_573 : decode cL_law 573 = .ok (.invokevirtual 69, 3) := by decide +kernel
theorem dL_law_576 : decode cL_law 576 = .ok (.aload_n 2, 1) := by decide +kernel
theorem dL_law_577 : decode cL_law 577 = .ok (.aload_n 0, 1) := by decide +kernel
theorem dL_law_578 : decode cL_law 578 = .ok (.iload_n 3, 1) := by decide +kernel
theorem dL_law_579 : decode cL_law 579 = .ok (.iconst 1, 1) := by decide +kernel
theorem dL_law_580 : decode cL_law 580 = .ok (.iadd, 1) := by decide +kernel
theorem dL_law_581 : decode cL_law 581 = .ok (.iaload, 1) := by decide +kernel
theorem dL_law_582 : decode cL_law 582 = .ok (.invokevirtual 72, 3) := by decide +kernel
theorem dL_law_585 : decode cL_law 585 = .ok (.if_icmp .eq 419, 3) := by decide +kernel
theorem dL_law_588 : decode cL_law 588 = .ok (.iconst 0, 1) := by decide +kernel
theorem dL_law_589 : decode cL_law 589 = .ok (.ireturn, 1) := by decide +kernel
theorem dL_law_590 : decode cL_law 590 = .ok (.aload_n 1, 1) := by decide +kernel
theorem dL_law_591 : decode cL_law 591 = .ok (.aload_n 0, 1) := by decide +kernel
theorem dL_law_592 : decode cL_law 592 = .ok (.iload_n 3, 1) := by decide +kernel
theorem dL_law_593 : decode cL_law 593 = .ok (.iconst 1, 1) := by decide +kernel
theorem dL_law_594 : decode cL_law 594 = .ok (.iadd, 1) := by decide +kernel
theorem dL_law_595 : decode cL_law 595 = .ok (.iaload, 1) := by decide +kernel
theorem dL_law_596 : decode cL_law 596 = .ok (.aload_n 0, 1) := by decide +kernel
theorem dL_law_597 : decode cL_law 597 = .ok (.iload_n 3, 1) := by decide +kernel
theorem dL_law_598 : decode cL_law 598 = .ok (.iconst 2, 1) := by decide +kernel
theorem dL_law_599 : decode cL_law 599 = .ok (.iadd, 1) := by decide +kernel
theorem dL_law_600 : decode cL_law 600 = .ok (.iaload, 1) := by decide +kernel
theorem dL_law_601 : decode cL_law 601 = .ok (.aload_n 0, 1) := by decide +kernel
theorem dL_law_602 : decode cL_law 602 = .ok (.iload_n 3, 1) := by decide +kernel
theorem dL_law_603 : decode cL_law 603 = .ok (.iconst 3, 1) := by decide +kernel
theorem dL_law_604 : decode cL_law 604 = .ok (.iadd, 1) := by decide +kernel
theorem dL_law_605 : decode cL_law 605 = .ok (.iaload, 1) := by decide +kernel
theorem dL_law_606 : decode cL_law 606 = .ok (.invokevirtual 73, 3) := by decide +kernel
theorem dL_law_609 : decode cL_law 609 = .ok (.aload_n 2, 1) := by decide +kernel
theorem dL_law_610 : decode cL_law 610 = .ok (.aload_n 0, 1) := by decide +kernel
theorem dL_law_611 : decode cL_law 611 = .ok (.iload_n 3, 1) := by decide +kernel
theorem dL_law_612 : decode cL_law 612 = .ok (.iconst 1, 1) := by decide +kernel
theorem dL_law_613 : decode cL_law 613 = .ok (.iadd, 1) := by decide +kernel
theorem dL_law_614 : decode cL_law 614 = .ok (.iaload, 1) := by decide +kernel
theorem dL_law_615 : decode cL_law 615 = .ok (.aload_n 0, 1) := by decide +kernel
theorem dL_law_616 : decode cL_law 616 = .ok (.iload_n 3, 1) := by decide +kernel
theorem dL_law_617 : decode cL_law 617 = .ok (.iconst 2, 1) := by decide +kernel
theorem dL_law_618 : decode cL_law 618 = .ok (.iadd, 1) := by decide +kernel
theorem dL_law_619 : decode cL_law 619 = .ok (.iaload, 1) := by decide +kernel
theorem dL_law_620 : decode cL_law 620 = .ok (.aload_n 0, 1) := by decide +kernel
theorem dL_law_621 : decode cL_law 621 = .ok (.iload_n 3, 1) := by decide +kernel
theorem dL_law_622 : decode cL_law 622 = .ok (.iconst 3, 1) := by decide +kernel
theorem dL_law_623 : decode cL_law 623 = .ok (.iadd, 1) := by decide +kernel
theorem dL_law_624 : decode cL_law 624 = .ok (.iaload, 1) := by decide +kernel
theorem dL_law_625 : decode cL_law 625 = .ok (.invokevirtual 76, 3) := by decide +kernel
theorem dL_law_628 : decode cL_law 628 = .ok (.if_icmp .eq 376, 3) := by decide +kernel
theorem dL_law_631 : decode cL_law 631 = .ok (.iconst 0, 1) := by decide +kernel
theorem dL_law_632 : decode cL_law 632 = .ok (.ireturn, 1) := by decide +kernel
theorem dL_law_633 : decode cL_law 633 = .ok (.aload_n 1, 1) := by decide +kernel
theorem dL_law_634 : decode cL_law 634 = .ok (.aload_n 0, 1) := by decide +kernel
theorem dL_law_635 : decode cL_law 635 = .ok (.iload_n 3, 1) := by decide +kernel
theorem dL_law_636 : decode cL_law 636 = .ok (.iconst 1, 1) := by decide +kernel
theorem dL_law_637 : decode cL_law 637 = .ok (.iadd, 1) := by decide +kernel
theorem dL_law_638 : decode cL_law 638 = .ok (.iaload, 1) := by decide +kernel
theorem dL_law_639 : decode cL_law 639 = .ok (.aload_n 0, 1) := by decide +kernel
theorem dL_law_640 : decode cL_law 640 = .ok (.iload_n 3, 1) := by decide +kernel
theorem dL_law_641 : decode cL_law 641 = .ok (.iconst 2, 1) := by decide +kernel
theorem dL_law_642 : decode cL_law 642 = .ok (.iadd, 1) := by decide +kernel
theorem dL_law_643 : decode cL_law 643 = .ok (.iaload, 1) := by decide +kernel
theorem dL_law_644 : decode cL_law 644 = .ok (.invokevirtual 77, 3) := by decide +kernel
theorem dL_law_647 : decode cL_law 647 = .ok (.aload_n 2, 1) := by decide +kernel
theorem dL_law_648 : decode cL_law 648 = .ok (.aload_n 0, 1) := by decide +kernel
theorem dL_law_649 : decode cL_law 649 = .ok (.iload_n 3, 1) := by decide +kernel
theorem dL_law_650 : decode cL_law 650 = .ok (.iconst 1, 1) := by decide +kernel
theorem dL_law_651 : decode cL_law 651 = .ok (.iadd, 1) := by decide +kernel
theorem dL_law_652 : decode cL_law 652 = .ok (.iaload, 1) := by decide +kernel
theorem dL_law_653 : decode cL_law 653 = .ok (.aload_n 0, 1) := by decide +kernel
theorem dL_law_654 : decode cL_law 654 = .ok (.iload_n 3, 1) := by decide +kernel
theorem dL_law_655 : decode cL_law 655 = .ok (.iconst 2, 1) := by decide +kernel
theorem dL_law_656 : decode cL_law 656 = .ok (.iadd, 1) := by decide +kernel
theorem dL_law_657 : decode cL_law 657 = .ok (.iaload, 1) := by decide +kernel
theorem dL_law_658 : decode cL_law 658 = .ok (.invokevirtual 80, 3) := by decide +kernel
theorem dL_law_661 : decode cL_law 661 = .ok (.if_icmp .eq 343, 3) := by decide +kernel
theorem dL_law_664 : decode cL_law 664 = .ok (.iconst 0, 1) := by decide +kernel
theorem dL_law_665 : decode cL_law 665 = .ok (.ireturn, 1) := by decide +kernel
theorem dL_law_666 : decode cL_law 666 = .ok (.aload_n 1, 1) := by decide +kernel
theorem dL_law_667 : decode cL_law 667 = .ok (.aload_n 0, 1) := by decide +kernel
theorem dL_law_668 : decode cL_law 668 = .ok (.iload_n 3, 1) := by decide +kernel
theorem dL_law_669 : decode cL_law 669 = .ok (.iconst 1, 1) := by decide +kernel
theorem dL_law_670 : decode cL_law 670 = .ok (.iadd, 1) := by decide +kernel
theorem dL_law_671 : decode cL_law 671 = .ok (.iaload, 1) := by decide +kernel
theorem dL_law_672 : decode cL_law 672 = .ok (.aload_n 0, 1) := by decide +kernel
theorem dL_law_673 : decode cL_law 673 = .ok (.iload_n 3, 1) := by decide +kernel
theorem dL_law_674 : decode cL_law 674 = .ok (.iconst 2, 1) := by decide +kernel
theorem dL_law_675 : decode cL_law 675 = .ok (.iadd, 1) := by decide +kernel
theorem dL_law_676 : decode cL_law 676 = .ok (.iaload, 1) := by decide +kernel
theorem dL_law_677 : decode cL_law 677 = .ok (.invokevirtual 81, 3) := by decide +kernel
theorem dL_law_680 : decode cL_law 680 = .ok (.aload_n 2, 1) := by decide +kernel
theorem dL_law_681 : decode cL_law 681 = .ok (.aload_n 0, 1) := by decide +kernel
theorem dL_law_682 : decode cL_law 682 = .ok (.iload_n 3, 1) := by decide +kernel
theorem dL_law_683 : decode cL_law 683 = .ok (.iconst 1, 1) := by decide +kernel
theorem dL_law_684 : decode cL_law 684 = .ok (.iadd, 1) := by decide +kernel
theorem dL_law_685 : decode cL_law 685 = .ok (.iaload, 1) := by decide +kernel
theorem dL_law_686 : decode cL_law 686 = .ok (.aload_n 0, 1) := by decide +kernel
theorem dL_law_687 : decode cL_law 687 = .ok (.iload_n 3, 1) := by decide +kernel
theorem dL_law_688 : decode cL_law 688 = .ok (.iconst 2, 1) := by decide +kernel
theorem dL_law_689 : decode cL_law 689 = .ok (.iadd, 1) := by decide +kernel
theorem dL_law_690 : decode cL_law 690 = .ok (.iaload, 1) := by decide +kernel
theorem dL_law_691 : decode cL_law 691 = .ok (.invokevirtual 84, 3) := by decide +kernel
theorem dL_law_694 : decode cL_law 694 = .ok (.if_icmp .eq 310, 3) := by decide +kernel
theorem dL_law_697 : decode cL_law 697 = .ok (.iconst 0, 1) := by decide +kernel
theorem dL_law_698 : decode cL_law 698 = .ok (.ireturn, 1) := by decide +kernel
theorem dL_law_699 : decode cL_law 699 = .ok (.aload_n 1, 1) := by decide +kernel
theorem dL_law_700 : decode cL_law 700 = .ok (.aload_n 0, 1) := by decide +kernel
theorem dL_law_701 : decode cL_law 701 = .ok (.iload_n 3, 1) := by decide +kernel
theorem dL_law_702 : decode cL_law 702 = .ok (.iconst 1, 1) := by decide +kernel
theorem dL_law_703 : decode cL_law 703 = .ok (.iadd, 1) := by decide +kernel
theorem dL_law_704 : decode cL_law 704 = .ok (.iaload, 1) := by decide +kernel
theorem dL_law_705 : decode cL_law 705 = .ok (.aload_n 0, 1) := by decide +kernel
theorem dL_law_706 : decode cL_law 706 = .ok (.iload_n 3, 1) := by decide +kernel
theorem dL_law_707 : decode cL_law 707 = .ok (.iconst 2, 1) := by decide +kernel
theorem dL_law_708 : decode cL_law 708 = .ok (.iadd, 1) := by decide +kernel
theorem dL_law_709 : decode cL_law 709 = .ok (.iaload, 1) := by decide +kernel
theorem dL_law_710 : decode cL_law 710 = .ok (.aload_n 0, 1) := by decide +kernel
theorem dL_law_711 : decode cL_law 711 = .ok (.iload_n 3, 1) := by decide +kernel
theorem dL_law_712 : decode cL_law 712 = .ok (.iconst 3, 1) := by decide +kernel
theorem dL_law_713 : decode cL_law 713 = .ok (.iadd, 1) := by decide +kernel
theorem dL_law_714 : decode cL_law 714 = .ok (.iaload, 1) := by decide +kernel
theorem dL_law_715 : decode cL_law 715 = .ok (.aload_n 0, 1) := by decide +kernel
theorem dL_law_716 : decode cL_law 716 = .ok (.iload_n 3, 1) := by decide +kernel
theorem dL_law_717 : decode cL_law 717 = .ok (.iconst 4, 1) := by decide +kernel
theorem dL_law_718 : decode cL_law 718 = .ok (.iadd, 1) := by decide +kernel
theorem dL_law_719 : decode cL_law 719 = .ok (.iaload, 1) := by decide +kernel
theorem dL_law_720 : decode cL_law 720 = .ok (.invokevirtual 85, 3) := by decide +kernel
theorem dL_law_723 : decode cL_law 723 = .ok (.aload_n 2, 1) := by decide +kernel
theorem dL_law_724 : decode cL_law 724 = .ok (.aload_n 0, 1) := by decide +kernel
theorem dL_law_725 : decode cL_law 725 = .ok (.iload_n 3, 1) := by decide +kernel
theorem dL_law_726 : decode cL_law 726 = .ok (.iconst 1, 1) := by decide +kernel
theorem dL_law_727 : decode cL_law 727 = .ok (.iadd, 1) := by decide +kernel
theorem dL_law_728 : decode cL_law 728 = .ok (.iaload, 1) := by decide +kernel
theorem dL_law_729 : decode cL_law 729 = .ok (.aload_n 0, 1) := by decide +kernel
theorem dL_law_730 : decode cL_law 730 = .ok (.iload_n 3, 1) := by decide +kernel
theorem dL_law_731 : decode cL_law 731 = .ok (.iconst 2, 1) := by decide +kernel
theorem dL_law_732 : decode cL_law 732 = .ok (.iadd, 1) := by decide +kernel
theorem dL_law_733 : decode cL_law 733 = .ok (.iaload, 1) := by decide +kernel
theorem dL_law_734 : decode cL_law 734 = .ok (.aload_n 0, 1) := by decide +kernel
theorem dL_law_735 : decode cL_law 735 = .ok (.iload_n 3, 1) := by decide +kernel
theorem dL_law_736 : decode cL_law 736 = .ok (.iconst 3, 1) := by decide +kernel
theorem dL_law_737 : decode cL_law 737 = .ok (.iadd, 1) := by decide +kernel
theorem dL_law_738 : decode cL_law 738 = .ok (.iaload, 1) := by decide +kernel
theorem dL_law_739 : decode cL_law 739 = .ok (.aload_n 0, 1) := by decide +kernel
theorem dL_law_740 : decode cL_law 740 = .ok (.iload_n 3, 1) := by decide +kernel
theorem dL_law_741 : decode cL_law 741 = .ok (.iconst 4, 1) := by decide +kernel
theorem dL_law_742 : decode cL_law 742 = .ok (.iadd, 1) := by decide +kernel
theorem dL_law_743 : decode cL_law 743 = .ok (.iaload, 1) := by decide +kernel
theorem dL_law_744 : decode cL_law 744 = .ok (.invokevirtual 89, 3) := by decide +kernel
theorem dL_law_747 : decode cL_law 747 = .ok (.if_icmp .eq 257, 3) := by decide +kernel
theorem dL_law_750 : decode cL_law 750 = .ok (.iconst 0, 1) := by decide +kernel
theorem dL_law_751 : decode cL_law 751 = .ok (.ireturn, 1) := by decide +kernel
theorem dL_law_752 : decode cL_law 752 = .ok (.aload_n 1, 1) := by decide +kernel
theorem dL_law_753 : decode cL_law 753 = .ok (.aload_n 0, 1) := by decide +kernel
theorem dL_law_754 : decode cL_law 754 = .ok (.iload_n 3, 1) := by decide +kernel
theorem dL_law_755 : decode cL_law 755 = .ok (.iconst 1, 1) := by decide +kernel
theorem dL_law_756 : decode cL_law 756 = .ok (.iadd, 1) := by decide +kernel
theorem dL_law_757 : decode cL_law 757 = .ok (.iaload, 1) := by decide +kernel
theorem dL_law_758 : decode cL_law 758 = .ok (.aload_n 0, 1) := by decide +kernel
theorem dL_law_759 : decode cL_law 759 = .ok (.iload_n 3, 1) := by decide +kernel
theorem dL_law_760 : decode cL_law 760 = .ok (.iconst 2, 1) := by decide +kernel
theorem dL_law_761 : decode cL_law 761 = .ok (.iadd, 1) := by decide +kernel
theorem dL_law_762 : decode cL_law 762 = .ok (.iaload, 1) := by decide +kernel
theorem dL_law_763 : decode cL_law 763 = .ok (.aload_n 0, 1) := by decide +kernel
theorem dL_law_764 : decode cL_law 764 = .ok (.iload_n 3, 1) := by decide +kernel
theorem dL_law_765 : decode cL_law 765 = .ok (.iconst 3, 1) := by decide +kernel
theorem dL_law_766 : decode cL_law 766 = .ok (.iadd, 1) := by decide +kernel
theorem dL_law_767 : decode cL_law 767 = .ok (.iaload, 1) := by decide +kernel
theorem dL_law_768 : decode cL_law 768 = .ok (.invokevirtual 90, 3) := by decide +kernel
theorem dL_law_771 : decode cL_law 771 = .ok (.aload_n 2, 1) := by decide +kernel
theorem dL_law_772 : decode cL_law 772 = .ok (.aload_n 0, 1) := by decide +kernel
theorem dL_law_773 : decode cL_law 773 = .ok (.iload_n 3, 1) := by decide +kernel
theorem dL_law_774 : decode cL_law 774 = .ok (.iconst 1, 1) := by decide +kernel
theorem dL_law_775 : decode cL_law 775 = .ok (.iadd, 1) := by decide +kernel
theorem dL_law_776 : decode cL_law 776 = .ok (.iaload, 1) := by decide +kernel
theorem dL_law_777 : decode cL_law 777 = .ok (.aload_n 0, 1) := by decide +kernel
theorem dL_law_778 : decode cL_law 778 = .ok (.iload_n 3, 1) := by decide +kernel
theorem dL_law_779 : decode cL_law 779 = .ok (.iconst 2, 1) := by decide +kernel
theorem dL_law_780 : decode cL_law 780 = .ok (.iadd, 1) := by decide +kernel
theorem dL_law_781 : decode cL_law 781 = .ok (.iaload, 1) := by decide +kernel
theorem dL_law_782 : decode cL_law 782 = .ok (.aload_n 0, 1) := by decide +kernel
theorem dL_law_783 : decode cL_law 783 = .ok (.iload_n 3, 1) := by decide +kernel
theorem dL_law_784 : decode cL_law 784 = .ok (.iconst 3, 1) := by decide +kernel
theorem dL_law_785 : decode cL_law 785 = .ok (.iadd, 1) := by decide +kernel
theorem dL_law_786 : decode cL_law 786 = .ok (.iaload, 1) := by decide +kernel
theorem dL_law_787 : decode cL_law 787 = .ok (.invokevirtual 93, 3) := by decide +kernel
theorem dL_law_790 : decode cL_law 790 = .ok (.if_icmp .eq 214, 3) := by decide +kernel
theorem dL_law_793 : decode cL_law 793 = .ok (.iconst 0, 1) := by decide +kernel
theorem dL_law_794 : decode cL_law 794 = .ok (.ireturn, 1) := by decide +kernel
theorem dL_law_795 : decode cL_law 795 = .ok (.aload_n 1, 1) := by decide +kernel
theorem dL_law_796 : decode cL_law 796 = .ok (.aload_n 0, 1) := by decide +kernel
theorem dL_law_797 : decode cL_law 797 = .ok (.iload_n 3, 1) := by decide +kernel
theorem dL_law_798 : decode cL_law 798 = .ok (.iconst 1, 1) := by decide +kernel
theorem dL_law_799 : decode cL_law 799 = .ok (.iadd, 1) := by decide +kernel
theorem dL_law_800 : decode cL_law 800 = .ok (.iaload, 1) := by decide +kernel
theorem dL_law_801 : decode cL_law 801 = .ok (.aload_n 0, 1) := by decide +kernel
theorem dL_law_802 : decode cL_law 802 = .ok (.iload_n 3, 1) := by decide +kernel
theorem dL_law_803 : decode cL_law 803 = .ok (.iconst 2, 1) := by decide +kernel
theorem dL_law_804 : decode cL_law 804 = .ok (.iadd, 1) := by decide +kernel
theorem dL_law_805 : decode cL_law 805 = .ok (.iaload, 1) := by decide +kernel
theorem dL_law_806 : decode cL_law 806 = .ok (.aload_n 0, 1) := by decide +kernel
theorem dL_law_807 : decode cL_law 807 = .ok (.iload_n 3, 1) := by decide +kernel
theorem dL_law_808 : decode cL_law 808 = .ok (.iconst 3, 1) := by decide +kernel
theorem dL_law_809 : decode cL_law 809 = .ok (.iadd, 1) := by decide +kernel
theorem dL_law_810 : decode cL_law 810 = .ok (.iaload, 1) := by decide +kernel
theorem dL_law_811 : decode cL_law 811 = .ok (.aload_n 0, 1) := by decide +kernel
theorem dL_law_812 : decode cL_law 812 = .ok (.iload_n 3, 1) := by decide +kernel
theorem dL_law_813 : decode cL_law 813 = .ok (.iconst 4, 1) := by decide +kernel
theorem dL_law_814 : decode cL_law 814 = .ok (.iadd, 1) := by decide +kernel
theorem dL_law_815 : decode cL_law 815 = .ok (.iaload, 1) := by decide +kernel
theorem dL_law_816 : decode cL_law 816 = .ok (.invokevirtual 94, 3) := by decide +kernel
theorem dL_law_819 : decode cL_law 819 = .ok (.aload_n 2, 1) := by decide +kernel
theorem dL_law_820 : decode cL_law 820 = .ok (.aload_n 0, 1) := by decide +kernel
theorem dL_law_821 : decode cL_law 821 = .ok (.iload_n 3, 1) := by decide +kernel
theorem dL_law_822 : decode cL_law 822 = .ok (.iconst 1, 1) := by decide +kernel
theorem dL_law_823 : decode cL_law 823 = .ok (.iadd, 1) := by decide +kernel
theorem dL_law_824 : decode cL_law 824 = .ok (.iaload, 1) := by decide +kernel
theorem dL_law_825 : decode cL_law 825 = .ok (.aload_n 0, 1) := by decide +kernel
theorem dL_law_826 : decode cL_law 826 = .ok (.iload_n 3, 1) := by decide +kernel
theorem dL_law_827 : decode cL_law 827 = .ok (.iconst 2, 1) := by decide +kernel
theorem dL_law_828 : decode cL_law 828 = .ok (.iadd, 1) := by decide +kernel
theorem dL_law_829 : decode cL_law 829 = .ok (.iaload, 1) := by decide +kernel
theorem dL_law_830 : decode cL_law 830 = .ok (.aload_n 0, 1) := by decide +kernel
theorem dL_law_831 : decode cL_law 831 = .ok (.iload_n 3, 1) := by decide +kernel
theorem dL_law_832 : decode cL_law 832 = .ok (.iconst 3, 1) := by decide +kernel
theorem dL_law_833 : decode cL_law 833 = .ok (.iadd, 1) := by decide +kernel
theorem dL_law_834 : decode cL_law 834 = .ok (.iaload, 1) := by decide +kernel
theorem dL_law_835 : decode cL_law 835 = .ok (.aload_n 0, 1) := by decide +kernel
theorem dL_law_836 : decode cL_law 836 = .ok (.iload_n 3, 1) := by decide +kernel
theorem dL_law_837 : decode cL_law 837 = .ok (.iconst 4, 1) := by decide +kernel
theorem dL_law_838 : decode cL_law 838 = .ok (.iadd, 1) := by decide +kernel
theorem dL_law_839 : decode cL_law 839 = .ok (.iaload, 1) := by decide +kernel
theorem dL_law_840 : decode cL_law 840 = .ok (.invokevirtual 97, 3) := by decide +kernel
theorem dL_law_843 : decode cL_law 843 = .ok (.if_icmp .eq 161, 3) := by decide +kernel
theorem dL_law_846 : decode cL_law 846 = .ok (.iconst 0, 1) := by decide +kernel
theorem dL_law_847 : decode cL_law 847 = .ok (.ireturn, 1) := by decide +kernel
theorem dL_law_848 : decode cL_law 848 = .ok (.aload_n 1, 1) := by decide +kernel
theorem dL_law_849 : decode cL_law 849 = .ok (.aload_n 0, 1) := by decide +kernel
theorem dL_law_850 : decode cL_law 850 = .ok (.iload_n 3, 1) := by decide +kernel
theorem dL_law_851 : decode cL_law 851 = .ok (.iconst 1, 1) := by decide +kernel
theorem dL_law_852 : decode cL_law 852 = .ok (.iadd, 1) := by decide +kernel
theorem dL_law_853 : decode cL_law 853 = .ok (.iaload, 1) := by decide +kernel
theorem dL_law_854 : decode cL_law 854 = .ok (.aload_n 0, 1) := by decide +kernel
theorem dL_law_855 : decode cL_law 855 = .ok (.iload_n 3, 1) := by decide +kernel
theorem dL_law_856 : decode cL_law 856 = .ok (.iconst 2, 1) := by decide +kernel
theorem dL_law_857 : decode cL_law 857 = .ok (.iadd, 1) := by decide +kernel
theorem dL_law_858 : decode cL_law 858 = .ok (.iaload, 1) := by decide +kernel
theorem dL_law_859 : decode cL_law 859 = .ok (.aload_n 0, 1) := by decide +kernel
theorem dL_law_860 : decode cL_law 860 = .ok (.iload_n 3, 1) := by decide +kernel
theorem dL_law_861 : decode cL_law 861 = .ok (.iconst 3, 1) := by decide +kernel
theorem dL_law_862 : decode cL_law 862 = .ok (.iadd, 1) := by decide +kernel
theorem dL_law_863 : decode cL_law 863 = .ok (.iaload, 1) := by decide +kernel
theorem dL_law_864 : decode cL_law 864 = .ok (.aload_n 0, 1) := by decide +kernel
theorem dL_law_865 : decode cL_law 865 = .ok (.iload_n 3, 1) := by decide +kernel
theorem dL_law_866 : decode cL_law 866 = .ok (.iconst 4, 1) := by decide +kernel
theorem dL_law_867 : decode cL_law 867 = .ok (.iadd, 1) := by decide +kernel
theorem dL_law_868 : decode cL_law 868 = .ok (.iaload, 1) := by decide +kernel
theorem dL_law_869 : decode cL_law 869 = .ok (.invokevirtual 98, 3) := by decide +kernel
theorem dL_law_872 : decode cL_law 872 = .ok (.aload_n 2, 1) := by decide +kernel
theorem dL_law_873 : decode cL_law 873 = .ok (.aload_n 0, 1) := by decide +kernel
theorem dL_law_874 : decode cL_law 874 = .ok (.iload_n 3, 1) := by decide +kernel
theorem dL_law_875 : decode cL_law 875 = .ok (.iconst 1, 1) := by decide +kernel
theorem dL_law_876 : decode cL_law 876 = .ok (.iadd, 1) := by decide +kernel
theorem dL_law_877 : decode cL_law 877 = .ok (.iaload, 1) := by decide +kernel
theorem dL_law_878 : decode cL_law 878 = .ok (.aload_n 0, 1) := by decide +kernel
theorem dL_law_879 : decode cL_law 879 = .ok (.iload_n 3, 1) := by decide +kernel
theorem dL_law_880 : decode cL_law 880 = .ok (.iconst 2, 1) := by decide +kernel
theorem dL_law_881 : decode cL_law 881 = .ok (.iadd, 1) := by decide +kernel
theorem dL_law_882 : decode cL_law 882 = .ok (.iaload, 1) := by decide +kernel
theorem dL_law_883 : decode cL_law 883 = .ok (.aload_n 0, 1) := by decide +kernel
theorem dL_law_884 : decode cL_law 884 = .ok (.iload_n 3, 1) := by decide +kernel
theorem dL_law_885 : decode cL_law 885 = .ok (.iconst 3, 1) := by decide +kernel
theorem dL_law_886 : decode cL_law 886 = .ok (.iadd, 1) := by decide +kernel
theorem dL_law_887 : decode cL_law 887 = .ok (.iaload, 1) := by decide +kernel
theorem dL_law_888 : decode cL_law 888 = .ok (.aload_n 0, 1) := by decide +kernel
theorem dL_law_889 : decode cL_law 889 = .ok (.iload_n 3, 1) := by decide +kernel
theorem dL_law_890 : decode cL_law 890 = .ok (.iconst 4, 1) := by decide +kernel
theorem dL_law_891 : decode cL_law 891 = .ok (.iadd, 1) := by decide +kernel
theorem dL_law_892 : decode cL_law 892 = .ok (.iaload, 1) := by decide +kernel
theorem dL_law_893 : decode cL_law 893 = .ok (.invokevirtual 101, 3) := by decide +kernel
theorem dL_law_896 : decode cL_law 896 = .ok (.if_icmp .eq 108, 3) := by decide +kernel
theorem dL_law_899 : decode cL_law 899 = .ok (.iconst 0, 1) := by decide +kernel
theorem dL_law_900 : decode cL_law 900 = .ok (.ireturn, 1) := by decide +kernel
theorem dL_law_901 : decode cL_law 901 = .ok (.aload_n 1, 1) := by decide +kernel
theorem dL_law_902 : decode cL_law 902 = .ok (.aload_n 0, 1) := by decide +kernel
theorem dL_law_903 : decode cL_law 903 = .ok (.iload_n 3, 1) := by decide +kernel
theorem dL_law_904 : decode cL_law 904 = .ok (.iconst 1, 1) := by decide +kernel
theorem dL_law_905 : decode cL_law 905 = .ok (.iadd, 1) := by decide +kernel
theorem dL_law_906 : decode cL_law 906 = .ok (.iaload, 1) := by decide +kernel
theorem dL_law_907 : decode cL_law 907 = .ok (.invokevirtual 102, 3) := by decide +kernel
theorem dL_law_910 : decode cL_law 910 = .ok (.aload_n 2, 1) := by decide +kernel
theorem dL_law_911 : decode cL_law 911 = .ok (.aload_n 0, 1) := by decide +kernel
theorem dL_law_912 : decode cL_law 912 = .ok (.iload_n 3, 1) := by decide +kernel
theorem dL_law_913 : decode cL_law 913 = .ok (.iconst 1, 1) := by decide +kernel
theorem dL_law_914 : decode cL_law 914 = .ok (.iadd, 1) := by decide +kernel
theorem dL_law_915 : decode cL_law 915 = .ok (.iaload, 1) := by decide +kernel
theorem dL_law_916 : decode cL_law 916 = .ok (.invokevirtual 105, 3) := by decide +kernel
theorem dL_law_919 : decode cL_law 919 = .ok (.if_icmp .eq 85, 3) := by decide +kernel
theorem dL_law_922 : decode cL_law 922 = .ok (.iconst 0, 1) := by decide +kernel
theorem dL_law_923 : decode cL_law 923 = .ok (.ireturn, 1) := by decide +kernel
theorem dL_law_924 : decode cL_law 924 = .ok (.aload_n 1, 1) := by decide +kernel
theorem dL_law_925 : decode cL_law 925 = .ok (.aload_n 0, 1) := by decide +kernel
theorem dL_law_926 : decode cL_law 926 = .ok (.iload_n 3, 1) := by decide +kernel
theorem dL_law_927 : decode cL_law 927 = .ok (.iconst 1, 1) := by decide +kernel
theorem dL_law_928 : decode cL_law 928 = .ok (.iadd, 1) := by decide +kernel
theorem dL_law_929 : decode cL_law 929 = .ok (.iaload, 1) := by decide +kernel
theorem dL_law_930 : decode cL_law 930 = .ok (.aload_n 0, 1) := by decide +kernel
theorem dL_law_931 : decode cL_law 931 = .ok (.iload_n 3, 1) := by decide +kernel
theorem dL_law_932 : decode cL_law 932 = .ok (.iconst 2, 1) := by decide +kernel
theorem dL_law_933 : decode cL_law 933 = .ok (.iadd, 1) := by decide +kernel
theorem dL_law_934 : decode cL_law 934 = .ok (.iaload, 1) := by decide +kernel
theorem dL_law_935 : decode cL_law 935 = .ok (.aload_n 0, 1) := by decide +kernel
theorem dL_law_936 : decode cL_law 936 = .ok (.iload_n 3, 1) := by decide +kernel
theorem dL_law_937 : decode cL_law 937 = .ok (.iconst 3, 1) := by decide +kernel
theorem dL_law_938 : decode cL_law 938 = .ok (.iadd, 1) := by decide +kernel
theorem dL_law_939 : decode cL_law 939 = .ok (.iaload, 1) := by decide +kernel
theorem dL_law_940 : decode cL_law 940 = .ok (.invokevirtual 106, 3) := by decide +kernel
theorem dL_law_943 : decode cL_law 943 = .ok (.aload_n 2, 1) := by decide +kernel
theorem dL_law_944 : decode cL_law 944 = .ok (.aload_n 0, 1) := by decide +kernel
theorem dL_law_945 : decode cL_law 945 = .ok (.iload_n 3, 1) := by decide +kernel
theorem dL_law_946 : decode cL_law 946 = .ok (.iconst 1, 1) := by decide +kernel
theorem dL_law_947 : decode cL_law 947 = .ok (.iadd, 1) := by decide +kernel
theorem dL_law_948 : decode cL_law 948 = .ok (.iaload, 1) := by decide +kernel
theorem dL_law_949 : decode cL_law 949 = .ok (.aload_n 0, 1) := by decide +kernel
theorem dL_law_950 : decode cL_law 950 = .ok (.iload_n 3, 1) := by decide +kernel
theorem dL_law_951 : decode cL_law 951 = .ok (.iconst 2, 1) := by decide +kernel
theorem dL_law_952 : decode cL_law 952 = .ok (.iadd, 1) := by decide +kernel
theorem dL_law_953 : decode cL_law 953 = .ok (.iaload, 1) := by decide +kernel
theorem dL_law_954 : decode cL_law 954 = .ok (.aload_n 0, 1) := by decide +kernel
theorem dL_law_955 : decode cL_law 955 = .ok (.iload_n 3, 1) := by decide +kernel
theorem dL_law_956 : decode cL_law 956 = .ok (.iconst 3, 1) := by decide +kernel
theorem dL_law_957 : decode cL_law 957 = .ok (.iadd, 1) := by decide +kernel
theorem dL_law_958 : decode cL_law 958 = .ok (.iaload, 1) := by decide +kernel
theorem dL_law_959 : decode cL_law 959 = .ok (.invokevirtual 109, 3) := by decide +kernel
theorem dL_law_962 : decode cL_law 962 = .ok (.if_icmp .eq 42, 3) := by decide +kernel
theorem dL_law_965 : decode cL_law 965 = .ok (.iconst 0, 1) := by decide +kernel
theorem dL_law_966 : decode cL_law 966 = .ok (.ireturn, 1) := by decide +kernel
theorem dL_law_967 : decode cL_law 967 = .ok (.aload_n 1, 1) := by decide +kernel
theorem dL_law_968 : decode cL_law 968 = .ok (.aload_n 0, 1) := by decide +kernel
theorem dL_law_969 : decode cL_law 969 = .ok (.iload_n 3, 1) := by decide +kernel
theorem dL_law_970 : decode cL_law 970 = .ok (.iconst 1, 1) := by decide +kernel
theorem dL_law_971 : decode cL_law 971 = .ok (.iadd, 1) := by decide +kernel
theorem dL_law_972 : decode cL_law 972 = .ok (.iaload, 1) := by decide +kernel
theorem dL_law_973 : decode cL_law 973 = .ok (.invokevirtual 110, 3) := by decide +kernel
theorem dL_law_976 : decode cL_law 976 = .ok (.aload_n 2, 1) := by decide +kernel
theorem dL_law_977 : decode cL_law 977 = .ok (.aload_n 0, 1) := by decide +kernel
theorem dL_law_978 : decode cL_law 978 = .ok (.iload_n 3, 1) := by decide +kernel
theorem dL_law_979 : decode cL_law 979 = .ok (.iconst 1, 1) := by decide +kernel
theorem dL_law_980 : decode cL_law 980 = .ok (.iadd, 1) := by decide +kernel
theorem dL_law_981 : decode cL_law 981 = .ok (.iaload, 1) := by decide +kernel
theorem dL_law_982 : decode cL_law 982 = .ok (.invokevirtual 113, 3) := by decide +kernel
theorem dL_law_985 : decode cL_law 985 = .ok (.if_icmp .eq 19, 3) := by decide +kernel
theorem dL_law_988 : decode cL_law 988 = .ok (.iconst 0, 1) := by decide +kernel
theorem dL_law_989 : decode cL_law 989 = .ok (.ireturn, 1) := by decide +kernel
theorem dL_law_990 : decode cL_law 990 = .ok (.aload_n 1, 1) := by decide +kernel
theorem dL_law_991 : decode cL_law 991 = .ok (.invokevirtual 114, 3) := by decide +kernel
theorem dL_law_994 : decode cL_law 994 = .ok (.aload_n 2, 1) := by decide +kernel
theorem dL_law_995 : decode cL_law 995 = .ok (.invokevirtual 118, 3) := by decide +kernel
theorem dL_law_998 : decode cL_law 998 = .ok (.lcmp, 1) := by decide +kernel
theorem dL_law_999 : decode cL_law 999 = .ok (.ifCond .eq 5, 3) := by decide +kernel
theorem dL_law_1002 : decode cL_law 1002 = .ok (.iconst 0, 1) := by decide +kernel
theorem dL_law_1003 : decode cL_law 1003 = .ok (.ireturn, 1) := by decide +kernel
theorem dL_law_1004 : decode cL_law 1004 = .ok (.iinc 3 5, 3) := by decide +kernel
theorem dL_law_1007 : decode cL_law 1007 = .ok (.goto (-989), 3) := by decide +kernel
theorem dL_law_1010 : decode cL_law 1010 = .ok (.iconst 1, 1) := by decide +kernel
theorem dL_law_1011 : decode cL_law 1011 = .ok (.ireturn, 1) := by decide +kernel
end
section
/-! THE LAYER: a store of cells by address; a judgement G over it (own work) -/
abbrev Sto : Type := (Nat → Option va_E) × Nat
abbrev EnvD : Type := va_G × (Nat → ClassId)
abbrev cI (E : EnvD) (n : Nat) (f : Nat → Int32) : va_E := .inl (E.2 0, n, .inl f)
abbrev cZ (E : EnvD) (n : Nat) (f : Nat → Int32) : va_E := .inl (E.2 1, n, .inl f)
abbrev cQ (E : EnvD) (t n : Nat) (f : Nat → Option Nat) : va_E := .inl (E.2 t, n, .inr (.inr (.inr (.inr f))))
abbrev cO (ci : Nat) (fs : List Value) : va_E := .inr (ci, fs)
def tysE (E : EnvD) : List (ClassId × FieldType) := [(E.2 0, .int), (E.2 1, .boolean), (E.2 2, .object RX2), (E.2 3, .object RX1), (E.2 4, .object RX3), (E.2 5, .array .int)]
def nestL : List Cond := [.methodLinkNest RX5 36 yX0_init RX5, .methodLinkNest RX5 43 yX4_init RX5, .methodLinkNest RX4 11 yX2_init RX5, .methodLinkNest RX5 48 yX2_init RX5, .methodLinkNest RX1 29 yX5_hasBit RX5, .methodLinkNest RX4 27 yX5_isTown RX5, .methodLinkNest RX4 48 yX5_hasBit RX5]
def AOA (U : State) : Prop := (Cond.arrayOver (.array .int)).before #[] U = true
/-- what is known of the machine's tables, once and for all -/
def KK (E : EnvD) (U : State) : Prop :=
  va_K E.1 vwCl (tysE E) U ∧ (∀ w ∈ lw_tbl, goodWord w = true → w.before #[] U = true) ∧ (∀ (ci : Nat) (q : vw_C), vwCl[ci]? = some q → ∀ w ∈ u_ws q.1 q.2.1 q.2.2, w ∈ lw_tbl ∧ goodWord w = true) ∧
  (va_Nw (.methodLinkNest RX5 36 yX0_init RX5) U ∧ va_Nw (.methodLinkNest RX5 43 yX4_init RX5) U ∧ va_Nw (.methodLinkNest RX4 11 yX2_init RX5) U ∧ va_Nw (.methodLinkNest RX5 48 yX2_init RX5) U ∧ va_Nw (.methodLinkNest RX1 29 yX5_hasBit RX5) U ∧ va_Nw (.methodLinkNest RX4 27 yX5_isTown RX5) U ∧ va_Nw (.methodLinkNest RX4 48 yX5_hasBit RX5) U) ∧
  (va_AO RX2 U ∧ va_AO RX1 U ∧ va_AO RX3 U) ∧ AOA U
theorem aoa_moved {u U : State} (hvm : u.vm.Alike U.vm) (h : AOA u) : AOA U := by
  have h1 : (Cond.arrayOver (.array .int)).before #[] (u.setVm U.vm) = true := by rw [Cond.arrayOver_setVmC hvm]; exact h
  exact h1
theorem KK.warm {E : EnvD} {s U : State} (h : KK E s) (hW : s.WarmedH U.vm) : KK E U := by
  obtain ⟨h1, h2, h3, ⟨n1, n2, n3, n4, n5, n6, n7⟩, ⟨a1, a2, a3⟩, h6⟩ := h
  exact ⟨va_K.moved hW.alike h1, fun w hw hg => word_at hW (good_of_word hg) (h2 w hw hg), h3, ⟨n1.warmM hW, n2.warmM hW, n3.warmM hW, n4.warmM hW, n5.warmM hW, n6.warmM hW, n7.warmM hW⟩, ⟨a1.moved hW.alike, a2.moved hW.alike, a3.moved hW.alike⟩, aoa_moved hW.alike h6⟩
/-- a word of the tables, for any arguments -/
theorem KK.word {E : EnvD} {s : State} (h : KK E s) {w : Cond} (hw : w ∈ lw_tbl ∧ goodWord w = true) (args : Array Value) : w.before args s = true :=
  word_at (State.WarmedH.refl s) (good_of_word hw.2) (h.2.1 w hw.1 hw.2)
theorem KK.lay {E : EnvD} {s : State} (h : KK E s) {ci : Nat} {q : vw_C} (hq : vwCl[ci]? = some q) (args : Array Value) : ∀ w ∈ u_ws q.1 q.2.1 q.2.2, w.before args s = true :=
  fun w hw => h.word (h.2.2.1 ci q hq w hw) args
/-- the store describes the heap -/
def Wd (E : EnvD) (σ : Sto) (H : Heap) : Prop := (∀ a e, σ.1 a = some e → va_at E.1 vwCl (a, e) H) ∧ H.size = σ.2
def AD (σ : Sto) : Nat → Prop := fun q => σ.1 q ≠ none ∨ σ.2 ≤ q
def sup (σ : Sto) (a : Nat) (e : va_E) : Sto := (fun q => if q = a then some e else σ.1 q, σ.2)
def spush (σ : Sto) (e : va_E) : Sto := (fun q => if q = σ.2 then some e else σ.1 q, σ.2 + 1)
theorem sup_eq {σ : Sto} {a : Nat} {e : va_E} : (sup σ a e).1 a = some e := by simp [sup]
theorem sup_ne {σ : Sto} {a b : Nat} {e : va_E} (h : b ≠ a) : (sup σ a e).1 b = σ.1 b := by simp [sup, h]
theorem sup_2 {σ : Sto} {a : Nat} {e : va_E} : (sup σ a e).2 = σ.2 := rfl
theorem sup_k {σ : Sto} {a b : Nat} {e e0 e1 : va_E} (h1 : σ.1 b = some e1) (h0 : σ.1 a = some e0) (h : e0 ≠ e1) : (sup σ a e).1 b = some e1 := by
  have hne : b ≠ a := fun q => by
    subst q
    rw [h1] at h0
    exact h (Option.some.inj h0).symm
  rw [sup_ne hne, h1]
theorem sup_sup {σ : Sto} {a : Nat} {e e2 : va_E} : sup (sup σ a e) a e2 = sup σ a e2 := by
  unfold sup
  refine Prod.ext (funext fun q => ?_) rfl
  by_cases h : q = a <;> simp [h]
theorem sup_self {σ : Sto} {a : Nat} {e : va_E} (h : σ.1 a = some e) : sup σ a e = σ := by
  unfold sup
  refine Prod.ext (funext fun q => ?_) rfl
  by_cases hq : q = a
  · subst hq; simp [h]
  · simp [hq]
theorem sup_comm {σ : Sto} {a b : Nat} {e e2 : va_E} (h : a ≠ b) : sup (sup σ a e) b e2 = sup (sup σ b e2) a e := by
  unfold sup
  refine Prod.ext (funext fun q => ?_) rfl
  by_cases h1 : q = a <;> by_cases h2 : q = b
  · exact absurd (h1.symm.trans h2) h
  · simp [h1, h]
  · simp [h2]
    exact fun z => absurd z.symm h
  · simp [h1, h2]
theorem spush_new {σ : Sto} {e : va_E} : (spush σ e).1 σ.2 = some e := by simp [spush]
theorem spush_old {σ : Sto} {e : va_E} {b : Nat} (h : b ≠ σ.2) : (spush σ e).1 b = σ.1 b := by simp [spush, h]
theorem Wd.lt {E : EnvD} {σ : Sto} {H : Heap} (h : Wd E σ H) {a : Nat} {e : va_E} (ha : σ.1 a = some e) : a < σ.2 := by
  have := (h.1 a e ha).lt
  rw [h.2] at this
  exact this
theorem AD_sup {σ : Sto} {a : Nat} {e e0 : va_E} (h : σ.1 a = some e0) : ∀ q, AD (sup σ a e) q → AD σ q := by
  intro q hq
  rcases hq with hq | hq
  · by_cases hqa : q = a
    · left; rw [hqa, h]; exact fun z => by cases z
    · left; rwa [sup_ne hqa] at hq
  · exact Or.inr hq
theorem AD_push {σ : Sto} {e : va_E} : ∀ q, AD (spush σ e) q → AD σ q := by
  intro q hq
  rcases hq with hq | hq
  · by_cases hqa : q = σ.2
    · right; exact Nat.le_of_eq hqa.symm
    · left; rwa [spush_old hqa] at hq
  · right
    have : σ.2 + 1 ≤ q := hq
    omega
theorem Wd.put {E : EnvD} {σ : Sto} {H H1 : Heap} {a : Nat} {e0 e : va_E} (h : Wd E σ H) (ha : σ.1 a = some e0) (he : va_at E.1 vwCl (a, e) H1) (z : H1.size = H.size) (oq : ∀ q : Nat, q ≠ a → H1[q]? = H[q]?) : Wd E (sup σ a e) H1 := by
  refine ⟨fun b e' hb => ?_, by rw [z]; exact h.2⟩
  by_cases hba : b = a
  · subst hba
    rw [sup_eq] at hb
    cases hb
    exact he
  · rw [sup_ne hba] at hb
    exact (h.1 b e' hb).kept (oq b hba)
theorem Wd.push {E : EnvD} {σ : Sto} {H H1 : Heap} {e : va_E} (h : Wd E σ H) (he : va_at E.1 vwCl (H.size, e) H1) (z : H1.size = H.size + 1) (oq : ∀ q : Nat, q < H.size → H1[q]? = H[q]?) : Wd E (spush σ e) H1 := by
  refine ⟨fun b e' hb => ?_, by rw [z, h.2]; rfl⟩
  by_cases hba : b = σ.2
  · subst hba
    rw [spush_new] at hb
    cases hb
    rw [← h.2]
    exact he
  · rw [spush_old hba] at hb
    exact (h.1 b e' hb).kept (oq b ((h.1 b e' hb).lt))
/-! locals as a list of values by place -/
def lk : List (Option Value) → Nat → Option Value
  | [], _ => none
  | x :: _, 0 => x
  | _ :: t, n + 1 => lk t n
def vset : List (Option Value) → Nat → Option Value → List (Option Value)
  | [], _, _ => []
  | _ :: t, 0, v => v :: t
  | x :: t, n + 1, v => x :: vset t n v
def nol : List (Option Value) → Nat → Bool
  | _, 0 => true
  | vs, n + 1 => match lk vs n with
    | some v => v.category == 1
    | none => true
theorem lk_vset_eq : ∀ (vs : List (Option Value)) (i : Nat) (v : Option Value), i < vs.length → lk (vset vs i v) i = v
  | [], i, v, h => absurd h (Nat.not_lt_zero i)
  | _ :: t, 0, v, h => rfl
  | _ :: t, i + 1, v, h => lk_vset_eq t i v (Nat.lt_of_succ_lt_succ h)
theorem lk_vset_ne : ∀ (vs : List (Option Value)) (i j : Nat) (v : Option Value), j ≠ i → lk (vset vs i v) j = lk vs j
  | [], i, j, v, h => rfl
  | _ :: t, 0, 0, v, h => absurd rfl h
  | _ :: t, 0, j + 1, v, h => rfl
  | _ :: t, i + 1, 0, v, h => rfl
  | _ :: t, i + 1, j + 1, v, h => lk_vset_ne t i j v (fun e => h (by rw [e]))
theorem lk_lt : ∀ (vs : List (Option Value)) (i : Nat) (v : Value), lk vs i = some v → i < vs.length
  | [], i, v, h => by cases h
  | _ :: t, 0, v, h => Nat.succ_pos _
  | _ :: t, i + 1, v, h => Nat.succ_lt_succ (lk_lt t i v h)
def LV (ls : Array Slot) (nL : Nat) (vs : List (Option Value)) : Prop := ls.size = nL ∧ lv_wf ls ∧ vs.length = nL ∧ ∀ i v, lk vs i = some v → ls[i]? = some (.val v)
/-- the listed pairs of a list by place -/
def lvl (vs : List (Option Value)) : List (Nat × Value) := (List.range vs.length).filterMap (fun i => (lk vs i).map (fun v => (i, v)))
theorem mem_lvl {vs : List (Option Value)} {q : Nat × Value} : q ∈ lvl vs ↔ lk vs q.1 = some q.2 := by
  unfold lvl
  rw [List.mem_filterMap]
  constructor
  · rintro ⟨i, hi, h⟩
    obtain ⟨v, hv, rfl⟩ := Option.map_eq_some_iff.mp h
    exact hv
  · intro h
    exact ⟨q.1, List.mem_range.mpr (lk_lt _ _ _ h), by rw [h]; rfl⟩
theorem LV.has {ls : Array Slot} {nL : Nat} {vs : List (Option Value)} (h : LV ls nL vs) : lv_has ls nL (lvl vs) :=
  ⟨h.1, h.2.1, fun q hq => h.2.2.2 q.1 q.2 (mem_lvl.mp hq)⟩
theorem LV.at {ls : Array Slot} {nL : Nat} {vs : List (Option Value)} (h : LV ls nL vs) {i : Nat} {v : Value} (hv : lk vs i = some v) : ls[i]? = some (.val v) := h.2.2.2 i v hv
theorem vset_length : ∀ (vs : List (Option Value)) (i : Nat) (v : Option Value), (vset vs i v).length = vs.length
  | [], i, v => rfl
  | _ :: t, 0, v => rfl
  | _ :: t, i + 1, v => congrArg (· + 1) (vset_length t i v)
/-- a value of one slot is put -/
theorem LV.put1 {ls ls' : Array Slot} {nL i : Nat} {vs : List (Option Value)} {v : Value} (h : LV ls nL vs) (hi : i < nL) (hn : nol vs i = true)
    (h' : lv_has ls' nL ((i, v) :: (lvl vs).filter (fun q => !(q.1 == i) && !(q.1 + 1 == i && q.2.category == 2)))) : LV ls' nL (vset vs i (some v)) := by
  refine ⟨h'.1, h'.2.1, (vset_length vs i _).trans h.2.2.1, fun j w hj => ?_⟩
  by_cases hji : j = i
  · subst hji
    rw [lk_vset_eq vs j _ (by rw [h.2.2.1]; exact hi)] at hj
    cases hj
    exact h'.2.2 _ List.mem_cons_self
  · rw [lk_vset_ne vs i j _ hji] at hj
    refine h'.2.2 (j, w) (List.mem_cons_of_mem _ (List.mem_filter.mpr ⟨mem_lvl.mpr hj, ?_⟩))
    by_cases hj1 : j + 1 = i
    · subst hj1
      have hc : (w.category == 1) = true := by
        have := hn
        simp only [nol, hj] at this
        exact this
      have hc1 : w.category = 1 := by simpa using hc
      simp [hc1]
    · simp [hji, hj1]
/-- a value of two slots is put -/
theorem LV.put2 {ls ls' : Array Slot} {nL i : Nat} {vs : List (Option Value)} {v : Value} (h : LV ls nL vs) (hi : i + 1 < nL) (hn : nol vs i = true)
    (h' : lv_has ls' nL ((i, v) :: (lvl vs).filter (fun q => !(q.1 == i) && (!(q.1 == i + 1) && !(q.1 + 1 == i && q.2.category == 2))))) : LV ls' nL (vset (vset vs i (some v)) (i + 1) none) := by
  refine ⟨h'.1, h'.2.1, (vset_length _ _ _).trans ((vset_length vs i _).trans h.2.2.1), fun j w hj => ?_⟩
  by_cases hj2 : j = i + 1
  · subst hj2
    rw [lk_vset_eq _ (i + 1) _ (by rw [vset_length, h.2.2.1]; exact hi)] at hj
    cases hj
  · rw [lk_vset_ne _ (i + 1) j _ hj2] at hj
    by_cases hji : j = i
    · subst hji
      rw [lk_vset_eq vs j _ (by rw [h.2.2.1]; omega)] at hj
      cases hj
      exact h'.2.2 _ List.mem_cons_self
    · rw [lk_vset_ne vs i j _ hji] at hj
      refine h'.2.2 (j, w) (List.mem_cons_of_mem _ (List.mem_filter.mpr ⟨mem_lvl.mpr hj, ?_⟩))
      by_cases hj1 : j + 1 = i
      · subst hj1
        have hc : (w.category == 1) = true := by
          have := hn
          simp only [nol, hj] at this
          exact this
        have hc1 : w.category = 1 := by simpa using hc
        simp [hc1]
        omega
      · simp [hji, hj1, hj2]
/-- fewer places are known -/
def sub1 : List (Option Value) → List (Option Value) → Prop
  | [], [] => True
  | x :: s, y :: t => (y = none ∨ y = x) ∧ sub1 s t
  | _, _ => False
theorem sub1_lk : ∀ (vs vt : List (Option Value)), sub1 vs vt → ∀ i v, lk vt i = some v → lk vs i = some v
  | [], [], _, i, v, h => h
  | [], _ :: _, h0, i, v, h => h0.elim
  | _ :: _, [], h0, i, v, h => h0.elim
  | x :: s, y :: t, h0, 0, v, h => by
    rcases h0.1 with e | e
    · rw [e] at h; cases h
    · rw [e] at h; exact h
  | x :: s, y :: t, h0, i + 1, v, h => sub1_lk s t h0.2 i v h
theorem sub1_len : ∀ (vs vt : List (Option Value)), sub1 vs vt → vt.length = vs.length
  | [], [], _ => rfl
  | [], _ :: _, h0 => h0.elim
  | _ :: _, [], h0 => h0.elim
  | x :: s, y :: t, h0 => congrArg (· + 1) (sub1_len s t h0.2)
theorem LV.fewer {ls : Array Slot} {nL : Nat} {vs vt : List (Option Value)} (h : LV ls nL vs) (hs : sub1 vs vt) : LV ls nL vt :=
  ⟨h.1, h.2.1, (sub1_len vs vt hs).trans h.2.2.1, fun i v hv => h.2.2.2 i v (sub1_lk vs vt hs i v hv)⟩
/-- the locals at a method's entry -/
def entl : List Value → List (Option Value)
  | [] => []
  | v :: t => if v.category = 2 then some v :: none :: entl t else some v :: entl t
theorem entl_args : ∀ (as : List Value) (k i : Nat) (v : Value), lk (entl as) i = some v → (k + i, v) ∈ lv_args k as
  | [], k, i, v, h => by cases h
  | a :: t, k, i, v, h => by
    unfold entl at h
    unfold lv_args
    by_cases hc : a.category = 2
    · rw [if_pos hc] at h ⊢
      match i, h with
      | 0, h => cases h; exact List.mem_cons_self
      | 1, h => cases h
      | i + 2, h =>
        have := entl_args t (k + 2) i v h
        rw [show k + 2 + i = k + (i + 2) by omega] at this
        exact List.mem_cons_of_mem _ this
    · rw [if_neg hc] at h ⊢
      match i, h with
      | 0, h => cases h; exact List.mem_cons_self
      | i + 1, h =>
        have := entl_args t (k + 1) i v h
        rw [show k + 1 + i = k + (i + 1) by omega] at this
        exact List.mem_cons_of_mem _ this
theorem lk_app_rep : ∀ (as : List (Option Value)) (n i : Nat) (v : Value), lk (as ++ List.replicate n none) i = some v → lk as i = some v
  | [], n, i, v, h => by
    exfalso
    rw [List.nil_append] at h
    induction n generalizing i with
    | zero => cases h
    | succ n ih =>
      rw [List.replicate_succ] at h
      cases i with
      | zero => cases h
      | succ i => exact ih i h
  | _ :: t, n, 0, v, h => h
  | _ :: t, n, i + 1, v, h => lk_app_rep t n i v h
theorem entl_len : ∀ (as : List Value), (entl as).length = (lg_sl as).length
  | [] => rfl
  | a :: t => by
    unfold entl lg_sl
    rw [List.flatMap_cons]
    have := entl_len t
    unfold lg_sl at this
    by_cases hc : a.category = 2
    · rw [if_pos hc, if_pos hc]; simp [this]
    · rw [if_neg hc, if_neg hc]; simp [this]
end
section
/-! THE JUDGEMENT G: the machine at pc with locals vs, stack st, and the store σ (own work) -/
abbrev CX : Type := Program × Launch × Env × Room × State × MethodId × Array Value × List Frame × Method × Code
def xP (X : CX) : Program := X.1
def xL (X : CX) : Launch := X.2.1
def xE (X : CX) : Env := X.2.2.1
def xR (X : CX) : Room := X.2.2.2.1
def xS (X : CX) : State := X.2.2.2.2.1
def xM (X : CX) : MethodId := X.2.2.2.2.2.1
def xA (X : CX) : Array Value := X.2.2.2.2.2.2.1
def xB (X : CX) : List Frame := X.2.2.2.2.2.2.2.1
def xH (X : CX) : Method := X.2.2.2.2.2.2.2.2.1
def xC (X : CX) : Code := X.2.2.2.2.2.2.2.2.2
def XW (X : CX) (H : Heap) (locs : List Loc) (k n : Nat) (Q : State → Prop) (g : JFrame) : Prop := W (xP X) (xL X) (xE X) (xR X) (xS X) (xM X) (xA X) (xB X) (xH X) (xC X) H locs k n Q g
def G (X : CX) (E : EnvD) (nL : Nat) (A : Nat → Prop) (Q : State → Prop) (k n : Nat) (pc : Nat) (vs : List (Option Value)) (st : List Value) (σ : Sto) : Prop :=
  ∀ (H : Heap) (locs : List Loc) (ls : Array Slot), Wd E σ H → (∀ q, AD σ q → A q) → va_S A (xS X).heap H locs → LV ls nL vs → XW X H locs k n Q (F0 (xM X) pc ls st)
def OK (X : CX) (E : EnvD) (cc : ByteArray) (own : String) (nL : Nat) (R : Room) : Prop :=
  (xP X).tables.exec = Jvm.exec ∧ (xC X).code = cc ∧ (xC X).maxLocals = nL ∧ (xS X).vm.findClass own = some (xM X).cls ∧ KK E (xS X) ∧ (xH X).locks = false ∧ xR X = R
def lwI (w : Cond) : Prop := w ∈ lw_tbl ∧ goodWord w = true
section GR
variable {X : CX} {E : EnvD} {cc : ByteArray} {own : String} {nL : Nat} {R : Room} {A : Nat → Prop} {Q : State → Prop} {k n pc : Nat} {vs vs' : List (Option Value)} {st : List Value} {σ : Sto}
theorem OK.word (h : OK X E cc own nL R) {w : Cond} (hw : lwI w) : w.before (xA X) (xS X) = true := h.2.2.2.2.1.word hw (xA X)
theorem g_eq {st' : List Value} {σ' : Sto} (e : st' = st) (e2 : σ' = σ) (kk : G X E nL A Q k n pc vs st σ) : G X E nL A Q k n pc vs st' σ' := by
  subst e; subst e2; exact kk
theorem g_sto {σ' : Sto} (e2 : σ' = σ) (kk : G X E nL A Q k n pc vs st σ) : G X E nL A Q k n pc vs st σ' := by
  subst e2; exact kk
theorem g_top {x y : Int32} (e : x = y) (kk : G X E nL A Q k n pc vs (.int y :: st) σ) : G X E nL A Q k n pc vs (.int x :: st) σ := by
  subst e; exact kk
theorem g_topl {x y : Int64} (e : x = y) (kk : G X E nL A Q k n pc vs (.long y :: st) σ) : G X E nL A Q k n pc vs (.long x :: st) σ := by
  subst e; exact kk
theorem g_nm {x : Int32} (kk : ∀ y, y = x → G X E nL A Q k n pc vs (.int y :: st) σ) : G X E nL A Q k n pc vs (.int x :: st) σ := kk x rfl
theorem g_nml {x : Int64} (kk : ∀ y, y = x → G X E nL A Q k n pc vs (.long y :: st) σ) : G X E nL A Q k n pc vs (.long x :: st) σ := kk x rfl
theorem g_few (hs : sub1 vs vs') (kk : G X E nL A Q k n pc vs' st σ) : G X E nL A Q k n pc vs st σ :=
  fun H locs ls hW hA hS hL => kk H locs ls hW hA hS (hL.fewer hs)
theorem g_widen {k' n' : Nat} (h1 : k ≤ k') (h2 : n ≤ n') (kk : G X E nL A Q k' n' pc vs st σ) : G X E nL A Q k n pc vs st σ :=
  fun H locs ls hW hA hS hL => W.widen h1 h2 (kk H locs ls hW hA hS hL)
-- constants
theorem g_iconst (h : OK X E cc own nL R) {i : Int} (v : Int32) (hd : decode cc pc = .ok (.iconst i, 1)) (hv : Int32.ofInt i = v) (kk : G X E nL A Q k n (pc + 1) vs (.int v :: st) σ) : G X E nL A Q k n pc vs st σ :=
  fun H locs ls hW hA hS hL => lv_iconst h.1 h.2.1 hd hv (kk H locs ls hW hA hS hL)
theorem g_bipush (h : OK X E cc own nL R) {i : Int} (v : Int32) (hd : decode cc pc = .ok (.bipush i, 2)) (hv : (Int8.ofInt i).toInt32 = v) (kk : G X E nL A Q k n (pc + 2) vs (.int v :: st) σ) : G X E nL A Q k n pc vs st σ :=
  fun H locs ls hW hA hS hL => lv_bipush h.1 h.2.1 hd hv (kk H locs ls hW hA hS hL)
theorem g_sipush (h : OK X E cc own nL R) {i : Int} (v : Int32) (hd : decode cc pc = .ok (.sipush i, 3)) (hv : (Int16.ofInt i).toInt32 = v) (kk : G X E nL A Q k n (pc + 3) vs (.int v :: st) σ) : G X E nL A Q k n pc vs st σ :=
  fun H locs ls hW hA hS hL => lv_sipush h.1 h.2.1 hd hv (kk H locs ls hW hA hS hL)
theorem g_lconst (h : OK X E cc own nL R) {i : Fin 2} (v : Int64) (hd : decode cc pc = .ok (.lconst i, 1)) (hv : Int64.ofNat (i : Nat) = v) (kk : G X E nL A Q k n (pc + 1) vs (.long v :: st) σ) : G X E nL A Q k n pc vs st σ :=
  fun H locs ls hW hA hS hL => lv_lconst h.1 h.2.1 hd hv (kk H locs ls hW hA hS hL)
theorem g_ldc (h : OK X E cc own nL R) {i : Nat} (v : Int32) (hw : lwI (.constant own i v)) (hd : decode cc pc = .ok (.ldc i, 2)) (kk : G X E nL A Q k n (pc + 2) vs (.int v :: st) σ) : G X E nL A Q k n pc vs st σ :=
  fun H locs ls hW hA hS hL => lv_ldc h.1 h.2.1 h.2.2.2.1 (h.word hw) hd (kk H locs ls hW hA hS hL)
theorem g_ldcw (h : OK X E cc own nL R) {i : Nat} (v : Int32) (hw : lwI (.constant own i v)) (hd : decode cc pc = .ok (.ldc_w i, 3)) (kk : G X E nL A Q k n (pc + 3) vs (.int v :: st) σ) : G X E nL A Q k n pc vs st σ :=
  fun H locs ls hW hA hS hL => lv_ldcw h.1 h.2.1 h.2.2.2.1 (h.word hw) hd (kk H locs ls hW hA hS hL)
theorem g_ldc2 (h : OK X E cc own nL R) {i : Nat} (v : Int64) (hw : lwI (.constantLong own i v)) (hd : decode cc pc = .ok (.ldc2_w i, 3)) (kk : G X E nL A Q k n (pc + 3) vs (.long v :: st) σ) : G X E nL A Q k n pc vs st σ :=
  fun H locs ls hW hA hS hL => lv_ldc2 h.1 h.2.1 h.2.2.2.1 (h.word hw) hd (kk H locs ls hW hA hS hL)
theorem g_null (h : OK X E cc own nL R) (hd : decode cc pc = .ok (.aconst_null, 1)) (kk : G X E nL A Q k n (pc + 1) vs (.null :: st) σ) : G X E nL A Q k n pc vs st σ :=
  fun H locs ls hW hA hS hL => lv_null h.1 h.2.1 hd (kk H locs ls hW hA hS hL)
-- locals
theorem g_iload_n (h : OK X E cc own nL R) {j : Fin 4} (i : Nat) {x : Int32} (hd : decode cc pc = .ok (.iload_n j, 1)) (hi : (j : Nat) = i) (hv : lk vs i = some (.int x)) (kk : G X E nL A Q k n (pc + 1) vs (.int x :: st) σ) : G X E nL A Q k n pc vs st σ :=
  fun H locs ls hW hA hS hL => lv_iload_n h.1 h.2.1 hd hi (hL.at hv) (kk H locs ls hW hA hS hL)
theorem g_iload (h : OK X E cc own nL R) {i : Nat} {x : Int32} (hd : decode cc pc = .ok (.iload i, 2)) (hv : lk vs i = some (.int x)) (kk : G X E nL A Q k n (pc + 2) vs (.int x :: st) σ) : G X E nL A Q k n pc vs st σ :=
  fun H locs ls hW hA hS hL => lv_iload h.1 h.2.1 hd (hL.at hv) (kk H locs ls hW hA hS hL)
theorem g_lload_n (h : OK X E cc own nL R) {j : Fin 4} (i : Nat) {x : Int64} (hd : decode cc pc = .ok (.lload_n j, 1)) (hi : (j : Nat) = i) (hv : lk vs i = some (.long x)) (kk : G X E nL A Q k n (pc + 1) vs (.long x :: st) σ) : G X E nL A Q k n pc vs st σ :=
  fun H locs ls hW hA hS hL => lv_lload_n h.1 h.2.1 hd hi (hL.at hv) (kk H locs ls hW hA hS hL)
theorem g_lload (h : OK X E cc own nL R) {i : Nat} {x : Int64} (hd : decode cc pc = .ok (.lload i, 2)) (hv : lk vs i = some (.long x)) (kk : G X E nL A Q k n (pc + 2) vs (.long x :: st) σ) : G X E nL A Q k n pc vs st σ :=
  fun H locs ls hW hA hS hL => lv_lload h.1 h.2.1 hd (hL.at hv) (kk H locs ls hW hA hS hL)
theorem g_aload_n (h : OK X E cc own nL R) {j : Fin 4} (i : Nat) {x : Nat} (hd : decode cc pc = .ok (.aload_n j, 1)) (hi : (j : Nat) = i) (hv : lk vs i = some (.ref x)) (kk : G X E nL A Q k n (pc + 1) vs (.ref x :: st) σ) : G X E nL A Q k n pc vs st σ :=
  fun H locs ls hW hA hS hL => lv_aload_n h.1 h.2.1 hd hi (hL.at hv) (kk H locs ls hW hA hS hL)
theorem g_aload (h : OK X E cc own nL R) {i : Nat} {x : Nat} (hd : decode cc pc = .ok (.aload i, 2)) (hv : lk vs i = some (.ref x)) (kk : G X E nL A Q k n (pc + 2) vs (.ref x :: st) σ) : G X E nL A Q k n pc vs st σ :=
  fun H locs ls hW hA hS hL => lv_aload h.1 h.2.1 hd (hL.at hv) (kk H locs ls hW hA hS hL)
theorem g_aload_nN (h : OK X E cc own nL R) {j : Fin 4} (i : Nat) (hd : decode cc pc = .ok (.aload_n j, 1)) (hi : (j : Nat) = i) (hv : lk vs i = some .null) (kk : G X E nL A Q k n (pc + 1) vs (.null :: st) σ) : G X E nL A Q k n pc vs st σ :=
  fun H locs ls hW hA hS hL => lv_aload_nN h.1 h.2.1 hd hi (hL.at hv) (kk H locs ls hW hA hS hL)
theorem g_aloadN (h : OK X E cc own nL R) {i : Nat} (hd : decode cc pc = .ok (.aload i, 2)) (hv : lk vs i = some .null) (kk : G X E nL A Q k n (pc + 2) vs (.null :: st) σ) : G X E nL A Q k n pc vs st σ :=
  fun H locs ls hW hA hS hL => lv_aloadN h.1 h.2.1 hd (hL.at hv) (kk H locs ls hW hA hS hL)
theorem g_istore_n (h : OK X E cc own nL R) {j : Fin 4} (i : Nat) {x : Int32} (hd : decode cc pc = .ok (.istore_n j, 1)) (hi : (j : Nat) = i) (hn : i < nL) (hno : nol vs i = true) (hvs : vset vs i (some (.int x)) = vs') (kk : G X E nL A Q k n (pc + 1) vs' st σ) : G X E nL A Q k n pc vs (.int x :: st) σ :=
  fun H locs ls hW hA hS hL => lv_istore_n h.1 h.2.1 hd hi hL.has hn rfl (fun ls' h' => kk H locs ls' hW hA hS (hvs ▸ hL.put1 hn hno h'))
theorem g_istore (h : OK X E cc own nL R) {i : Nat} {x : Int32} (hd : decode cc pc = .ok (.istore i, 2)) (hn : i < nL) (hno : nol vs i = true) (hvs : vset vs i (some (.int x)) = vs') (kk : G X E nL A Q k n (pc + 2) vs' st σ) : G X E nL A Q k n pc vs (.int x :: st) σ :=
  fun H locs ls hW hA hS hL => lv_istore h.1 h.2.1 hd hL.has hn rfl (fun ls' h' => kk H locs ls' hW hA hS (hvs ▸ hL.put1 hn hno h'))
theorem g_astore_n (h : OK X E cc own nL R) {j : Fin 4} (i : Nat) {x : Nat} (hd : decode cc pc = .ok (.astore_n j, 1)) (hi : (j : Nat) = i) (hn : i < nL) (hno : nol vs i = true) (hvs : vset vs i (some (.ref x)) = vs') (kk : G X E nL A Q k n (pc + 1) vs' st σ) : G X E nL A Q k n pc vs (.ref x :: st) σ :=
  fun H locs ls hW hA hS hL => lv_astore_n h.1 h.2.1 hd hi hL.has hn rfl (fun ls' h' => kk H locs ls' hW hA hS (hvs ▸ hL.put1 hn hno h'))
theorem g_astore (h : OK X E cc own nL R) {i : Nat} {x : Nat} (hd : decode cc pc = .ok (.astore i, 2)) (hn : i < nL) (hno : nol vs i = true) (hvs : vset vs i (some (.ref x)) = vs') (kk : G X E nL A Q k n (pc + 2) vs' st σ) : G X E nL A Q k n pc vs (.ref x :: st) σ :=
  fun H locs ls hW hA hS hL => lv_astore h.1 h.2.1 hd hL.has hn rfl (fun ls' h' => kk H locs ls' hW hA hS (hvs ▸ hL.put1 hn hno h'))
theorem g_astore_nN (h : OK X E cc own nL R) {j : Fin 4} (i : Nat) (hd : decode cc pc = .ok (.astore_n j, 1)) (hi : (j : Nat) = i) (hn : i < nL) (hno : nol vs i = true) (hvs : vset vs i (some .null) = vs') (kk : G X E nL A Q k n (pc + 1) vs' st σ) : G X E nL A Q k n pc vs (.null :: st) σ :=
  fun H locs ls hW hA hS hL => lv_astore_nN h.1 h.2.1 hd hi hL.has hn rfl (fun ls' h' => kk H locs ls' hW hA hS (hvs ▸ hL.put1 hn hno h'))
theorem g_astoreN (h : OK X E cc own nL R) {i : Nat} (hd : decode cc pc = .ok (.astore i, 2)) (hn : i < nL) (hno : nol vs i = true) (hvs : vset vs i (some .null) = vs') (kk : G X E nL A Q k n (pc + 2) vs' st σ) : G X E nL A Q k n pc vs (.null :: st) σ :=
  fun H locs ls hW hA hS hL => lv_astoreN h.1 h.2.1 hd hL.has hn rfl (fun ls' h' => kk H locs ls' hW hA hS (hvs ▸ hL.put1 hn hno h'))
theorem g_lstore_n (h : OK X E cc own nL R) {j : Fin 4} (i : Nat) {x : Int64} (hd : decode cc pc = .ok (.lstore_n j, 1)) (hi : (j : Nat) = i) (hn : i + 1 < nL) (hno : nol vs i = true) (hvs : vset (vset vs i (some (.long x))) (i + 1) none = vs') (kk : G X E nL A Q k n (pc + 1) vs' st σ) : G X E nL A Q k n pc vs (.long x :: st) σ :=
  fun H locs ls hW hA hS hL => lv_lstore_n h.1 h.2.1 hd hi hL.has hn rfl (fun ls' h' => kk H locs ls' hW hA hS (hvs ▸ hL.put2 hn hno h'))
theorem g_lstore (h : OK X E cc own nL R) {i : Nat} {x : Int64} (hd : decode cc pc = .ok (.lstore i, 2)) (hn : i + 1 < nL) (hno : nol vs i = true) (hvs : vset (vset vs i (some (.long x))) (i + 1) none = vs') (kk : G X E nL A Q k n (pc + 2) vs' st σ) : G X E nL A Q k n pc vs (.long x :: st) σ :=
  fun H locs ls hW hA hS hL => lv_lstore h.1 h.2.1 hd hL.has hn rfl (fun ls' h' => kk H locs ls' hW hA hS (hvs ▸ hL.put2 hn hno h'))
theorem g_iinc (h : OK X E cc own nL R) {i : Nat} {d : Int} {x : Int32} (v : Int32) (hd : decode cc pc = .ok (.iinc i d, 3)) (hx : lk vs i = some (.int x)) (hv : x + Int32.ofInt d = v) (hn : i < nL) (hno : nol vs i = true) (hvs : vset vs i (some (.int v)) = vs') (kk : G X E nL A Q k n (pc + 3) vs' st σ) : G X E nL A Q k n pc vs st σ := by
  intro H locs ls hW hA hS hL
  obtain ⟨j, hj⟩ := List.getElem?_of_mem ((mem_lvl (vs := vs) (q := (i, .int x))).mpr hx)
  exact lv_iinc h.1 h.2.1 hd hL.has hj hv hn rfl (fun ls' h' => kk H locs ls' hW hA hS (hvs ▸ hL.put1 hn hno h'))
-- arithmetic
theorem g_iadd (h : OK X E cc own nL R) {x y : Int32} (hd : decode cc pc = .ok (.iadd, 1)) (kk : G X E nL A Q k n (pc + 1) vs (.int (x + y) :: st) σ) : G X E nL A Q k n pc vs (.int y :: .int x :: st) σ :=
  fun H locs ls hW hA hS hL => lv_iadd h.1 h.2.1 hd (kk H locs ls hW hA hS hL)
theorem g_iaddN (h : OK X E cc own nL R) {x y : Nat} (hd : decode cc pc = .ok (.iadd, 1)) (kk : G X E nL A Q k n (pc + 1) vs (.int (nI (x + y)) :: st) σ) : G X E nL A Q k n pc vs (.int (nI y) :: .int (nI x) :: st) σ :=
  g_iadd h hd (g_top (nI_add x y) kk)
theorem g_isub (h : OK X E cc own nL R) {x y : Int32} (hd : decode cc pc = .ok (.isub, 1)) (kk : G X E nL A Q k n (pc + 1) vs (.int (x - y) :: st) σ) : G X E nL A Q k n pc vs (.int y :: .int x :: st) σ :=
  fun H locs ls hW hA hS hL => lv_isub h.1 h.2.1 hd (kk H locs ls hW hA hS hL)
theorem g_imul (h : OK X E cc own nL R) {x y : Int32} (hd : decode cc pc = .ok (.imul, 1)) (kk : G X E nL A Q k n (pc + 1) vs (.int (x * y) :: st) σ) : G X E nL A Q k n pc vs (.int y :: .int x :: st) σ :=
  fun H locs ls hW hA hS hL => lv_imul h.1 h.2.1 hd (kk H locs ls hW hA hS hL)
theorem nI_mulN (a b : Nat) : nI a * nI b = nI (a * b) := by
  unfold nI
  exact (Int32.ofNat_mul a b).symm
theorem nI_subN {a b : Nat} (h : b ≤ a) : nI a - nI b = nI (a - b) := by
  have e := nI_add (a - b) b
  rw [Nat.sub_add_cancel h] at e
  rw [← e, Int32.add_sub_cancel]
theorem g_isubN (h : OK X E cc own nL R) {x y : Nat} (hd : decode cc pc = .ok (.isub, 1)) (hxy : y ≤ x) (kk : G X E nL A Q k n (pc + 1) vs (.int (nI (x - y)) :: st) σ) : G X E nL A Q k n pc vs (.int (nI y) :: .int (nI x) :: st) σ :=
  g_isub h hd (g_top (nI_subN hxy) kk)
theorem g_imulN (h : OK X E cc own nL R) {x y : Nat} (hd : decode cc pc = .ok (.imul, 1)) (kk : G X E nL A Q k n (pc + 1) vs (.int (nI (x * y)) :: st) σ) : G X E nL A Q k n pc vs (.int (nI y) :: .int (nI x) :: st) σ :=
  g_imul h hd (g_top (nI_mulN x y) kk)
theorem g_iand (h : OK X E cc own nL R) {x y : Int32} (hd : decode cc pc = .ok (.iand, 1)) (kk : G X E nL A Q k n (pc + 1) vs (.int (x &&& y) :: st) σ) : G X E nL A Q k n pc vs (.int y :: .int x :: st) σ :=
  fun H locs ls hW hA hS hL => lv_iand h.1 h.2.1 hd (kk H locs ls hW hA hS hL)
theorem g_ior (h : OK X E cc own nL R) {x y : Int32} (hd : decode cc pc = .ok (.ior, 1)) (kk : G X E nL A Q k n (pc + 1) vs (.int (x ||| y) :: st) σ) : G X E nL A Q k n pc vs (.int y :: .int x :: st) σ :=
  fun H locs ls hW hA hS hL => lv_ior h.1 h.2.1 hd (kk H locs ls hW hA hS hL)
theorem g_ixor (h : OK X E cc own nL R) {x y : Int32} (hd : decode cc pc = .ok (.ixor, 1)) (kk : G X E nL A Q k n (pc + 1) vs (.int (x ^^^ y) :: st) σ) : G X E nL A Q k n pc vs (.int y :: .int x :: st) σ :=
  fun H locs ls hW hA hS hL => lv_ixor h.1 h.2.1 hd (kk H locs ls hW hA hS hL)
theorem g_ishl (h : OK X E cc own nL R) {x y : Int32} (hd : decode cc pc = .ok (.ishl, 1)) (kk : G X E nL A Q k n (pc + 1) vs (.int (x <<< (y &&& 31)) :: st) σ) : G X E nL A Q k n pc vs (.int y :: .int x :: st) σ :=
  fun H locs ls hW hA hS hL => lv_ishl h.1 h.2.1 hd (kk H locs ls hW hA hS hL)
theorem g_ishr (h : OK X E cc own nL R) {x y : Int32} (hd : decode cc pc = .ok (.ishr, 1)) (kk : G X E nL A Q k n (pc + 1) vs (.int (x >>> (y &&& 31)) :: st) σ) : G X E nL A Q k n pc vs (.int y :: .int x :: st) σ :=
  fun H locs ls hW hA hS hL => lv_ishr h.1 h.2.1 hd (kk H locs ls hW hA hS hL)
theorem g_iushr (h : OK X E cc own nL R) {x y : Int32} (hd : decode cc pc = .ok (.iushr, 1)) (kk : G X E nL A Q k n (pc + 1) vs (.int ((x.toUInt32 >>> (y.toUInt32 &&& Int32.toUInt32 31)).toInt32) :: st) σ) : G X E nL A Q k n pc vs (.int y :: .int x :: st) σ :=
  fun H locs ls hW hA hS hL => lv_iushr h.1 h.2.1 hd rfl (kk H locs ls hW hA hS hL)
theorem g_ladd (h : OK X E cc own nL R) {x y : Int64} (hd : decode cc pc = .ok (.ladd, 1)) (kk : G X E nL A Q k n (pc + 1) vs (.long (x + y) :: st) σ) : G X E nL A Q k n pc vs (.long y :: .long x :: st) σ :=
  fun H locs ls hW hA hS hL => lv_ladd h.1 h.2.1 hd (kk H locs ls hW hA hS hL)
theorem g_lmul (h : OK X E cc own nL R) {x y : Int64} (hd : decode cc pc = .ok (.lmul, 1)) (kk : G X E nL A Q k n (pc + 1) vs (.long (x * y) :: st) σ) : G X E nL A Q k n pc vs (.long y :: .long x :: st) σ :=
  fun H locs ls hW hA hS hL => lv_lmul h.1 h.2.1 hd (kk H locs ls hW hA hS hL)
theorem g_land (h : OK X E cc own nL R) {x y : Int64} (hd : decode cc pc = .ok (.land, 1)) (kk : G X E nL A Q k n (pc + 1) vs (.long (x &&& y) :: st) σ) : G X E nL A Q k n pc vs (.long y :: .long x :: st) σ :=
  fun H locs ls hW hA hS hL => lv_land h.1 h.2.1 hd (kk H locs ls hW hA hS hL)
theorem g_lor (h : OK X E cc own nL R) {x y : Int64} (hd : decode cc pc = .ok (.lor, 1)) (kk : G X E nL A Q k n (pc + 1) vs (.long (x ||| y) :: st) σ) : G X E nL A Q k n pc vs (.long y :: .long x :: st) σ :=
  fun H locs ls hW hA hS hL => lv_lor h.1 h.2.1 hd (kk H locs ls hW hA hS hL)
theorem g_lshl (h : OK X E cc own nL R) {x : Int64} {y : Int32} (hd : decode cc pc = .ok (.lshl, 1)) (kk : G X E nL A Q k n (pc + 1) vs (.long (x <<< (y.toInt64 &&& 63)) :: st) σ) : G X E nL A Q k n pc vs (.int y :: .long x :: st) σ :=
  fun H locs ls hW hA hS hL => lv_lshl h.1 h.2.1 hd rfl (kk H locs ls hW hA hS hL)
theorem g_lshr (h : OK X E cc own nL R) {x : Int64} {y : Int32} (hd : decode cc pc = .ok (.lshr, 1)) (kk : G X E nL A Q k n (pc + 1) vs (.long (x >>> (y.toInt64 &&& 63)) :: st) σ) : G X E nL A Q k n pc vs (.int y :: .long x :: st) σ :=
  fun H locs ls hW hA hS hL => lv_lshr h.1 h.2.1 hd rfl (kk H locs ls hW hA hS hL)
theorem g_i2l (h : OK X E cc own nL R) {x : Int32} (hd : decode cc pc = .ok (.i2l, 1)) (kk : G X E nL A Q k n (pc + 1) vs (.long x.toInt64 :: st) σ) : G X E nL A Q k n pc vs (.int x :: st) σ :=
  fun H locs ls hW hA hS hL => lv_i2l h.1 h.2.1 hd rfl (kk H locs ls hW hA hS hL)
theorem g_lcmp (h : OK X E cc own nL R) {x y : Int64} (v : Int32) (hd : decode cc pc = .ok (.lcmp, 1)) (hv : (if y < x then 1 else if x = y then 0 else -1) = v) (kk : G X E nL A Q k n (pc + 1) vs (.int v :: st) σ) : G X E nL A Q k n pc vs (.long y :: .long x :: st) σ := by
  subst hv
  exact fun H locs ls hW hA hS hL => W.lcmp h.1 h.2.1 hd (kk H locs ls hW hA hS hL)
theorem g_dup (h : OK X E cc own nL R) {v : Value} (hd : decode cc pc = .ok (.dup, 1)) (hc : v.category = 1) (kk : G X E nL A Q k n (pc + 1) vs (v :: v :: st) σ) : G X E nL A Q k n pc vs (v :: st) σ :=
  fun H locs ls hW hA hS hL => lv_dup h.1 h.2.1 hd hc (kk H locs ls hW hA hS hL)
theorem g_dup2 (h : OK X E cc own nL R) {v w : Value} (hd : decode cc pc = .ok (.dup2, 1)) (hc : v.category = 1) (hc2 : w.category = 1) (kk : G X E nL A Q k n (pc + 1) vs (v :: w :: v :: w :: st) σ) : G X E nL A Q k n pc vs (v :: w :: st) σ :=
  fun H locs ls hW hA hS hL => lv_dup2_11 h.1 h.2.1 hd hc hc2 (kk H locs ls hW hA hS hL)
-- jumps
theorem g_goto (h : OK X E cc own nL R) {off : Int} (tgt : Nat) (hd : decode cc pc = .ok (.goto off, 3)) (ht : (pc : Int) + off = (tgt : Int)) (kk : G X E nL A Q k n tgt vs st σ) : G X E nL A Q k n pc vs st σ :=
  fun H locs ls hW hA hS hL => lv_goto h.1 h.2.1 hd ht (kk H locs ls hW hA hS hL)
theorem g_if_eq (h : OK X E cc own nL R) {x : Int32} {off : Int} (tgt : Nat) (hd : decode cc pc = .ok (.ifCond .eq off, 3)) (ht : (pc : Int) + off = (tgt : Int)) (kt : x = 0 → G X E nL A Q k n tgt vs st σ) (kf : ¬ x = 0 → G X E nL A Q k n (pc + 3) vs st σ) : G X E nL A Q k n pc vs (.int x :: st) σ :=
  fun H locs ls hW hA hS hL => lv_if_eq h.1 h.2.1 hd ht (fun c => kt c H locs ls hW hA hS hL) (fun c => kf c H locs ls hW hA hS hL)
theorem g_if_ne (h : OK X E cc own nL R) {x : Int32} {off : Int} (tgt : Nat) (hd : decode cc pc = .ok (.ifCond .ne off, 3)) (ht : (pc : Int) + off = (tgt : Int)) (kt : ¬ x = 0 → G X E nL A Q k n tgt vs st σ) (kf : x = 0 → G X E nL A Q k n (pc + 3) vs st σ) : G X E nL A Q k n pc vs (.int x :: st) σ :=
  fun H locs ls hW hA hS hL => lv_if_ne h.1 h.2.1 hd ht (fun c => kt c H locs ls hW hA hS hL) (fun c => kf c H locs ls hW hA hS hL)
theorem g_if_lt (h : OK X E cc own nL R) {x : Int32} {off : Int} (tgt : Nat) (hd : decode cc pc = .ok (.ifCond .lt off, 3)) (ht : (pc : Int) + off = (tgt : Int)) (kt : x < 0 → G X E nL A Q k n tgt vs st σ) (kf : ¬ x < 0 → G X E nL A Q k n (pc + 3) vs st σ) : G X E nL A Q k n pc vs (.int x :: st) σ :=
  fun H locs ls hW hA hS hL => lv_if_lt h.1 h.2.1 hd ht (fun c => kt c H locs ls hW hA hS hL) (fun c => kf c H locs ls hW hA hS hL)
theorem g_if_ge (h : OK X E cc own nL R) {x : Int32} {off : Int} (tgt : Nat) (hd : decode cc pc = .ok (.ifCond .ge off, 3)) (ht : (pc : Int) + off = (tgt : Int)) (kt : x ≥ 0 → G X E nL A Q k n tgt vs st σ) (kf : ¬ x ≥ 0 → G X E nL A Q k n (pc + 3) vs st σ) : G X E nL A Q k n pc vs (.int x :: st) σ :=
  fun H locs ls hW hA hS hL => lv_if_ge h.1 h.2.1 hd ht (fun c => kt c H locs ls hW hA hS hL) (fun c => kf c H locs ls hW hA hS hL)
theorem g_if_le (h : OK X E cc own nL R) {x : Int32} {off : Int} (tgt : Nat) (hd : decode cc pc = .ok (.ifCond .le off, 3)) (ht : (pc : Int) + off = (tgt : Int)) (kt : x ≤ 0 → G X E nL A Q k n tgt vs st σ) (kf : ¬ x ≤ 0 → G X E nL A Q k n (pc + 3) vs st σ) : G X E nL A Q k n pc vs (.int x :: st) σ :=
  fun H locs ls hW hA hS hL => lv_if_le h.1 h.2.1 hd ht (fun c => kt c H locs ls hW hA hS hL) (fun c => kf c H locs ls hW hA hS hL)
theorem g_if_gt (h : OK X E cc own nL R) {x : Int32} {off : Int} (tgt : Nat) (hd : decode cc pc = .ok (.ifCond .gt off, 3)) (ht : (pc : Int) + off = (tgt : Int)) (kt : x > 0 → G X E nL A Q k n tgt vs st σ) (kf : ¬ x > 0 → G X E nL A Q k n (pc + 3) vs st σ) : G X E nL A Q k n pc vs (.int x :: st) σ :=
  fun H locs ls hW hA hS hL => lv_if_gt h.1 h.2.1 hd ht (fun c => kt c H locs ls hW hA hS hL) (fun c => kf c H locs ls hW hA hS hL)
theorem g_icmp_eq (h : OK X E cc own nL R) {x y : Int32} {off : Int} (tgt : Nat) (hd : decode cc pc = .ok (.if_icmp .eq off, 3)) (ht : (pc : Int) + off = (tgt : Int)) (kt : x = y → G X E nL A Q k n tgt vs st σ) (kf : ¬ x = y → G X E nL A Q k n (pc + 3) vs st σ) : G X E nL A Q k n pc vs (.int y :: .int x :: st) σ :=
  fun H locs ls hW hA hS hL => lv_icmp_eq h.1 h.2.1 hd ht (fun c => kt c H locs ls hW hA hS hL) (fun c => kf c H locs ls hW hA hS hL)
theorem g_icmp_ne (h : OK X E cc own nL R) {x y : Int32} {off : Int} (tgt : Nat) (hd : decode cc pc = .ok (.if_icmp .ne off, 3)) (ht : (pc : Int) + off = (tgt : Int)) (kt : ¬ x = y → G X E nL A Q k n tgt vs st σ) (kf : x = y → G X E nL A Q k n (pc + 3) vs st σ) : G X E nL A Q k n pc vs (.int y :: .int x :: st) σ :=
  fun H locs ls hW hA hS hL => lv_icmp_ne h.1 h.2.1 hd ht (fun c => kt c H locs ls hW hA hS hL) (fun c => kf c H locs ls hW hA hS hL)
theorem g_icmp_lt (h : OK X E cc own nL R) {x y : Int32} {off : Int} (tgt : Nat) (hd : decode cc pc = .ok (.if_icmp .lt off, 3)) (ht : (pc : Int) + off = (tgt : Int)) (kt : x < y → G X E nL A Q k n tgt vs st σ) (kf : ¬ x < y → G X E nL A Q k n (pc + 3) vs st σ) : G X E nL A Q k n pc vs (.int y :: .int x :: st) σ :=
  fun H locs ls hW hA hS hL => lv_icmp_lt h.1 h.2.1 hd ht (fun c => kt c H locs ls hW hA hS hL) (fun c => kf c H locs ls hW hA hS hL)
theorem g_icmp_ge (h : OK X E cc own nL R) {x y : Int32} {off : Int} (tgt : Nat) (hd : decode cc pc = .ok (.if_icmp .ge off, 3)) (ht : (pc : Int) + off = (tgt : Int)) (kt : x ≥ y → G X E nL A Q k n tgt vs st σ) (kf : ¬ x ≥ y → G X E nL A Q k n (pc + 3) vs st σ) : G X E nL A Q k n pc vs (.int y :: .int x :: st) σ :=
  fun H locs ls hW hA hS hL => lv_icmp_ge h.1 h.2.1 hd ht (fun c => kt c H locs ls hW hA hS hL) (fun c => kf c H locs ls hW hA hS hL)
theorem g_icmp_gt (h : OK X E cc own nL R) {x y : Int32} {off : Int} (tgt : Nat) (hd : decode cc pc = .ok (.if_icmp .gt off, 3)) (ht : (pc : Int) + off = (tgt : Int)) (kt : x > y → G X E nL A Q k n tgt vs st σ) (kf : ¬ x > y → G X E nL A Q k n (pc + 3) vs st σ) : G X E nL A Q k n pc vs (.int y :: .int x :: st) σ :=
  fun H locs ls hW hA hS hL => lv_icmp_gt h.1 h.2.1 hd ht (fun c => kt c H locs ls hW hA hS hL) (fun c => kf c H locs ls hW hA hS hL)
theorem g_icmp_le (h : OK X E cc own nL R) {x y : Int32} {off : Int} (tgt : Nat) (hd : decode cc pc = .ok (.if_icmp .le off, 3)) (ht : (pc : Int) + off = (tgt : Int)) (kt : x ≤ y → G X E nL A Q k n tgt vs st σ) (kf : ¬ x ≤ y → G X E nL A Q k n (pc + 3) vs st σ) : G X E nL A Q k n pc vs (.int y :: .int x :: st) σ :=
  fun H locs ls hW hA hS hL => lv_icmp_le h.1 h.2.1 hd ht (fun c => kt c H locs ls hW hA hS hL) (fun c => kf c H locs ls hW hA hS hL)
theorem g_ifnull (h : OK X E cc own nL R) {x : Nat} {off : Int} (hd : decode cc pc = .ok (.ifnull off, 3)) (kk : G X E nL A Q k n (pc + 3) vs st σ) : G X E nL A Q k n pc vs (.ref x :: st) σ :=
  fun H locs ls hW hA hS hL => lv_ifnull h.1 h.2.1 hd (kk H locs ls hW hA hS hL)
theorem g_ifnullN (h : OK X E cc own nL R) {off : Int} (tgt : Nat) (hd : decode cc pc = .ok (.ifnull off, 3)) (ht : (pc : Int) + off = (tgt : Int)) (kk : G X E nL A Q k n tgt vs st σ) : G X E nL A Q k n pc vs (.null :: st) σ :=
  fun H locs ls hW hA hS hL => lv_ifnullN h.1 h.2.1 hd ht (kk H locs ls hW hA hS hL)
theorem g_ifnonnull (h : OK X E cc own nL R) {x : Nat} {off : Int} (tgt : Nat) (hd : decode cc pc = .ok (.ifnonnull off, 3)) (ht : (pc : Int) + off = (tgt : Int)) (kk : G X E nL A Q k n tgt vs st σ) : G X E nL A Q k n pc vs (.ref x :: st) σ :=
  fun H locs ls hW hA hS hL => lv_ifnonnull h.1 h.2.1 hd ht (kk H locs ls hW hA hS hL)
theorem g_ifnonnullN (h : OK X E cc own nL R) {off : Int} (hd : decode cc pc = .ok (.ifnonnull off, 3)) (kk : G X E nL A Q k n (pc + 3) vs st σ) : G X E nL A Q k n pc vs (.null :: st) σ :=
  fun H locs ls hW hA hS hL => lv_ifnonnullN h.1 h.2.1 hd (kk H locs ls hW hA hS hL)
theorem g_tabOut (h : OK X E cc own nL R) {dflt lo hi : Int} {offs : Array Int} {len : Nat} {x : Int32} (tgt : Nat) (hd : decode cc pc = .ok (.tableswitch dflt lo hi offs, len)) (hx : x.toInt < lo ∨ hi < x.toInt) (ht : (pc : Int) + dflt = (tgt : Int)) (kk : G X E nL A Q k n tgt vs st σ) : G X E nL A Q k n pc vs (.int x :: st) σ :=
  fun H locs ls hW hA hS hL => lv_tableOut h.1 h.2.1 hd hx ht (kk H locs ls hW hA hS hL)
theorem g_tabIn (h : OK X E cc own nL R) {dflt lo hi : Int} {offs : Array Int} {len : Nat} {x : Int32} {off : Int} (tgt : Nat) (hd : decode cc pc = .ok (.tableswitch dflt lo hi offs, len)) (h1 : ¬ x.toInt < lo) (h2 : ¬ hi < x.toInt) (ho : offs[(x.toInt - lo).toNat]? = some off) (ht : (pc : Int) + off = (tgt : Int)) (kk : G X E nL A Q k n tgt vs st σ) : G X E nL A Q k n pc vs (.int x :: st) σ :=
  fun H locs ls hW hA hS hL => lv_tableIn h.1 h.2.1 hd h1 h2 ho ht (kk H locs ls hW hA hS hL)
-- jumps over numbers
theorem g_icmp_ltN (h : OK X E cc own nL R) {x y : Nat} {off : Int} (tgt : Nat) (hd : decode cc pc = .ok (.if_icmp .lt off, 3)) (ht : (pc : Int) + off = (tgt : Int)) (hx : x < 2147483648) (hy : y < 2147483648) (kt : x < y → G X E nL A Q k n tgt vs st σ) (kf : y ≤ x → G X E nL A Q k n (pc + 3) vs st σ) : G X E nL A Q k n pc vs (.int (nI y) :: .int (nI x) :: st) σ :=
  g_icmp_lt h tgt hd ht (fun c => kt ((nI_ltI hx hy).mp c)) (fun c => kf (Nat.not_lt.mp fun q => c ((nI_ltI hx hy).mpr q)))
theorem g_icmp_geN (h : OK X E cc own nL R) {x y : Nat} {off : Int} (tgt : Nat) (hd : decode cc pc = .ok (.if_icmp .ge off, 3)) (ht : (pc : Int) + off = (tgt : Int)) (hx : x < 2147483648) (hy : y < 2147483648) (kt : y ≤ x → G X E nL A Q k n tgt vs st σ) (kf : x < y → G X E nL A Q k n (pc + 3) vs st σ) : G X E nL A Q k n pc vs (.int (nI y) :: .int (nI x) :: st) σ :=
  g_icmp_ge h tgt hd ht (fun c => kt ((nI_leI hy hx).mp c)) (fun c => kf (Nat.not_le.mp fun q => c ((nI_leI hy hx).mpr q)))
theorem g_icmp_gtN (h : OK X E cc own nL R) {x y : Nat} {off : Int} (tgt : Nat) (hd : decode cc pc = .ok (.if_icmp .gt off, 3)) (ht : (pc : Int) + off = (tgt : Int)) (hx : x < 2147483648) (hy : y < 2147483648) (kt : y < x → G X E nL A Q k n tgt vs st σ) (kf : x ≤ y → G X E nL A Q k n (pc + 3) vs st σ) : G X E nL A Q k n pc vs (.int (nI y) :: .int (nI x) :: st) σ :=
  g_icmp_gt h tgt hd ht (fun c => kt ((nI_ltI hy hx).mp c)) (fun c => kf (Nat.not_lt.mp fun q => c ((nI_ltI hy hx).mpr q)))
theorem g_icmp_leN (h : OK X E cc own nL R) {x y : Nat} {off : Int} (tgt : Nat) (hd : decode cc pc = .ok (.if_icmp .le off, 3)) (ht : (pc : Int) + off = (tgt : Int)) (hx : x < 2147483648) (hy : y < 2147483648) (kt : x ≤ y → G X E nL A Q k n tgt vs st σ) (kf : y < x → G X E nL A Q k n (pc + 3) vs st σ) : G X E nL A Q k n pc vs (.int (nI y) :: .int (nI x) :: st) σ :=
  g_icmp_le h tgt hd ht (fun c => kt ((nI_leI hx hy).mp c)) (fun c => kf (Nat.not_le.mp fun q => c ((nI_leI hx hy).mpr q)))
theorem g_icmp_eqN (h : OK X E cc own nL R) {x y : Nat} {off : Int} (tgt : Nat) (hd : decode cc pc = .ok (.if_icmp .eq off, 3)) (ht : (pc : Int) + off = (tgt : Int)) (hx : x < 2147483648) (hy : y < 2147483648) (kt : x = y → G X E nL A Q k n tgt vs st σ) (kf : x ≠ y → G X E nL A Q k n (pc + 3) vs st σ) : G X E nL A Q k n pc vs (.int (nI y) :: .int (nI x) :: st) σ :=
  g_icmp_eq h tgt hd ht (fun c => kt ((nI_eq hx hy).mp c)) (fun c => kf (fun q => c ((nI_eq hx hy).mpr q)))
theorem g_icmp_neN (h : OK X E cc own nL R) {x y : Nat} {off : Int} (tgt : Nat) (hd : decode cc pc = .ok (.if_icmp .ne off, 3)) (ht : (pc : Int) + off = (tgt : Int)) (hx : x < 2147483648) (hy : y < 2147483648) (kt : x ≠ y → G X E nL A Q k n tgt vs st σ) (kf : x = y → G X E nL A Q k n (pc + 3) vs st σ) : G X E nL A Q k n pc vs (.int (nI y) :: .int (nI x) :: st) σ :=
  g_icmp_ne h tgt hd ht (fun c => kt (fun q => c ((nI_eq hx hy).mpr q))) (fun c => kf ((nI_eq hx hy).mp c))
theorem g_if_ltN (h : OK X E cc own nL R) {x : Nat} {off : Int} (tgt : Nat) (hd : decode cc pc = .ok (.ifCond .lt off, 3)) (ht : (pc : Int) + off = (tgt : Int)) (hx : x < 2147483648) (kf : G X E nL A Q k n (pc + 3) vs st σ) : G X E nL A Q k n pc vs (.int (nI x) :: st) σ :=
  g_if_lt h tgt hd ht (fun c => absurd c (nI_pos hx)) (fun _ => kf)
theorem g_if_geN (h : OK X E cc own nL R) {x : Nat} {off : Int} (tgt : Nat) (hd : decode cc pc = .ok (.ifCond .ge off, 3)) (ht : (pc : Int) + off = (tgt : Int)) (hx : x < 2147483648) (kt : G X E nL A Q k n tgt vs st σ) : G X E nL A Q k n pc vs (.int (nI x) :: st) σ :=
  g_if_ge h tgt hd ht (fun _ => kt) (fun c => absurd (nI_pos' hx) c)
theorem g_if_eqN (h : OK X E cc own nL R) {x : Nat} {off : Int} (tgt : Nat) (hd : decode cc pc = .ok (.ifCond .eq off, 3)) (ht : (pc : Int) + off = (tgt : Int)) (hx : x < 2147483648) (kt : x = 0 → G X E nL A Q k n tgt vs st σ) (kf : 0 < x → G X E nL A Q k n (pc + 3) vs st σ) : G X E nL A Q k n pc vs (.int (nI x) :: st) σ :=
  g_if_eq h tgt hd ht (fun c => kt ((nI_eq hx (by decide)).mp (c.trans nI_0.symm))) (fun c => kf (Nat.pos_of_ne_zero fun q => c (by rw [q]; exact nI_0)))
theorem g_if_neN (h : OK X E cc own nL R) {x : Nat} {off : Int} (tgt : Nat) (hd : decode cc pc = .ok (.ifCond .ne off, 3)) (ht : (pc : Int) + off = (tgt : Int)) (hx : x < 2147483648) (kt : 0 < x → G X E nL A Q k n tgt vs st σ) (kf : x = 0 → G X E nL A Q k n (pc + 3) vs st σ) : G X E nL A Q k n pc vs (.int (nI x) :: st) σ :=
  g_if_ne h tgt hd ht (fun c => kt (Nat.pos_of_ne_zero fun q => c (by rw [q]; exact nI_0))) (fun c => kf ((nI_eq hx (by decide)).mp (c.trans nI_0.symm)))
theorem g_if_leN (h : OK X E cc own nL R) {x : Nat} {off : Int} (tgt : Nat) (hd : decode cc pc = .ok (.ifCond .le off, 3)) (ht : (pc : Int) + off = (tgt : Int)) (hx : x < 2147483648) (kt : x = 0 → G X E nL A Q k n tgt vs st σ) (kf : 0 < x → G X E nL A Q k n (pc + 3) vs st σ) : G X E nL A Q k n pc vs (.int (nI x) :: st) σ :=
  g_if_le h tgt hd ht (fun c => kt (by
    rcases Nat.eq_zero_or_pos x with q | q
    · exact q
    · exact absurd c (nI_nle q hx))) (fun c => kf (Nat.pos_of_ne_zero fun q => c (by rw [q]; decide)))
theorem g_if_gtN (h : OK X E cc own nL R) {x : Nat} {off : Int} (tgt : Nat) (hd : decode cc pc = .ok (.ifCond .gt off, 3)) (ht : (pc : Int) + off = (tgt : Int)) (hx : x < 2147483648) (kt : 0 < x → G X E nL A Q k n tgt vs st σ) (kf : x = 0 → G X E nL A Q k n (pc + 3) vs st σ) : G X E nL A Q k n pc vs (.int (nI x) :: st) σ :=
  g_if_gt h tgt hd ht (fun c => kt (Nat.pos_of_ne_zero fun q => by rw [q] at c; exact absurd c (by decide))) (fun c => kf (by
    rcases Nat.eq_zero_or_pos x with q | q
    · exact q
    · exact absurd (Int32.not_le.mp (nI_nle q hx)) c))
end GR
end
section
/-! THE JUDGEMENT G: fields, arrays, making, calls, entry and end (own work) -/
/-- a field's link: own class's place index is field kf of class ci -/
def FA (own : String) (index ci kf : Nat) : Prop := ∃ (C : String) (T : u_T) (N : Nat) (ref : String), vwCl[ci]? = some (C, T, N) ∧ kf < N ∧ ref = (T kf).1 ∧ lwI (.fieldLink own index ref (T kf).2.1 (T kf).2.2.1)
/-- a field that is written -/
def FP (own : String) (index ci kf : Nat) (fin : Bool) (ty : FieldType) : Prop := ∃ (C : String) (T : u_T) (N : Nat) (ref : String) (ty0 : Nat → FieldType), vwCl[ci]? = some (C, T, N) ∧ kf < N ∧ ref = (T kf).1 ∧ lwI (.fieldLink own index ref (T kf).2.1 (T kf).2.2.1) ∧
  (∀ k, k < N → parseFieldDescriptor (T k).2.2.1 = some (ty0 k)) ∧ (∀ a, a < N → ∀ b, b < N → a ≠ b → (T a).2.1 ≠ (T b).2.1) ∧ (T kf).2.2.2 = fin ∧ parseFieldDescriptor (T kf).2.2.1 = some ty ∧ (fin = true → (T kf).1 = own)
theorem va_S_put {A : Nat → Prop} {H0 H H1 : Heap} {locs : List Loc} {a k : Nat} (h : va_S A H0 H locs) (z : H1.size = H.size) (oq : ∀ q : Nat, q ≠ a → H1[q]? = H[q]?) (ha : A a) : va_S A H0 H1 (locs ++ [⟨a, k⟩]) := h.put z oq ha
theorem va_S_push {A : Nat → Prop} {H0 H H1 : Heap} {locs : List Loc} (h : va_S A H0 H locs) (z : H1.size = H.size + 1) (oq : ∀ q : Nat, q < H.size → H1[q]? = H[q]?) : va_S A H0 H1 locs :=
  ⟨Nat.le_trans h.1 (by omega), fun x h1 h2 => (oq x (Nat.lt_of_lt_of_le h1 h.1)).trans (h.2.1 x h1 h2), h.2.2⟩
section GH
variable {X : CX} {E : EnvD} {cc : ByteArray} {own : String} {nL : Nat} {R : Room} {A : Nat → Prop} {Q : State → Prop} {k n pc : Nat} {vs vs' : List (Option Value)} {st : List Value} {σ : Sto} {a : Nat}
theorem g_get (h : OK X E cc own nL R) {index ci : Nat} (kf : Nat) {fs : List Value} {v : Value} (hf : FA own index ci kf) (hd : decode cc pc = .ok (.getfield index, 3)) (hσ : σ.1 a = some (.inr (ci, fs))) (hv : fs[kf]? = some v) (kk : G X E nL A Q k n (pc + 3) vs (v :: st) σ) : G X E nL A Q k n pc vs (.ref a :: st) σ := by
  obtain ⟨C, T, N, ref, hc, hk, hr, hl⟩ := hf
  intro H locs ls hW hA hS hL
  have hP : va_P E.1 vwCl [(a, .inr (ci, fs))] H := fun i q hq => by
    have h0 : i < 1 := (List.getElem?_eq_some_iff.mp hq).1
    rw [show i = 0 by omega] at hq
    cases hq
    exact hW.1 a _ hσ
  exact va_get h.1 h.2.1 (Ts := u_ws C T N) (h.2.2.2.2.1.lay hc (xA X)) (fun _ z => z) h.2.2.2.1 h.2.2.2.2.1.1 hP 0 rfl hc kf hk (by have := h.word hl; exact this) (fun x hx => by rw [hr]; exact hx) hv hd (kk H locs ls hW hA hS hL)
theorem g_put0 (h : OK X E cc own nL R) {index ci : Nat} {kf : Nat} {fs : List Value} {v : Value} {ty : FieldType} (hf : FP own index ci kf false ty) (hd : decode cc pc = .ok (.putfield index, 3)) (hσ : σ.1 a = some (.inr (ci, fs))) (hl : kf < fs.length) (hn : narrow ty v = v) (hfit : fits ty v = true)
    (kk : G X E nL A Q k n (pc + 3) vs st (sup σ a (.inr (ci, fs.set kf v)))) : G X E nL A Q k n pc vs (v :: .ref a :: st) σ := by
  obtain ⟨C, T, N, ref, ty0, hc, hk, hr, hw, hty, hnm, hfin, hdsc, -⟩ := hf
  intro H locs ls hW hA hS hL
  have hts := h.2.2.2.2.1.lay hc (xA X)
  have hK := h.2.2.2.2.1.1
  have hap := va_apart (own := own) (Ts := u_ws C T N) hts (fun _ z => z) ty0 hty hnm hK hc
  obtain ⟨r, h1, cell, q1, q2, q3, q4⟩ := hW.1 a _ hσ
  have hr2 : r = (C, T, N) := Option.some.inj (h1.symm.trans hc)
  subst hr2
  obtain ⟨hS2, hfc, kC, hkC, hkind⟩ := hK.1 ci _ hc
  obtain ⟨cf, kf2, fi, f, hi, hsl⟩ := hS2 kf hk
  have hlay := hts _ (u_in_lay hk)
  unfold u_lay at hlay
  rw [if_neg (by rw [hfin]; decide)] at hlay
  have hst := (u_facts hfc hkC (u_lays hts (fun _ z => z) hk) hi).1
  have h6 := u_store hfc hkC hkind hlay hi hdsc hn hfit
  refine W.putK h.1 h.2.1 (f := f) ⟨h.2.2.2.1, h.word hw, ⟨_, _, _, hr ▸ hi⟩, hst⟩ (by rw [q2]; exact h6) q1 q3 (by rw [hsl]; exact k2_hasslot (q4 kf hk)) rfl rfl hd fun H' e1 e2 e3 => ?_
  rw [hsl] at e1 ⊢
  exact kk H' _ ls (hW.put hσ ⟨_, hc, t_OB.to (V := updV (vp_V fs) kf v) ⟨_, e1, q2, q3, t_set q4 hap hk v⟩ (fun j _ => vp_updV_set hl v j)⟩ e2 e3) (fun q hq => hA q (AD_sup hσ q hq)) (va_S_put hS e2 e3 (hA a (Or.inl (by rw [hσ]; exact fun z => by cases z)))) hL
theorem g_putF0 (h : OK X E cc own nL R) (hin : (xH X).name = "<init>") {index ci : Nat} {kf : Nat} {fs : List Value} {v : Value} {ty : FieldType} (hf : FP own index ci kf true ty) (hd : decode cc pc = .ok (.putfield index, 3)) (hσ : σ.1 a = some (.inr (ci, fs))) (hl : kf < fs.length) (hn : narrow ty v = v) (hfit : fits ty v = true)
    (kk : G X E nL A Q k n (pc + 3) vs st (sup σ a (.inr (ci, fs.set kf v)))) : G X E nL A Q k n pc vs (v :: .ref a :: st) σ := by
  obtain ⟨C, T, N, ref, ty0, hc, hk, hr, hw, hty, hnm, hfin, hdsc, hdecl⟩ := hf
  intro H locs ls hW hA hS hL
  have hts := h.2.2.2.2.1.lay hc (xA X)
  have hK := h.2.2.2.2.1.1
  have hap := va_apart (own := own) (Ts := u_ws C T N) hts (fun _ z => z) ty0 hty hnm hK hc
  obtain ⟨r, h1, cell, q1, q2, q3, q4⟩ := hW.1 a _ hσ
  have hr2 : r = (C, T, N) := Option.some.inj (h1.symm.trans hc)
  subst hr2
  obtain ⟨hS2, hfc, kC, hkC, hkind⟩ := hK.1 ci _ hc
  obtain ⟨cf, kf2, fi, f, hi, hsl⟩ := hS2 kf hk
  have hlay := hts _ (u_in_lay hk)
  unfold u_lay at hlay
  rw [if_pos hfin] at hlay
  have hst := (u_facts hfc hkC (u_lays hts (fun _ z => z) hk) hi).1
  have hcf : (xM X).cls = cf := by
    obtain ⟨_, _, c', _, _, _, -, -, hf', -, -, -, hown2, -⟩ := Cond.laysFinal_spec hlay
    have e1 : c' = cf := by have := hi.symm.trans hf'; simp at this; exact this.1.symm
    rw [hdecl rfl] at hown2
    rw [← e1]; exact Option.some.inj (h.2.2.2.1.symm.trans hown2)
  have h6 := u_fits hfc hkC hkind (Or.inr hlay) hi hdsc hn hfit
  refine W.putFinK h.1 h.2.1 h.2.2.2.1 (h.word hw) (hr ▸ hi) hst hcf hin (by rw [q2]; exact h6) q1 q3 (by rw [hsl]; exact k2_hasslot (q4 kf hk)) rfl rfl hd fun H' e1 e2 e3 => ?_
  rw [hsl] at e1 ⊢
  exact kk H' _ ls (hW.put hσ ⟨_, hc, t_OB.to (V := updV (vp_V fs) kf v) ⟨_, e1, q2, q3, t_set q4 hap hk v⟩ (fun j _ => vp_updV_set hl v j)⟩ e2 e3) (fun q hq => hA q (AD_sup hσ q hq)) (va_S_put hS e2 e3 (hA a (Or.inl (by rw [hσ]; exact fun z => by cases z)))) hL
theorem g_put (h : OK X E cc own nL R) {index ci : Nat} (kf : Nat) {fs fs' : List Value} {v : Value} {ty : FieldType} (hf : FP own index ci kf false ty) (hd : decode cc pc = .ok (.putfield index, 3)) (hσ : σ.1 a = some (.inr (ci, fs))) (hl : kf < fs.length) (hn : narrow ty v = v) (hfit : fits ty v = true) (hfs : fs.set kf v = fs')
    (kk : G X E nL A Q k n (pc + 3) vs st (sup σ a (.inr (ci, fs')))) : G X E nL A Q k n pc vs (v :: .ref a :: st) σ := g_put0 h hf hd hσ hl hn hfit (hfs ▸ kk)
theorem g_putF (h : OK X E cc own nL R) (hin : (xH X).name = "<init>") {index ci : Nat} (kf : Nat) {fs fs' : List Value} {v : Value} {ty : FieldType} (hf : FP own index ci kf true ty) (hd : decode cc pc = .ok (.putfield index, 3)) (hσ : σ.1 a = some (.inr (ci, fs))) (hl : kf < fs.length) (hn : narrow ty v = v) (hfit : fits ty v = true) (hfs : fs.set kf v = fs')
    (kk : G X E nL A Q k n (pc + 3) vs st (sup σ a (.inr (ci, fs')))) : G X E nL A Q k n pc vs (v :: .ref a :: st) σ := g_putF0 h hin hf hd hσ hl hn hfit (hfs ▸ kk)
theorem arrTy (h : OK X E cc own nL R) {t : Nat} {cA : ClassId} {ty : FieldType} (ht : (tysE E)[t]? = some (cA, ty)) : ArrOfT (xS X) cA ty ∧ va_RA (xS X) cA ty := h.2.2.2.2.1.1.2 t _ ht
theorem clampN {i : Nat} (h : i < 2147483648) : (nI i).toNatClampNeg = i := nI_clamp h
theorem inN {i m : Nat} (h : i < m) (hm : m ≤ 2147483648) : ¬ (nI i < 0 ∨ m ≤ (nI i).toNatClampNeg) := by
  intro q
  rcases q with q | q
  · exact nI_pos (Nat.lt_of_lt_of_le h hm) q
  · rw [clampN (Nat.lt_of_lt_of_le h hm)] at q
    omega
theorem g_iald (h : OK X E cc own nL R) {m i : Nat} {f : Nat → Int32} (hd : decode cc pc = .ok (.iaload, 1)) (hσ : σ.1 a = some (cI E m f)) (hi : i < m) (hm : m ≤ 2147483648) (kk : G X E nL A Q k n (pc + 1) vs (.int (f i) :: st) σ) : G X E nL A Q k n pc vs (.int (nI i) :: .ref a :: st) σ := by
  intro H locs ls hW hA hS hL
  have h2 := inN hi hm
  refine W.iald (v := .int (f i)) h.1 h.2.1 (hW.1 a _ hσ) ((arrTy h (t := 0) rfl).1 m (fun j => .int (f j))) (fun q => by cases q) (by show ¬ (nI i < 0 ∨ (arrV _ _ _).slots.size ≤ _); rw [arrV_size]; exact h2) ?_ rfl rfl hd (kk H locs ls hW hA hS hL)
  show (arrV _ _ _).slots[_]? = _
  rw [clampN (Nat.lt_of_lt_of_le hi hm), arrV_read _ _ hi]
theorem g_zald (h : OK X E cc own nL R) {m i : Nat} {f : Nat → Int32} (hd : decode cc pc = .ok (.baload, 1)) (hσ : σ.1 a = some (cZ E m f)) (hi : i < m) (hm : m ≤ 2147483648) (kk : G X E nL A Q k n (pc + 1) vs (.int (f i) :: st) σ) : G X E nL A Q k n pc vs (.int (nI i) :: .ref a :: st) σ := by
  intro H locs ls hW hA hS hL
  have h2 := inN hi hm
  refine W.zald (v := .int (f i)) h.1 h.2.1 (hW.1 a _ hσ) ((arrTy h (t := 1) rfl).1 m (fun j => .int (f j))) (fun q => by cases q) (by show ¬ (nI i < 0 ∨ (arrV _ _ _).slots.size ≤ _); rw [arrV_size]; exact h2) ?_ rfl rfl hd (kk H locs ls hW hA hS hL)
  show (arrV _ _ _).slots[_]? = _
  rw [clampN (Nat.lt_of_lt_of_le hi hm), arrV_read _ _ hi]
theorem g_iast (h : OK X E cc own nL R) {m i : Nat} {x : Int32} {f : Nat → Int32} (hd : decode cc pc = .ok (.iastore, 1)) (hσ : σ.1 a = some (cI E m f)) (hi : i < m) (hm : m ≤ 2147483648) (kk : G X E nL A Q k n (pc + 1) vs st (sup σ a (cI E m (upd f i x)))) : G X E nL A Q k n pc vs (.int x :: .int (nI i) :: .ref a :: st) σ := by
  intro H locs ls hW hA hS hL
  have h2 := inN hi hm
  refine W.iast h.1 h.2.1 (hW.1 a _ hσ) ((arrTy h (t := 0) rfl).1 m (fun j => .int (f j))) (fun q => by cases q) (by show ¬ (nI i < 0 ∨ (arrV _ _ _).slots.size ≤ _); rw [arrV_size]; exact h2) rfl rfl hd fun H1 e z oq => ?_
  rw [clampN (Nat.lt_of_lt_of_le hi hm)] at e ⊢
  refine kk H1 _ ls (hW.put hσ ?_ z oq) (fun q hq => hA q (AD_sup hσ q hq)) (va_S_put hS z oq (hA a (Or.inl (by rw [hσ]; exact fun z => by cases z)))) hL
  show H1[a]? = some (vp_cell _ _)
  rw [e]
  rw [vp_cell_i, vp_cell_i, arrV_store]
  congr 2
  funext q
  by_cases hq : q = i
  · subst hq
    simp [updV, upd]
  · simp [updV, upd, hq]
theorem g_zast (h : OK X E cc own nL R) {m i : Nat} {x : Int32} {f : Nat → Int32} (hd : decode cc pc = .ok (.bastore, 1)) (hx : narrow .boolean (.int x) = .int x) (hσ : σ.1 a = some (cZ E m f)) (hi : i < m) (hm : m ≤ 2147483648) (kk : G X E nL A Q k n (pc + 1) vs st (sup σ a (cZ E m (upd f i x)))) : G X E nL A Q k n pc vs (.int x :: .int (nI i) :: .ref a :: st) σ := by
  intro H locs ls hW hA hS hL
  have h2 := inN hi hm
  refine W.zast h.1 h.2.1 (hW.1 a _ hσ) ((arrTy h (t := 1) rfl).1 m (fun j => .int (f j))) (fun q => by cases q) (by show ¬ (nI i < 0 ∨ (arrV _ _ _).slots.size ≤ _); rw [arrV_size]; exact h2) rfl rfl hd fun H1 e z oq => ?_
  rw [clampN (Nat.lt_of_lt_of_le hi hm), hx] at e
  rw [clampN (Nat.lt_of_lt_of_le hi hm)]
  refine kk H1 _ ls (hW.put hσ ?_ z oq) (fun q hq => hA q (AD_sup hσ q hq)) (va_S_put hS z oq (hA a (Or.inl (by rw [hσ]; exact fun z => by cases z)))) hL
  show H1[a]? = some (vp_cell _ _)
  rw [e]
  rw [vp_cell_i, vp_cell_i, arrV_store]
  congr 2
  funext q
  by_cases hq : q = i
  · subst hq
    simp [updV, upd]
  · simp [updV, upd, hq]
theorem g_aald (h : OK X E cc own nL R) (t : Nat) {ty : FieldType} {m i : Nat} {f : Nat → Option Nat} {v : Value} (hd : decode cc pc = .ok (.aaload, 1)) (ht : (tysE E)[t]? = some (E.2 t, ty)) (hty : ty.isReference = true) (hσ : σ.1 a = some (cQ E t m f)) (hi : i < m) (hm : m ≤ 2147483648) (hv : va_rf (f i) = v) (kk : G X E nL A Q k n (pc + 1) vs (v :: st) σ) : G X E nL A Q k n pc vs (.int (nI i) :: .ref a :: st) σ := by
  subst hv
  intro H locs ls hW hA hS hL
  have h2 := inN hi hm
  refine W.aald (v := va_rf (f i)) (ty := ty) h.1 h.2.1 (hW.1 a _ hσ) ((arrTy h ht).1 m (fun j => va_rf (f j))) hty (fun q => by cases q) (by show ¬ (nI i < 0 ∨ (arrV _ _ _).slots.size ≤ _); rw [arrV_size]; exact h2) ?_ rfl rfl hd (kk H locs ls hW hA hS hL)
  show (arrV _ _ _).slots[_]? = _
  rw [clampN (Nat.lt_of_lt_of_le hi hm), arrV_read _ _ hi]
theorem g_aast (h : OK X E cc own nL R) (t ci : Nat) {r : vw_C} {m i v : Nat} {fs : List Value} {f : Nat → Option Nat} (hd : decode cc pc = .ok (.aastore, 1)) (ht : (tysE E)[t]? = some (E.2 t, .object r.1)) (hc : vwCl[ci]? = some r) (hσ : σ.1 a = some (cQ E t m f)) (hv : σ.1 v = some (.inr (ci, fs))) (hi : i < m) (hm : m ≤ 2147483648)
    (kk : G X E nL A Q k n (pc + 1) vs st (sup σ a (cQ E t m (va_up f i (some v))))) : G X E nL A Q k n pc vs (.ref v :: .int (nI i) :: .ref a :: st) σ := by
  intro H locs ls hW hA hS hL
  have h2 := inN hi hm
  have hK := h.2.2.2.2.1.1
  obtain ⟨r', hr', cellV, g1, g2, g3, -⟩ := hW.1 v _ hv
  have hcls := (hK.1 ci r hc).2
  obtain ⟨kA, comp, k1, k2, k3, -⟩ := (arrTy h ht).2
  have hcomp : comp = E.1.1 ci := Option.some.inj (k3.symm.trans hcls.1)
  subst hcomp
  obtain ⟨kC, hkC, -⟩ := hcls.2
  refine W.aast h.1 h.2.1 (hW.1 a _ hσ) (fun q h => by cases h) (fun h => by cases h) k1 k2 rfl hkC ⟨fun q => h2 (Or.inl q), by show _ < (arrV _ _ _).slots.size; rw [arrV_size]; exact Nat.not_le.mp fun q => h2 (Or.inr q)⟩ g1 (fun q h => by rw [g3] at h; cases h) (by rw [g2]; exact hkC) (by rw [g2]; exact va_assign hcls) rfl rfl hd fun H1 e z oq => ?_
  rw [clampN (Nat.lt_of_lt_of_le hi hm)] at e ⊢
  refine kk H1 _ ls (hW.put hσ ?_ z oq) (fun q hq => hA q (AD_sup hσ q hq)) (va_S_put hS z oq (hA a (Or.inl (by rw [hσ]; exact fun z => by cases z)))) hL
  show H1[a]? = some (vp_cell _ _)
  rw [e]
  rw [vp_cell_q, vp_cell_q, arrV_store]
  congr 2
  funext q
  by_cases hq : q = i
  · subst hq
    simp [updV, va_up, va_rf]
  · simp [updV, va_up, hq]
theorem g_alen (h : OK X E cc own nL R) (t : Nat) {ty : FieldType} {x : vp_A} {v : Int32} (hd : decode cc pc = .ok (.arraylength, 1)) (ht : (tysE E)[t]? = some (E.2 t, ty)) (hσ : σ.1 a = some (.inl (E.2 t, x))) (hv : nI x.1 = v) (kk : G X E nL A Q k n (pc + 1) vs (.int v :: st) σ) : G X E nL A Q k n pc vs (.ref a :: st) σ := by
  intro H locs ls hW hA hS hL
  have hP : va_P E.1 vwCl [(a, .inl (E.2 t, x))] H := fun i q hq => by
    have h0 : i < 1 := (List.getElem?_eq_some_iff.mp hq).1
    rw [show i = 0 by omega] at hq
    cases hq
    exact hW.1 a _ hσ
  have hK : va_K E.1 vwCl (tysE E) (xS X) := h.2.2.2.2.1.1
  exact va_alen h.1 h.2.1 hK hP 0 t rfl ht hv hd (kk H locs ls hW hA hS hL)
-- making
theorem g_newi (h : OK X E cc own nL R) {m : Nat} (hw : lwI (.arrayClass .int)) (hd : decode cc pc = .ok (.newarray .int, 2)) (hm : m < 100000000) (hc : k + 1 ≤ R.cells) (hs : n + m ≤ R.slots)
    (kk : G X E nL A Q (k + 1) (n + m) (pc + 2) vs (.ref σ.2 :: st) (spush σ (cI E m (fun _ => 0)))) : G X E nL A Q k n pc vs (.int (nI m) :: st) σ := by
  intro H locs ls hW hA hS hL
  have hlt : m < 2147483648 := by omega
  have hcl := clampN hlt
  refine W.newa h.1 h.2.1 (atype := .int) (h.word hw) rfl hd rfl (nI_pos hlt) (by rw [hcl]; show m * 4 ≤ _; omega) (by rw [h.2.2.2.2.2.2]; exact hc) (by rw [hcl, h.2.2.2.2.2.2]; exact hs) fun cA kA comp h1 h2 h3 => ?_
  rw [hcl]
  have e1 : cA = E.2 0 := Option.some.inj (h1.symm.trans (arrTy h (t := 0) rfl).2)
  subst e1
  rw [hW.2]
  refine kk _ locs ls (hW.push ?_ (by simp) (fun q hq => by rw [Array.getElem?_push, if_neg (Nat.ne_of_lt hq)])) (fun q hq => hA q (AD_push q hq)) (va_S_push hS (by simp) (fun q hq => by rw [Array.getElem?_push, if_neg (Nat.ne_of_lt hq)])) hL
  show _ = some (vp_cell _ _)
  rw [vp_cell_i]
  simp only [Array.getElem?_push_size]
  exact congrArg some (arrV_new _ _ _)
theorem g_newz (h : OK X E cc own nL R) {m : Nat} (hw : lwI (.arrayClass .boolean)) (hd : decode cc pc = .ok (.newarray .boolean, 2)) (hm : m < 100000000) (hc : k + 1 ≤ R.cells) (hs : n + m ≤ R.slots)
    (kk : G X E nL A Q (k + 1) (n + m) (pc + 2) vs (.ref σ.2 :: st) (spush σ (cZ E m (fun _ => 0)))) : G X E nL A Q k n pc vs (.int (nI m) :: st) σ := by
  intro H locs ls hW hA hS hL
  have hlt : m < 2147483648 := by omega
  have hcl := clampN hlt
  refine W.newa h.1 h.2.1 (atype := .boolean) (h.word hw) rfl hd rfl (nI_pos hlt) (by rw [hcl]; show m * 1 ≤ _; omega) (by rw [h.2.2.2.2.2.2]; exact hc) (by rw [hcl, h.2.2.2.2.2.2]; exact hs) fun cA kA comp h1 h2 h3 => ?_
  rw [hcl]
  have e1 : cA = E.2 1 := Option.some.inj (h1.symm.trans (arrTy h (t := 1) rfl).2)
  subst e1
  rw [hW.2]
  refine kk _ locs ls (hW.push ?_ (by simp) (fun q hq => by rw [Array.getElem?_push, if_neg (Nat.ne_of_lt hq)])) (fun q hq => hA q (AD_push q hq)) (va_S_push hS (by simp) (fun q hq => by rw [Array.getElem?_push, if_neg (Nat.ne_of_lt hq)])) hL
  show _ = some (vp_cell _ _)
  rw [vp_cell_i]
  simp only [Array.getElem?_push_size]
  exact congrArg some (arrV_new _ _ _)
theorem g_newq (h : OK X E cc own nL R) (t : Nat) {C : String} {index m : Nat} (hw : lwI (.classLink own index C)) (hO : va_AO C (xS X)) (hd : decode cc pc = .ok (.anewarray index, 3)) (ht : (tysE E)[t]? = some (E.2 t, .object C)) (hm : m < 100000000) (hc : k + 1 ≤ R.cells) (hs : n + m ≤ R.slots)
    (kk : G X E nL A Q (k + 1) (n + m) (pc + 3) vs (.ref σ.2 :: st) (spush σ (cQ E t m (fun _ => none)))) : G X E nL A Q k n pc vs (.int (nI m) :: st) σ := by
  intro H locs ls hW hA hS hL
  have hlt : m < 2147483648 := by omega
  have hcl := clampN hlt
  refine W.anew h.1 h.2.1 h.2.2.2.1 (h.word hw) (va_AO.use hO) rfl hd rfl (nI_pos hlt) (by rw [hcl]; omega) (by rw [h.2.2.2.2.2.2]; exact hc) (by rw [hcl, h.2.2.2.2.2.2]; exact hs) fun cA kA comp h1 h2 h3 h4 => ?_
  rw [hcl]
  obtain ⟨kA', comp', g1, g2, g3, g4⟩ := (arrTy h ht).2
  have e1 : cA = E.2 t := Option.some.inj (h1.symm.trans g4)
  subst e1
  rw [hW.2]
  refine kk _ locs ls (hW.push ?_ (by simp) (fun q hq => by rw [Array.getElem?_push, if_neg (Nat.ne_of_lt hq)])) (fun q hq => hA q (AD_push q hq)) (va_S_push hS (by simp) (fun q hq => by rw [Array.getElem?_push, if_neg (Nat.ne_of_lt hq)])) hL
  show _ = some (vp_cell _ _)
  rw [vp_cell_q]
  simp only [Array.getElem?_push_size]
  exact congrArg some (arrV_new _ _ _)
theorem g_new (h : OK X E cc own nL R) (ci : Nat) {C : String} {T : u_T} {N index : Nat} {ty : Nat → FieldType} (fs : List Value) (hc : vwCl[ci]? = some (C, T, N)) (hty : ∀ k, k < N → parseFieldDescriptor (T k).2.2.1 = some (ty k)) (hw : lwI (.classLink own index C) ∧ lwI (.instantiable C N) ∧ lwI (.initialized C)) (hd : decode cc pc = .ok (.new index, 3)) (hfs : ∀ j, j < N → defaultValue (ty j) = vp_V fs j) (hcc : k + 1 ≤ R.cells) (hs : n + N ≤ R.slots)
    (kk : G X E nL A Q (k + 1) (n + N) (pc + 3) vs (.ref σ.2 :: st) (spush σ (.inr (ci, fs)))) : G X E nL A Q k n pc vs st σ := by
  intro H locs ls hW hA hS hL
  have hK := h.2.2.2.2.1.1
  have hts := h.2.2.2.2.1.lay hc (xA X)
  have hKn := hK.1 ci _ hc
  refine W.newcK h.1 h.2.1 h.2.2.2.1 (h.word hw.1) (h.word hw.2.1) (h.word hw.2.2) rfl hd (by rw [h.2.2.2.2.2.2]; exact hcc) (by rw [h.2.2.2.2.2.2]; exact hs) hKn.2.1 hW.2 fun H1 kC hkC e1 z1 o1 => ?_
  exact kk H1 locs ls (hW.push (by rw [hW.2]; exact ⟨_, hc, (u_born ty hts (fun _ z => z) hKn hkC e1 hty).to hfs⟩) (by rw [hW.2]; exact z1) (by rw [hW.2]; exact o1)) (fun q hq => hA q (AD_push q hq)) (va_S_push hS (by rw [hW.2]; exact z1) (by rw [hW.2]; exact o1)) hL
theorem g_objInit (h : OK X E cc own nL R) {index : Nat} (hw : lwI (.methodLink own index objectInit) ∧ lwI (.instanceMethod objectInit) ∧ lwI (.code objectInit ⟨#[0xb1]⟩ 1 none)) (hd : decode cc pc = .ok (.invokespecial index, 3)) (hr : 1 ≤ R.frames ∧ (st.map fun v => v.category).sum + 12 ≤ R.locals) (kk : G X E nL A Q k n (pc + 3) vs st σ) : G X E nL A Q k n pc vs (.ref a :: st) σ := by
  intro H locs ls hW hA hS hL
  refine W.objInit h.1 h.2.1 h.2.2.2.1 (h.word hw.1) (h.word hw.2.1) (h.word hw.2.2) rfl (by rw [h.2.2.1]; exact hL.1) rfl hd (by rw [h.2.2.2.2.2.2]; exact hr.1) (by rw [h.2.2.2.2.2.2]; show 2 * 0 + _ + 12 ≤ _; have := hr.2; omega) (kk H locs ls hW hA hS hL)
theorem g_max (h : OK X E cc own nL R) {index : Nat} {x y : Int32} (hw : lwI (.methodLink own index Lib.Math.max.name) ∧ lwI (.static Lib.Math.max.name) ∧ lwI (.initialized "java/lang/Math") ∧ lwI (.code Lib.Math.max.name Lib.Math.max.code 2 (some .int))) (hd : decode cc pc = .ok (.invokestatic index, 3)) (hr : 1 ≤ R.frames ∧ (st.map fun v => v.category).sum + 13 ≤ R.locals) (hc : k ≤ R.cells) (hs : n ≤ R.slots)
    (kk : G X E nL A Q k n (pc + 3) vs (.int (if x < y then y else x) :: st) σ) : G X E nL A Q k n pc vs (.int y :: .int x :: st) σ := by
  intro H locs ls hW hA hS hL
  exact va_mmax h.1 h.2.1 (by rw [h.2.2.1]; exact hL.1.symm) h.2.2.2.1 (h.word hw.1) (h.word hw.2.1) (h.word hw.2.2.1) (h.word hw.2.2.2) (by rw [h.2.2.2.2.2.2]; exact hr.1) (by rw [h.2.2.2.2.2.2]; exact hr.2) (by rw [h.2.2.2.2.2.2]; exact hc) (by rw [h.2.2.2.2.2.2]; exact hs) hd (kk H locs ls hW hA hS hL)
theorem g_min (h : OK X E cc own nL R) {index : Nat} {x y : Int32} (hw : lwI (.methodLink own index Lib.Math.min.name) ∧ lwI (.static Lib.Math.min.name) ∧ lwI (.initialized "java/lang/Math") ∧ lwI (.code Lib.Math.min.name Lib.Math.min.code 2 (some .int))) (hd : decode cc pc = .ok (.invokestatic index, 3)) (hr : 1 ≤ R.frames ∧ (st.map fun v => v.category).sum + 13 ≤ R.locals) (hc : k ≤ R.cells) (hs : n ≤ R.slots)
    (kk : G X E nL A Q k n (pc + 3) vs (.int (if y < x then y else x) :: st) σ) : G X E nL A Q k n pc vs (.int y :: .int x :: st) σ := by
  intro H locs ls hW hA hS hL
  exact va_mmin h.1 h.2.1 (by rw [h.2.2.1]; exact hL.1.symm) h.2.2.2.1 (h.word hw.1) (h.word hw.2.1) (h.word hw.2.2.1) (h.word hw.2.2.2) (by rw [h.2.2.2.2.2.2]; exact hr.1) (by rw [h.2.2.2.2.2.2]; exact hr.2) (by rw [h.2.2.2.2.2.2]; exact hc) (by rw [h.2.2.2.2.2.2]; exact hs) hd (kk H locs ls hW hA hS hL)
end GH
end
section
/-! contracts over the store; entry, end and calls (own work) -/
def QC (E : EnvD) (σ : Sto) (post : Option Value → Sto → Prop) : Array Value → State → Outcome → State → Prop := fun _ st oc t =>
  (∃ (r : Option Value) (σ' : Sto), oc = .returned r ∧ post r σ' ∧ Wd E σ' t.heap ∧ ∀ q, AD σ' q → AD σ q) ∧ va_F (AD σ) st t
def PC (E : EnvD) (As : List Value) (σ : Sto) : Array Value → State → Prop := va_Pc As (fun U => Wd E σ U.heap ∧ KK E U)
/-- a method's contract: from any state that the store describes -/
def CC (l : Launch) (y : MethodName) (cc : ByteArray) (maxL : Nat) (ret : Option FieldType) (rm : Room) (E : EnvD) (As : List Value) (σ : Sto) (post : Option Value → Sto → Prop) : Prop :=
  Met l y [Cond.code y cc maxL ret] rm (PC E As σ) (QC E σ post) rm.cells rm.slots (AD σ)
def QF (X : CX) (E : EnvD) (σ : Sto) (post : Option Value → Sto → Prop) (rm : Room) : State → Prop := MQ (xB X) (QC E σ post) (xA X) (xS X) rm.cells rm.slots (AD σ)
theorem cc_of {l : Launch} {y : MethodName} {cc : ByteArray} {maxL : Nat} {ret : Option FieldType} {rm : Room} {E : EnvD} {As : List Value} {σ : Sto} {post : Option Value → Sto → Prop} {vs : List (Option Value)} (hy : plainName y.cls = true) (hlen : (lg_sl As).length ≤ maxL) (hvs : entl As ++ List.replicate (maxL - (entl As).length) none = vs)
    (body : ∀ X : CX, OK X E cc y.cls maxL rm → (xH X).sig.returnType = ret → (xH X).name = y.name → G X E maxL (AD σ) (QF X E σ post rm) 0 0 0 vs [] σ) : CC l y cc maxL ret rm E As σ post := by
  refine Met.ofW (cc := cc) (maxL := maxL) (ret := ret) hy rfl ?_
  intro p e s m args below meth c s₁ B hml hv
  obtain ⟨rfl, hW, hKK⟩ := hv
  have hok : OK (p, l, e, rm, s, m, As.toArray, below, meth, c) E cc y.cls maxL rm :=
    ⟨B.exec, B.bytes, hml, findClass_of_methodNamed B.named, hKK, B.notSynchronized, rfl⟩
  have hnm : meth.name = y.name := (name_of_methodNamed B.named B.method).1
  have hb := body (p, l, e, rm, s, m, As.toArray, below, meth, c) hok B.returns hnm
  rw [lg_entry_eq]
  refine hb s.heap [] _ hW (fun q hq => hq) va_S.rf ?_
  have hl := lv_entry As (n := maxL) hlen
  refine ⟨hl.1, hl.2.1, ?_, fun i v hi => ?_⟩
  · rw [← hvs, List.length_append, List.length_replicate, entl_len]
    omega
  · rw [← hvs] at hi
    have h1 := entl_args As 0 i v (lk_app_rep _ _ _ _ hi)
    rw [Nat.zero_add] at h1
    exact hl.2.2 _ h1
section GC
variable {X : CX} {E : EnvD} {cc : ByteArray} {own : String} {nL : Nat} {R : Room} {A : Nat → Prop} {Q : State → Prop} {k n pc : Nat} {vs vs' : List (Option Value)} {st : List Value} {σ σ0 : Sto} {a : Nat} {post : Option Value → Sto → Prop}
theorem g_iret (h : OK X E cc own nL R) (hr : (xH X).sig.returnType = some .int) {v : Int32} (hd : decode cc pc = .ok (.ireturn, 1)) (hp : post (some (.int v)) σ) (h1 : k ≤ R.cells) (h2 : n ≤ R.slots) : G X E nL (AD σ0) (QF X E σ0 post R) k n pc vs [.int v] σ :=
  fun H locs ls hW hA hS hL => W.widen h1 h2 (W.iret (v := v) h.1 h.2.1 hr (fun t ht hWm => ⟨⟨_, σ, rfl, hp, by rw [ht]; exact hW, hA⟩, hS.F ht⟩) hS.2.2 hd h.2.2.2.2.2.1)
theorem g_zret (h : OK X E cc own nL R) {ty : FieldType} (hr : (xH X).sig.returnType = some ty) {v : Int32} (hn : narrow ty (.int v) = .int v) (hd : decode cc pc = .ok (.ireturn, 1)) (hp : post (some (.int v)) σ) (h1 : k ≤ R.cells) (h2 : n ≤ R.slots) : G X E nL (AD σ0) (QF X E σ0 post R) k n pc vs [.int v] σ :=
  fun H locs ls hW hA hS hL => W.widen h1 h2 (W.zret (v := v) h.1 h.2.1 hr hn (fun t ht hWm => ⟨⟨_, σ, rfl, hp, by rw [ht]; exact hW, hA⟩, hS.F ht⟩) hS.2.2 hd h.2.2.2.2.2.1)
theorem g_lret (h : OK X E cc own nL R) (hr : (xH X).sig.returnType = some .long) {v : Int64} (hd : decode cc pc = .ok (.lreturn, 1)) (hp : post (some (.long v)) σ) (h1 : k ≤ R.cells) (h2 : n ≤ R.slots) : G X E nL (AD σ0) (QF X E σ0 post R) k n pc vs [.long v] σ :=
  fun H locs ls hW hA hS hL => W.widen h1 h2 (W.lret (v := v) h.1 h.2.1 hr (fun t ht hWm => ⟨⟨_, σ, rfl, hp, by rw [ht]; exact hW, hA⟩, hS.F ht⟩) hS.2.2 hd h.2.2.2.2.2.1)
theorem g_vret (h : OK X E cc own nL R) (hr : (xH X).sig.returnType = none) (hd : decode cc pc = .ok (.return_, 1)) (hp : post none σ) (h1 : k ≤ R.cells) (h2 : n ≤ R.slots) : G X E nL (AD σ0) (QF X E σ0 post R) k n pc vs [] σ :=
  fun H locs ls hW hA hS hL => W.widen h1 h2 (W.vret h.1 h.2.1 hr (fun t ht hWm => ⟨⟨_, σ, rfl, hp, by rw [ht]; exact hW, hA⟩, hS.F ht⟩) hS.2.2 hd h.2.2.2.2.2.1)
theorem g_aret (h : OK X E cc own nL R) {C : String} (hr : (xH X).sig.returnType = some (.object C)) {v : Value} (hv : v = .null ∨ ∃ a, v = .ref a) (hd : decode cc pc = .ok (.areturn, 1)) (hp : post (some v) σ) (h1 : k ≤ R.cells) (h2 : n ≤ R.slots) : G X E nL (AD σ0) (QF X E σ0 post R) k n pc vs [v] σ :=
  fun H locs ls hW hA hS hL => W.widen h1 h2 (W.aret (v := v) h.1 h.2.1 hr (Or.inl ⟨_, rfl⟩) hv (fun t ht hWm => ⟨⟨_, σ, rfl, hp, by rw [ht]; exact hW, hA⟩, hS.F ht⟩) hS.2.2 hd h.2.2.2.2.2.1)
/-- behind a call -/
theorem g_run {rm : Room} {rest : List Value} {aa : Array Value}
    (hr : ∀ (H : Heap) (locs : List Loc) (ls : Array Slot), Wd E σ H → LV ls nL vs → va_Run (xP X) (xL X) (xE X) (xR X) (xS X) (xM X) (xA X) (xB X) (xH X) (xC X) H locs k n rm.cells rm.slots (F0 (xM X) pc ls st) rest (QC E σ post aa) (AD σ))
    (kk : ∀ (r : Option Value) (σ' : Sto), post r σ' → G X E nL A Q (k + rm.cells) (n + rm.slots) (pc + 3) vs (r.toList ++ rest) σ') : G X E nL A Q k n pc vs st σ := by
  intro H locs ls hW hA hS hL T hT Xs
  obtain ⟨v, st₀, t, T', L, h0, X', hLo, e1, e2, ⟨⟨r, σ', hv, hp, hw, hd⟩, hz, hk⟩, stp⟩ := hr H locs ls hW hL T hT Xs
  cases hv
  rw [h0] at hz hk
  obtain ⟨t2, a1, b1⟩ := kk v σ' hp T'.heap (locs ++ L) ls (by rw [e1]; exact hw) (fun q hq => hA q (hd q hq))
    ⟨Nat.le_trans hS.1 (by rw [e1]; exact hz), fun q h1 h2 => by rw [e1, hk q (Nat.lt_of_lt_of_le h1 hS.1) (fun z => h2 (hA q z))]; exact hS.2.1 q h1 h2, fun q hq => by
      rcases List.mem_append.mp hq with h | h
      · exact hS.2.2 q h
      · exact hA _ (hLo q h)⟩ hL T' rfl X'
  exact ⟨t2, stp t2 a1, b1⟩
theorem pc_blind {As : List Value} : FrameBlind (PC E As σ) := fun _ U g mk q => ⟨q.1, q.2.1, q.2.2.warm (State.WarmedH.refl U)⟩
/-- a call's words -/
def CF (own : String) (index : Nat) (y : MethodName) (cc : ByteArray) (maxL : Nat) (ret : Option FieldType) (np : Nat) : Prop :=
  lwI (.methodLink own index y) ∧ lwI (.initialized y.cls) ∧ lwI (.code y cc maxL ret) ∧ (y.cls ≠ "java/lang/invoke/MethodHandle" ∧ y.cls ≠ "java/lang/invoke/VarHandle") ∧ (parseMethodDescriptor y.desc).map (fun d => d.parameters.length) = some np
def CFn (own : String) (index : Nat) (y : MethodName) (cc : ByteArray) (maxL : Nat) (ret : Option FieldType) (np : Nat) : Prop :=
  lwI (.initialized y.cls) ∧ lwI (.code y cc maxL ret) ∧ (y.cls ≠ "java/lang/invoke/MethodHandle" ∧ y.cls ≠ "java/lang/invoke/VarHandle") ∧ (parseMethodDescriptor y.desc).map (fun d => d.parameters.length) = some np
theorem np_of {y : MethodName} {np : Nat} (h : (parseMethodDescriptor y.desc).map (fun d => d.parameters.length) = some np) : ∀ sig, parseMethodDescriptor y.desc = some sig → np = sig.parameters.length := fun sig hs => by
  rw [hs] at h
  exact (Option.some.inj h).symm
theorem code_warm (h : OK X E cc own nL R) {y : MethodName} {c2 : ByteArray} {maxL : Nat} {ret : Option FieldType} (hw : lwI (.code y c2 maxL ret)) : ∀ w ∈ [Cond.code y c2 maxL ret], ∀ (a' : Array Value) (U : State), (xS X).WarmedH U.vm → w.before a' U = true := by
  intro w hw2 a' U hWm
  rw [List.mem_singleton.mp hw2]
  exact (h.2.2.2.2.1.warm hWm).word hw a'
theorem g_callV (h : OK X E cc own nL R) {y : MethodName} {c2 : ByteArray} {index maxL np ci b : Nat} {ret : Option FieldType} {rm : Room} {As : List Value} {fs : List Value} {T : u_T} {N : Nat} (rest : List Value) (hM : CC (xL X) y c2 maxL ret rm E (.ref b :: As) σ post) (hf : CF own index y c2 maxL ret np) (hi : lwI (.instanceMethod y) ∧ lwI (.selects y.cls y y)) (hd : decode cc pc = .ok (.invokevirtual index, 3))
    (hn : As.length = np) (hσ : σ.1 b = some (.inr (ci, fs))) (hc : vwCl[ci]? = some (y.cls, T, N)) (hst : st = As.reverse ++ .ref b :: rest) (hrest : (rest.map fun v => v.category).sum ≤ 8) (hR : rm.frames + 1 ≤ R.frames ∧ 8 + (maxL + 11) + rm.locals ≤ R.locals) (hroom : k + rm.cells ≤ R.cells ∧ n + rm.slots ≤ R.slots)
    (kk : ∀ (r : Option Value) (σ' : Sto), post r σ' → G X E nL A Q (k + rm.cells) (n + rm.slots) (pc + 3) vs (r.toList ++ rest) σ') : G X E nL A Q k n pc vs st σ := by
  refine g_run (rm := rm) (rest := rest) (aa := (Value.ref b :: As).toArray) (fun H locs ls hW hL => ?_) kk
  have hP : va_P E.1 vwCl [(b, .inr (ci, fs))] H := fun i q hq => by
    have h0 : i < 1 := (List.getElem?_eq_some_iff.mp hq).1
    rw [show i = 0 by omega] at hq
    cases hq
    exact hW.1 b _ hσ
  have hK : va_K E.1 vwCl (tysE E) (xS X) := h.2.2.2.2.1.1
  exact va_runV (C := y.cls) (cc := cc) (nL := nL) (Ts := []) (own := own) (index := index) (bytes := c2) (maxL := maxL) (ret := ret) (n := np) (As := As) ⟨h.1, h.2.1, h.2.2.1, h.2.2.2.1, fun w hw => absurd hw List.not_mem_nil⟩ hM
    ⟨⟨rfl, rfl, by rw [h.2.2.2.2.2.2]; exact hR.1, by rw [h.2.2.2.2.2.2]; exact hR.2, code_warm h hf.2.2.1, List.mem_singleton.mpr rfl, h.word hf.2.2.1, h.word hf.2.1, hf.2.2.2.1, np_of hf.2.2.2.2, h.word hf.1⟩, h.word hi.1, h.word hi.2⟩
    ⟨pc_blind, va_recv hK hP hc (q0 := 0) rfl, fun U hU hWm => ⟨rfl, by rw [hU]; exact hW, h.2.2.2.2.1.warm hWm⟩⟩ rfl hn hL.1 hst (lv_room hrest) hd (by rw [h.2.2.2.2.2.2]; exact hroom)
theorem g_callS (h : OK X E cc own nL R) {y : MethodName} {c2 : ByteArray} {index maxL np : Nat} {ret : Option FieldType} {rm : Room} {As : List Value} (rest : List Value) (hM : CC (xL X) y c2 maxL ret rm E As σ post) (hf : CF own index y c2 maxL ret np) (hi : lwI (.static y)) (hd : decode cc pc = .ok (.invokestatic index, 3))
    (hn : As.length = np) (hst : st = As.reverse ++ rest) (hrest : (rest.map fun v => v.category).sum ≤ 8) (hR : rm.frames + 1 ≤ R.frames ∧ 8 + (maxL + 11) + rm.locals ≤ R.locals) (hroom : k + rm.cells ≤ R.cells ∧ n + rm.slots ≤ R.slots)
    (kk : ∀ (r : Option Value) (σ' : Sto), post r σ' → G X E nL A Q (k + rm.cells) (n + rm.slots) (pc + 3) vs (r.toList ++ rest) σ') : G X E nL A Q k n pc vs st σ := by
  refine g_run (rm := rm) (rest := rest) (aa := As.toArray) (fun H locs ls hW hL => ?_) kk
  exact va_runS (cc := cc) (nL := nL) (Ts := []) (own := own) (index := index) (bytes := c2) (maxL := maxL) (ret := ret) (n := np) (As := As) ⟨h.1, h.2.1, h.2.2.1, h.2.2.2.1, fun w hw => absurd hw List.not_mem_nil⟩ hM
    ⟨⟨rfl, rfl, by rw [h.2.2.2.2.2.2]; exact hR.1, by rw [h.2.2.2.2.2.2]; exact hR.2, code_warm h hf.2.2.1, List.mem_singleton.mpr rfl, h.word hf.2.2.1, h.word hf.2.1, hf.2.2.2.1, np_of hf.2.2.2.2, h.word hf.1⟩, h.word hi⟩
    ⟨pc_blind, fun U hU hWm => ⟨rfl, by rw [hU]; exact hW, h.2.2.2.2.1.warm hWm⟩⟩ rfl hn hL.1 hst (lv_room hrest) hd (by rw [h.2.2.2.2.2.2]; exact hroom)
theorem g_callI (h : OK X E cc own nL R) {y : MethodName} {c2 : ByteArray} {index maxL np b : Nat} {rm : Room} {As : List Value} (rest : List Value) (hM : CC (xL X) y c2 maxL none rm E (.ref b :: As) σ post) (hf : CF own index y c2 maxL none np) (hi : y.name = "<init>" ∧ lwI (.instanceMethod y)) (hd : decode cc pc = .ok (.invokespecial index, 3))
    (hn : As.length = np) (hst : st = As.reverse ++ .ref b :: rest) (hrest : (rest.map fun v => v.category).sum ≤ 8) (hR : rm.frames + 1 ≤ R.frames ∧ 8 + (maxL + 11) + rm.locals ≤ R.locals) (hroom : k + rm.cells ≤ R.cells ∧ n + rm.slots ≤ R.slots)
    (kk : ∀ (r : Option Value) (σ' : Sto), post r σ' → G X E nL A Q (k + rm.cells) (n + rm.slots) (pc + 3) vs (r.toList ++ rest) σ') : G X E nL A Q k n pc vs st σ := by
  refine g_run (rm := rm) (rest := rest) (aa := (Value.ref b :: As).toArray) (fun H locs ls hW hL => ?_) kk
  exact va_runI (cc := cc) (nL := nL) (Ts := []) (own := own) (index := index) (bytes := c2) (maxL := maxL) (n := np) (As := As) ⟨h.1, h.2.1, h.2.2.1, h.2.2.2.1, fun w hw => absurd hw List.not_mem_nil⟩ hM
    ⟨⟨rfl, rfl, by rw [h.2.2.2.2.2.2]; exact hR.1, by rw [h.2.2.2.2.2.2]; exact hR.2, code_warm h hf.2.2.1, List.mem_singleton.mpr rfl, h.word hf.2.2.1, h.word hf.2.1, hf.2.2.2.1, np_of hf.2.2.2.2, h.word hf.1⟩, hi.1, h.word hi.2⟩
    ⟨pc_blind, fun U hU hWm => ⟨rfl, by rw [hU]; exact hW, h.2.2.2.2.1.warm hWm⟩⟩ rfl hn hL.1 hst (lv_room hrest) hd (by rw [h.2.2.2.2.2.2]; exact hroom)
theorem g_callSN (h : OK X E cc own nL R) {y : MethodName} {c2 : ByteArray} {index maxL np : Nat} {host : String} {ret : Option FieldType} {rm : Room} {As : List Value} (rest : List Value) (hM : CC (xL X) y c2 maxL ret rm E As σ post) (hf : CFn own index y c2 maxL ret np) (hnest : va_Nw (.methodLinkNest own index y host) (xS X)) (hi : lwI (.static y)) (hd : decode cc pc = .ok (.invokestatic index, 3))
    (hn : As.length = np) (hst : st = As.reverse ++ rest) (hrest : (rest.map fun v => v.category).sum ≤ 8) (hR : rm.frames + 1 ≤ R.frames ∧ 8 + (maxL + 11) + rm.locals ≤ R.locals) (hroom : k + rm.cells ≤ R.cells ∧ n + rm.slots ≤ R.slots)
    (kk : ∀ (r : Option Value) (σ' : Sto), post r σ' → G X E nL A Q (k + rm.cells) (n + rm.slots) (pc + 3) vs (r.toList ++ rest) σ') : G X E nL A Q k n pc vs st σ := by
  refine g_run (rm := rm) (rest := rest) (aa := As.toArray) (fun H locs ls hW hL => ?_) kk
  exact va_runSN (cc := cc) (nL := nL) (Ts := []) (own := own) (host := host) (index := index) (bytes := c2) (maxL := maxL) (ret := ret) (n := np) (As := As) ⟨h.1, h.2.1, h.2.2.1, h.2.2.2.1, fun w hw => absurd hw List.not_mem_nil⟩ hM
    ⟨⟨⟨rfl, rfl, by rw [h.2.2.2.2.2.2]; exact hR.1, by rw [h.2.2.2.2.2.2]; exact hR.2, code_warm h hf.2.1, List.mem_singleton.mpr rfl⟩, h.word hf.2.1, h.word hf.1, hf.2.2.1, np_of hf.2.2.2, va_Nw.use rfl hnest⟩, h.word hi, trivial⟩
    ⟨pc_blind, fun U hU hWm => ⟨rfl, by rw [hU]; exact hW, h.2.2.2.2.1.warm hWm⟩⟩ rfl hn hL.1 hst (lv_room hrest) hd (by rw [h.2.2.2.2.2.2]; exact hroom)
theorem g_callIN (h : OK X E cc own nL R) {y : MethodName} {c2 : ByteArray} {index maxL np b : Nat} {host : String} {rm : Room} {As : List Value} (rest : List Value) (hM : CC (xL X) y c2 maxL none rm E (.ref b :: As) σ post) (hf : CFn own index y c2 maxL none np) (hnest : va_Nw (.methodLinkNest own index y host) (xS X)) (hi : y.name = "<init>" ∧ lwI (.instanceMethod y)) (hd : decode cc pc = .ok (.invokespecial index, 3))
    (hn : As.length = np) (hst : st = As.reverse ++ .ref b :: rest) (hrest : (rest.map fun v => v.category).sum ≤ 8) (hR : rm.frames + 1 ≤ R.frames ∧ 8 + (maxL + 11) + rm.locals ≤ R.locals) (hroom : k + rm.cells ≤ R.cells ∧ n + rm.slots ≤ R.slots)
    (kk : ∀ (r : Option Value) (σ' : Sto), post r σ' → G X E nL A Q (k + rm.cells) (n + rm.slots) (pc + 3) vs (r.toList ++ rest) σ') : G X E nL A Q k n pc vs st σ := by
  refine g_run (rm := rm) (rest := rest) (aa := (Value.ref b :: As).toArray) (fun H locs ls hW hL => ?_) kk
  exact va_runIN (cc := cc) (nL := nL) (Ts := []) (own := own) (host := host) (index := index) (bytes := c2) (maxL := maxL) (n := np) (As := As) ⟨h.1, h.2.1, h.2.2.1, h.2.2.2.1, fun w hw => absurd hw List.not_mem_nil⟩ hM
    ⟨⟨⟨rfl, rfl, by rw [h.2.2.2.2.2.2]; exact hR.1, by rw [h.2.2.2.2.2.2]; exact hR.2, code_warm h hf.2.1, List.mem_singleton.mpr rfl⟩, h.word hf.2.1, h.word hf.1, hf.2.2.1, np_of hf.2.2.2, va_Nw.use rfl hnest⟩, hi.1, h.word hi.2⟩
    ⟨pc_blind, fun U hU hWm => ⟨rfl, by rw [hU]; exact hW, h.2.2.2.2.1.warm hWm⟩⟩ rfl hn hL.1 hst (lv_room hrest) hd (by rw [h.2.2.2.2.2.2]; exact hroom)
end GC
end
section
/-! facts of the tables: written by a short program -/
theorem li_15 : lwI (.methodLink "PlayReader" 1 ⟨"java/lang/Object", "<init>", "()V"⟩) := ⟨List.mem_append_right _ (List.mem_of_getElem? (i := 15) (by decide +kernel)), rfl⟩
theorem li_16 : lwI (.instanceMethod ⟨"java/lang/Object", "<init>", "()V"⟩) := ⟨List.mem_append_right _ (List.mem_of_getElem? (i := 16) (by decide +kernel)), rfl⟩
theorem li_17 : lwI (.code ⟨"java/lang/Object", "<init>", "()V"⟩ object_method_1_code 1 none) := ⟨List.mem_append_right _ (List.mem_of_getElem? (i := 17) (by decide +kernel)), rfl⟩
theorem li_18 : lwI (.classLink "PlayReader" 9 "PlayReader$Row") := ⟨List.mem_append_right _ (List.mem_of_getElem? (i := 18) (by decide +kernel)), rfl⟩
theorem li_72 : lwI (.fieldLink "PlayReader" 11 "PlayReader" "versions" "[LPlayReader$Row;") := ⟨List.mem_append_right _ (List.mem_of_getElem? (i := 72) (by decide +kernel)), rfl⟩
theorem li_73 : lwI (.fieldLink "PlayReader" 15 "PlayReader" "performances" "[LPlayReader$Row;") := ⟨List.mem_append_right _ (List.mem_of_getElem? (i := 73) (by decide +kernel)), rfl⟩
theorem li_20 : lwI (.classLink "PlayReader" 18 "PlayReader$Condition") := ⟨List.mem_append_right _ (List.mem_of_getElem? (i := 20) (by decide +kernel)), rfl⟩
theorem li_74 : lwI (.fieldLink "PlayReader" 20 "PlayReader" "conditions" "[LPlayReader$Condition;") := ⟨List.mem_append_right _ (List.mem_of_getElem? (i := 74) (by decide +kernel)), rfl⟩
theorem li_22 : lwI (.classLink "PlayReader" 24 "PlayReader$Rule") := ⟨List.mem_append_right _ (List.mem_of_getElem? (i := 22) (by decide +kernel)), rfl⟩
theorem li_75 : lwI (.fieldLink "PlayReader" 26 "PlayReader" "rules" "[LPlayReader$Rule;") := ⟨List.mem_append_right _ (List.mem_of_getElem? (i := 75) (by decide +kernel)), rfl⟩
theorem li_36 : lwI (.arrayClass .int) := ⟨List.mem_append_right _ (List.mem_of_getElem? (i := 36) (by decide +kernel)), rfl⟩
theorem li_76 : lwI (.fieldLink "PlayReader" 30 "PlayReader" "marks" "[I") := ⟨List.mem_append_right _ (List.mem_of_getElem? (i := 76) (by decide +kernel)), rfl⟩
theorem li_24 : lwI (.classLink "PlayReader" 34 "PlayReader$Changes") := ⟨List.mem_append_right _ (List.mem_of_getElem? (i := 24) (by decide +kernel)), rfl⟩
theorem li_25 : lwI (.instantiable "PlayReader$Changes" 1) := ⟨List.mem_append_right _ (List.mem_of_getElem? (i := 25) (by decide +kernel)), rfl⟩
theorem li_2 : lwI (.initialized "PlayReader$Changes") := ⟨List.mem_append_right _ (List.mem_of_getElem? (i := 2) (by decide +kernel)), rfl⟩
theorem li_28 : lwI (.code ⟨"PlayReader$Changes", "<init>", "()V"⟩ prog_2_method_1_code 1 none) := ⟨List.mem_append_right _ (List.mem_of_getElem? (i := 28) (by decide +kernel)), rfl⟩
theorem li_27 : lwI (.instanceMethod ⟨"PlayReader$Changes", "<init>", "()V"⟩) := ⟨List.mem_append_right _ (List.mem_of_getElem? (i := 27) (by decide +kernel)), rfl⟩
theorem li_77 : lwI (.fieldLink "PlayReader" 37 "PlayReader" "changes" "LPlayReader$Changes;") := ⟨List.mem_append_right _ (List.mem_of_getElem? (i := 77) (by decide +kernel)), rfl⟩
theorem li_37 : lwI (.classLink "PlayReader" 41 "PlayReader$TourPlan") := ⟨List.mem_append_right _ (List.mem_of_getElem? (i := 37) (by decide +kernel)), rfl⟩
theorem li_38 : lwI (.instantiable "PlayReader$TourPlan" 3) := ⟨List.mem_append_right _ (List.mem_of_getElem? (i := 38) (by decide +kernel)), rfl⟩
theorem li_3 : lwI (.initialized "PlayReader$TourPlan") := ⟨List.mem_append_right _ (List.mem_of_getElem? (i := 3) (by decide +kernel)), rfl⟩
theorem li_41 : lwI (.code ⟨"PlayReader$TourPlan", "<init>", "()V"⟩ prog_6_method_1_code 1 none) := ⟨List.mem_append_right _ (List.mem_of_getElem? (i := 41) (by decide +kernel)), rfl⟩
theorem li_40 : lwI (.instanceMethod ⟨"PlayReader$TourPlan", "<init>", "()V"⟩) := ⟨List.mem_append_right _ (List.mem_of_getElem? (i := 40) (by decide +kernel)), rfl⟩
theorem li_78 : lwI (.fieldLink "PlayReader" 44 "PlayReader" "latestTour" "LPlayReader$TourPlan;") := ⟨List.mem_append_right _ (List.mem_of_getElem? (i := 78) (by decide +kernel)), rfl⟩
theorem li_44 : lwI (.instantiable "PlayReader$Row" 2) := ⟨List.mem_append_right _ (List.mem_of_getElem? (i := 44) (by decide +kernel)), rfl⟩
theorem li_4 : lwI (.initialized "PlayReader$Row") := ⟨List.mem_append_right _ (List.mem_of_getElem? (i := 4) (by decide +kernel)), rfl⟩
theorem li_47 : lwI (.code ⟨"PlayReader$Row", "<init>", "()V"⟩ prog_4_method_1_code 1 none) := ⟨List.mem_append_right _ (List.mem_of_getElem? (i := 47) (by decide +kernel)), rfl⟩
theorem li_46 : lwI (.instanceMethod ⟨"PlayReader$Row", "<init>", "()V"⟩) := ⟨List.mem_append_right _ (List.mem_of_getElem? (i := 46) (by decide +kernel)), rfl⟩
theorem li_79 : lwI (.fieldLink "PlayReader" 49 "PlayReader" "twoEars" "LPlayReader$Row;") := ⟨List.mem_append_right _ (List.mem_of_getElem? (i := 79) (by decide +kernel)), rfl⟩
theorem li_80 : lwI (.fieldLink "PlayReader" 53 "PlayReader" "conditionCount" "I") := ⟨List.mem_append_right _ (List.mem_of_getElem? (i := 80) (by decide +kernel)), rfl⟩
theorem li_81 : lwI (.fieldLink "PlayReader" 57 "PlayReader" "ruleCount" "I") := ⟨List.mem_append_right _ (List.mem_of_getElem? (i := 81) (by decide +kernel)), rfl⟩
theorem li_29 : lwI (.methodLink "PlayReader$Changes" 3 ⟨"java/lang/Object", "<init>", "()V"⟩) := ⟨List.mem_append_right _ (List.mem_of_getElem? (i := 29) (by decide +kernel)), rfl⟩
theorem li_30 : lwI (.classLink "PlayReader$Changes" 9 "[[I") := ⟨List.mem_append_right _ (List.mem_of_getElem? (i := 30) (by decide +kernel)), rfl⟩
theorem li_32 : lwI (.fieldLink "PlayReader$Changes" 11 "PlayReader$Changes" "left" "[[I") := ⟨List.mem_append_right _ (List.mem_of_getElem? (i := 32) (by decide +kernel)), rfl⟩
theorem li_42 : lwI (.methodLink "PlayReader$TourPlan" 3 ⟨"java/lang/Object", "<init>", "()V"⟩) := ⟨List.mem_append_right _ (List.mem_of_getElem? (i := 42) (by decide +kernel)), rfl⟩
theorem li_43 : lwI (.classLink "PlayReader$TourPlan" 9 "PlayReader$Row") := ⟨List.mem_append_right _ (List.mem_of_getElem? (i := 43) (by decide +kernel)), rfl⟩
theorem li_60 : lwI (.fieldLink "PlayReader$TourPlan" 12 "PlayReader$TourPlan" "order" "LPlayReader$Row;") := ⟨List.mem_append_right _ (List.mem_of_getElem? (i := 60) (by decide +kernel)), rfl⟩
theorem li_59 : lwI (.classLink "PlayReader$TourPlan" 18 "[[I") := ⟨List.mem_append_right _ (List.mem_of_getElem? (i := 59) (by decide +kernel)), rfl⟩
theorem li_62 : lwI (.fieldLink "PlayReader$TourPlan" 20 "PlayReader$TourPlan" "cuts" "[[I") := ⟨List.mem_append_right _ (List.mem_of_getElem? (i := 62) (by decide +kernel)), rfl⟩
theorem li_63 : lwI (.fieldLink "PlayReader$TourPlan" 23 "PlayReader$TourPlan" "fewest" "[I") := ⟨List.mem_append_right _ (List.mem_of_getElem? (i := 63) (by decide +kernel)), rfl⟩
theorem li_48 : lwI (.methodLink "PlayReader$Row" 3 ⟨"java/lang/Object", "<init>", "()V"⟩) := ⟨List.mem_append_right _ (List.mem_of_getElem? (i := 48) (by decide +kernel)), rfl⟩
theorem li_49 : lwI (.fieldLink "PlayReader$Row" 9 "PlayReader$Row" "things" "[I") := ⟨List.mem_append_right _ (List.mem_of_getElem? (i := 49) (by decide +kernel)), rfl⟩
theorem li_50 : lwI (.fieldLink "PlayReader$Row" 15 "PlayReader$Row" "size" "I") := ⟨List.mem_append_right _ (List.mem_of_getElem? (i := 50) (by decide +kernel)), rfl⟩
theorem li_109 : lwI (.code ⟨"PlayReader", "rowOf", "([LPlayReader$Row;I)LPlayReader$Row;"⟩ prog_1_method_31_code 2 (some (.object "PlayReader$Row"))) := ⟨List.mem_append_right _ (List.mem_of_getElem? (i := 109) (by decide +kernel)), rfl⟩
theorem li_1 : lwI (.initialized "PlayReader") := ⟨List.mem_append_right _ (List.mem_of_getElem? (i := 1) (by decide +kernel)), rfl⟩
theorem li_107 : lwI (.methodLink "PlayReader" 60 ⟨"PlayReader", "rowOf", "([LPlayReader$Row;I)LPlayReader$Row;"⟩) := ⟨List.mem_append_right _ (List.mem_of_getElem? (i := 107) (by decide +kernel)), rfl⟩
theorem li_108 : lwI (.static ⟨"PlayReader", "rowOf", "([LPlayReader$Row;I)LPlayReader$Row;"⟩) := ⟨List.mem_append_right _ (List.mem_of_getElem? (i := 108) (by decide +kernel)), rfl⟩
theorem li_52 : lwI (.fieldLink "PlayReader" 64 "PlayReader$Row" "size" "I") := ⟨List.mem_append_right _ (List.mem_of_getElem? (i := 52) (by decide +kernel)), rfl⟩
theorem li_112 : lwI (.code ⟨"PlayReader", "isLine", "(I)Z"⟩ prog_1_method_27_code 1 (some .boolean)) := ⟨List.mem_append_right _ (List.mem_of_getElem? (i := 112) (by decide +kernel)), rfl⟩
theorem li_110 : lwI (.methodLink "PlayReader" 67 ⟨"PlayReader", "isLine", "(I)Z"⟩) := ⟨List.mem_append_right _ (List.mem_of_getElem? (i := 110) (by decide +kernel)), rfl⟩
theorem li_111 : lwI (.static ⟨"PlayReader", "isLine", "(I)Z"⟩) := ⟨List.mem_append_right _ (List.mem_of_getElem? (i := 111) (by decide +kernel)), rfl⟩
theorem li_116 : lwI (.code ⟨"PlayReader$Row", "isFull", "()Z"⟩ prog_4_method_4_code 1 (some .boolean)) := ⟨List.mem_append_right _ (List.mem_of_getElem? (i := 116) (by decide +kernel)), rfl⟩
theorem li_113 : lwI (.methodLink "PlayReader" 71 ⟨"PlayReader$Row", "isFull", "()Z"⟩) := ⟨List.mem_append_right _ (List.mem_of_getElem? (i := 113) (by decide +kernel)), rfl⟩
theorem li_114 : lwI (.instanceMethod ⟨"PlayReader$Row", "isFull", "()Z"⟩) := ⟨List.mem_append_right _ (List.mem_of_getElem? (i := 114) (by decide +kernel)), rfl⟩
theorem li_115 : lwI (.selects "PlayReader$Row" ⟨"PlayReader$Row", "isFull", "()Z"⟩ ⟨"PlayReader$Row", "isFull", "()Z"⟩) := ⟨List.mem_append_right _ (List.mem_of_getElem? (i := 115) (by decide +kernel)), rfl⟩
theorem li_120 : lwI (.code ⟨"PlayReader$Row", "insert", "(II)V"⟩ prog_4_method_5_code 4 none) := ⟨List.mem_append_right _ (List.mem_of_getElem? (i := 120) (by decide +kernel)), rfl⟩
theorem li_117 : lwI (.methodLink "PlayReader" 75 ⟨"PlayReader$Row", "insert", "(II)V"⟩) := ⟨List.mem_append_right _ (List.mem_of_getElem? (i := 117) (by decide +kernel)), rfl⟩
theorem li_118 : lwI (.instanceMethod ⟨"PlayReader$Row", "insert", "(II)V"⟩) := ⟨List.mem_append_right _ (List.mem_of_getElem? (i := 118) (by decide +kernel)), rfl⟩
theorem li_119 : lwI (.selects "PlayReader$Row" ⟨"PlayReader$Row", "insert", "(II)V"⟩ ⟨"PlayReader$Row", "insert", "(II)V"⟩) := ⟨List.mem_append_right _ (List.mem_of_getElem? (i := 119) (by decide +kernel)), rfl⟩
theorem li_121 : lwI (.methodLink "PlayReader$Row" 23 ⟨"PlayReader$Row", "isFull", "()Z"⟩) := ⟨List.mem_append_right _ (List.mem_of_getElem? (i := 121) (by decide +kernel)), rfl⟩
theorem li_129 : lwI (.code ⟨"PlayReader$Row", "has", "(I)Z"⟩ prog_4_method_2_code 2 (some .boolean)) := ⟨List.mem_append_right _ (List.mem_of_getElem? (i := 129) (by decide +kernel)), rfl⟩
theorem li_126 : lwI (.methodLink "PlayReader" 79 ⟨"PlayReader$Row", "has", "(I)Z"⟩) := ⟨List.mem_append_right _ (List.mem_of_getElem? (i := 126) (by decide +kernel)), rfl⟩
theorem li_127 : lwI (.instanceMethod ⟨"PlayReader$Row", "has", "(I)Z"⟩) := ⟨List.mem_append_right _ (List.mem_of_getElem? (i := 127) (by decide +kernel)), rfl⟩
theorem li_128 : lwI (.selects "PlayReader$Row" ⟨"PlayReader$Row", "has", "(I)Z"⟩ ⟨"PlayReader$Row", "has", "(I)Z"⟩) := ⟨List.mem_append_right _ (List.mem_of_getElem? (i := 128) (by decide +kernel)), rfl⟩
theorem li_133 : lwI (.code ⟨"PlayReader$Row", "at", "(I)I"⟩ prog_4_method_3_code 2 (some .int)) := ⟨List.mem_append_right _ (List.mem_of_getElem? (i := 133) (by decide +kernel)), rfl⟩
theorem li_130 : lwI (.methodLink "PlayReader" 82 ⟨"PlayReader$Row", "at", "(I)I"⟩) := ⟨List.mem_append_right _ (List.mem_of_getElem? (i := 130) (by decide +kernel)), rfl⟩
theorem li_131 : lwI (.instanceMethod ⟨"PlayReader$Row", "at", "(I)I"⟩) := ⟨List.mem_append_right _ (List.mem_of_getElem? (i := 131) (by decide +kernel)), rfl⟩
theorem li_132 : lwI (.selects "PlayReader$Row" ⟨"PlayReader$Row", "at", "(I)I"⟩ ⟨"PlayReader$Row", "at", "(I)I"⟩) := ⟨List.mem_append_right _ (List.mem_of_getElem? (i := 132) (by decide +kernel)), rfl⟩
theorem li_138 : lwI (.code ⟨"PlayReader$Row", "remove", "(I)V"⟩ prog_4_method_6_code 3 none) := ⟨List.mem_append_right _ (List.mem_of_getElem? (i := 138) (by decide +kernel)), rfl⟩
theorem li_135 : lwI (.methodLink "PlayReader" 86 ⟨"PlayReader$Row", "remove", "(I)V"⟩) := ⟨List.mem_append_right _ (List.mem_of_getElem? (i := 135) (by decide +kernel)), rfl⟩
theorem li_136 : lwI (.instanceMethod ⟨"PlayReader$Row", "remove", "(I)V"⟩) := ⟨List.mem_append_right _ (List.mem_of_getElem? (i := 136) (by decide +kernel)), rfl⟩
theorem li_137 : lwI (.selects "PlayReader$Row" ⟨"PlayReader$Row", "remove", "(I)V"⟩ ⟨"PlayReader$Row", "remove", "(I)V"⟩) := ⟨List.mem_append_right _ (List.mem_of_getElem? (i := 137) (by decide +kernel)), rfl⟩
theorem li_134 : lwI (.methodLink "PlayReader$Row" 19 ⟨"PlayReader$Row", "has", "(I)Z"⟩) := ⟨List.mem_append_right _ (List.mem_of_getElem? (i := 134) (by decide +kernel)), rfl⟩
theorem li_146 : lwI (.code ⟨"PlayReader$Row", "become", "(LPlayReader$Row;)V"⟩ prog_4_method_8_code 3 none) := ⟨List.mem_append_right _ (List.mem_of_getElem? (i := 146) (by decide +kernel)), rfl⟩
theorem li_143 : lwI (.methodLink "PlayReader" 90 ⟨"PlayReader$Row", "become", "(LPlayReader$Row;)V"⟩) := ⟨List.mem_append_right _ (List.mem_of_getElem? (i := 143) (by decide +kernel)), rfl⟩
theorem li_144 : lwI (.instanceMethod ⟨"PlayReader$Row", "become", "(LPlayReader$Row;)V"⟩) := ⟨List.mem_append_right _ (List.mem_of_getElem? (i := 144) (by decide +kernel)), rfl⟩
theorem li_145 : lwI (.selects "PlayReader$Row" ⟨"PlayReader$Row", "become", "(LPlayReader$Row;)V"⟩ ⟨"PlayReader$Row", "become", "(LPlayReader$Row;)V"⟩) := ⟨List.mem_append_right _ (List.mem_of_getElem? (i := 145) (by decide +kernel)), rfl⟩
theorem li_147 : lwI (.methodLink "PlayReader$Row" 27 ⟨"PlayReader$Row", "at", "(I)I"⟩) := ⟨List.mem_append_right _ (List.mem_of_getElem? (i := 147) (by decide +kernel)), rfl⟩
theorem li_159 : lwI (.code ⟨"PlayReader$Changes", "compare", "(LPlayReader$Row;LPlayReader$Row;)V"⟩ prog_2_method_2_code 5 none) := ⟨List.mem_append_right _ (List.mem_of_getElem? (i := 159) (by decide +kernel)), rfl⟩
theorem li_156 : lwI (.methodLink "PlayReader" 94 ⟨"PlayReader$Changes", "compare", "(LPlayReader$Row;LPlayReader$Row;)V"⟩) := ⟨List.mem_append_right _ (List.mem_of_getElem? (i := 156) (by decide +kernel)), rfl⟩
theorem li_157 : lwI (.instanceMethod ⟨"PlayReader$Changes", "compare", "(LPlayReader$Row;LPlayReader$Row;)V"⟩) := ⟨List.mem_append_right _ (List.mem_of_getElem? (i := 157) (by decide +kernel)), rfl⟩
theorem li_158 : lwI (.selects "PlayReader$Changes" ⟨"PlayReader$Changes", "compare", "(LPlayReader$Row;LPlayReader$Row;)V"⟩ ⟨"PlayReader$Changes", "compare", "(LPlayReader$Row;LPlayReader$Row;)V"⟩) := ⟨List.mem_append_right _ (List.mem_of_getElem? (i := 158) (by decide +kernel)), rfl⟩
theorem li_176 : lwI (.code ⟨"PlayReader$Changes", "difference", "()I"⟩ prog_2_method_3_code 1 (some .int)) := ⟨List.mem_append_right _ (List.mem_of_getElem? (i := 176) (by decide +kernel)), rfl⟩
theorem li_173 : lwI (.methodLink "PlayReader" 98 ⟨"PlayReader$Changes", "difference", "()I"⟩) := ⟨List.mem_append_right _ (List.mem_of_getElem? (i := 173) (by decide +kernel)), rfl⟩
theorem li_174 : lwI (.instanceMethod ⟨"PlayReader$Changes", "difference", "()I"⟩) := ⟨List.mem_append_right _ (List.mem_of_getElem? (i := 174) (by decide +kernel)), rfl⟩
theorem li_175 : lwI (.selects "PlayReader$Changes" ⟨"PlayReader$Changes", "difference", "()I"⟩ ⟨"PlayReader$Changes", "difference", "()I"⟩) := ⟨List.mem_append_right _ (List.mem_of_getElem? (i := 175) (by decide +kernel)), rfl⟩
theorem li_51 : lwI (.fieldLink "PlayReader$Changes" 16 "PlayReader$Row" "size" "I") := ⟨List.mem_append_right _ (List.mem_of_getElem? (i := 51) (by decide +kernel)), rfl⟩
theorem li_163 : lwI (.code ⟨"PlayReader$Changes", "differenceFrom", "(LPlayReader$Row;ILPlayReader$Row;I)I"⟩ prog_2_method_5_code 5 (some .int)) := ⟨List.mem_append_right _ (List.mem_of_getElem? (i := 163) (by decide +kernel)), rfl⟩
theorem li_160 : lwI (.methodLink "PlayReader$Changes" 22 ⟨"PlayReader$Changes", "differenceFrom", "(LPlayReader$Row;ILPlayReader$Row;I)I"⟩) := ⟨List.mem_append_right _ (List.mem_of_getElem? (i := 160) (by decide +kernel)), rfl⟩
theorem li_161 : lwI (.instanceMethod ⟨"PlayReader$Changes", "differenceFrom", "(LPlayReader$Row;ILPlayReader$Row;I)I"⟩) := ⟨List.mem_append_right _ (List.mem_of_getElem? (i := 161) (by decide +kernel)), rfl⟩
theorem li_162 : lwI (.selects "PlayReader$Changes" ⟨"PlayReader$Changes", "differenceFrom", "(LPlayReader$Row;ILPlayReader$Row;I)I"⟩ ⟨"PlayReader$Changes", "differenceFrom", "(LPlayReader$Row;ILPlayReader$Row;I)I"⟩) := ⟨List.mem_append_right _ (List.mem_of_getElem? (i := 162) (by decide +kernel)), rfl⟩
theorem li_164 : lwI (.methodLink "PlayReader$Changes" 30 ⟨"PlayReader$Row", "has", "(I)Z"⟩) := ⟨List.mem_append_right _ (List.mem_of_getElem? (i := 164) (by decide +kernel)), rfl⟩
theorem li_165 : lwI (.methodLink "PlayReader$Changes" 34 ⟨"PlayReader$Row", "at", "(I)I"⟩) := ⟨List.mem_append_right _ (List.mem_of_getElem? (i := 165) (by decide +kernel)), rfl⟩
theorem li_169 : lwI (.code ⟨"PlayReader$Changes", "leftFrom", "(II)I"⟩ prog_2_method_4_code 3 (some .int)) := ⟨List.mem_append_right _ (List.mem_of_getElem? (i := 169) (by decide +kernel)), rfl⟩
theorem li_166 : lwI (.methodLink "PlayReader$Changes" 26 ⟨"PlayReader$Changes", "leftFrom", "(II)I"⟩) := ⟨List.mem_append_right _ (List.mem_of_getElem? (i := 166) (by decide +kernel)), rfl⟩
theorem li_167 : lwI (.instanceMethod ⟨"PlayReader$Changes", "leftFrom", "(II)I"⟩) := ⟨List.mem_append_right _ (List.mem_of_getElem? (i := 167) (by decide +kernel)), rfl⟩
theorem li_168 : lwI (.selects "PlayReader$Changes" ⟨"PlayReader$Changes", "leftFrom", "(II)I"⟩ ⟨"PlayReader$Changes", "leftFrom", "(II)I"⟩) := ⟨List.mem_append_right _ (List.mem_of_getElem? (i := 168) (by decide +kernel)), rfl⟩
theorem li_170 : lwI (.methodLink "PlayReader$Changes" 38 ⟨"java/lang/Math", "min", "(II)I"⟩) := ⟨List.mem_append_right _ (List.mem_of_getElem? (i := 170) (by decide +kernel)), rfl⟩
theorem li_171 : lwI (.static ⟨"java/lang/Math", "min", "(II)I"⟩) := ⟨List.mem_append_right _ (List.mem_of_getElem? (i := 171) (by decide +kernel)), rfl⟩
theorem li_6 : lwI (.initialized "java/lang/Math") := ⟨List.mem_append_right _ (List.mem_of_getElem? (i := 6) (by decide +kernel)), rfl⟩
theorem li_172 : lwI (.code ⟨"java/lang/Math", "min", "(II)I"⟩ prog_10_method_69_code 2 (some .int)) := ⟨List.mem_append_right _ (List.mem_of_getElem? (i := 172) (by decide +kernel)), rfl⟩
theorem li_184 : lwI (.code ⟨"PlayReader$Changes", "stepAt", "(LPlayReader$Row;LPlayReader$Row;I)I"⟩ prog_2_method_6_code 8 (some .int)) := ⟨List.mem_append_right _ (List.mem_of_getElem? (i := 184) (by decide +kernel)), rfl⟩
theorem li_181 : lwI (.methodLink "PlayReader" 102 ⟨"PlayReader$Changes", "stepAt", "(LPlayReader$Row;LPlayReader$Row;I)I"⟩) := ⟨List.mem_append_right _ (List.mem_of_getElem? (i := 181) (by decide +kernel)), rfl⟩
theorem li_182 : lwI (.instanceMethod ⟨"PlayReader$Changes", "stepAt", "(LPlayReader$Row;LPlayReader$Row;I)I"⟩) := ⟨List.mem_append_right _ (List.mem_of_getElem? (i := 182) (by decide +kernel)), rfl⟩
theorem li_183 : lwI (.selects "PlayReader$Changes" ⟨"PlayReader$Changes", "stepAt", "(LPlayReader$Row;LPlayReader$Row;I)I"⟩ ⟨"PlayReader$Changes", "stepAt", "(LPlayReader$Row;LPlayReader$Row;I)I"⟩) := ⟨List.mem_append_right _ (List.mem_of_getElem? (i := 183) (by decide +kernel)), rfl⟩
theorem li_188 : lwI (.code ⟨"PlayReader$Changes", "stepFrom", "(LPlayReader$Row;ILPlayReader$Row;I)I"⟩ prog_2_method_7_code 6 (some .int)) := ⟨List.mem_append_right _ (List.mem_of_getElem? (i := 188) (by decide +kernel)), rfl⟩
theorem li_185 : lwI (.methodLink "PlayReader$Changes" 43 ⟨"PlayReader$Changes", "stepFrom", "(LPlayReader$Row;ILPlayReader$Row;I)I"⟩) := ⟨List.mem_append_right _ (List.mem_of_getElem? (i := 185) (by decide +kernel)), rfl⟩
theorem li_186 : lwI (.instanceMethod ⟨"PlayReader$Changes", "stepFrom", "(LPlayReader$Row;ILPlayReader$Row;I)I"⟩) := ⟨List.mem_append_right _ (List.mem_of_getElem? (i := 186) (by decide +kernel)), rfl⟩
theorem li_187 : lwI (.selects "PlayReader$Changes" ⟨"PlayReader$Changes", "stepFrom", "(LPlayReader$Row;ILPlayReader$Row;I)I"⟩ ⟨"PlayReader$Changes", "stepFrom", "(LPlayReader$Row;ILPlayReader$Row;I)I"⟩) := ⟨List.mem_append_right _ (List.mem_of_getElem? (i := 187) (by decide +kernel)), rfl⟩
theorem li_193 : lwI (.instantiable "PlayReader$Condition" 3) := ⟨List.mem_append_right _ (List.mem_of_getElem? (i := 193) (by decide +kernel)), rfl⟩
theorem li_7 : lwI (.initialized "PlayReader$Condition") := ⟨List.mem_append_right _ (List.mem_of_getElem? (i := 7) (by decide +kernel)), rfl⟩
theorem li_196 : lwI (.code ⟨"PlayReader$Condition", "<init>", "(III)V"⟩ prog_3_method_1_code 4 none) := ⟨List.mem_append_right _ (List.mem_of_getElem? (i := 196) (by decide +kernel)), rfl⟩
theorem li_194 : lwI (.methodLink "PlayReader" 106 ⟨"PlayReader$Condition", "<init>", "(III)V"⟩) := ⟨List.mem_append_right _ (List.mem_of_getElem? (i := 194) (by decide +kernel)), rfl⟩
theorem li_195 : lwI (.instanceMethod ⟨"PlayReader$Condition", "<init>", "(III)V"⟩) := ⟨List.mem_append_right _ (List.mem_of_getElem? (i := 195) (by decide +kernel)), rfl⟩
theorem li_197 : lwI (.methodLink "PlayReader$Condition" 3 ⟨"java/lang/Object", "<init>", "()V"⟩) := ⟨List.mem_append_right _ (List.mem_of_getElem? (i := 197) (by decide +kernel)), rfl⟩
theorem li_198 : lwI (.fieldLink "PlayReader$Condition" 9 "PlayReader$Condition" "sort" "I") := ⟨List.mem_append_right _ (List.mem_of_getElem? (i := 198) (by decide +kernel)), rfl⟩
theorem li_200 : lwI (.fieldLink "PlayReader$Condition" 15 "PlayReader$Condition" "x" "I") := ⟨List.mem_append_right _ (List.mem_of_getElem? (i := 200) (by decide +kernel)), rfl⟩
theorem li_202 : lwI (.fieldLink "PlayReader$Condition" 18 "PlayReader$Condition" "y" "I") := ⟨List.mem_append_right _ (List.mem_of_getElem? (i := 202) (by decide +kernel)), rfl⟩
theorem li_222 : lwI (.code ⟨"PlayReader", "conditionOf", "(I)LPlayReader$Condition;"⟩ prog_1_method_32_code 2 (some (.object "PlayReader$Condition"))) := ⟨List.mem_append_right _ (List.mem_of_getElem? (i := 222) (by decide +kernel)), rfl⟩
theorem li_219 : lwI (.methodLink "PlayReader" 109 ⟨"PlayReader", "conditionOf", "(I)LPlayReader$Condition;"⟩) := ⟨List.mem_append_right _ (List.mem_of_getElem? (i := 219) (by decide +kernel)), rfl⟩
theorem li_221 : lwI (.instanceMethod ⟨"PlayReader", "conditionOf", "(I)LPlayReader$Condition;"⟩) := ⟨List.mem_append_right _ (List.mem_of_getElem? (i := 221) (by decide +kernel)), rfl⟩
theorem ls_0 : lwI (.selects "PlayReader" ⟨"PlayReader", "conditionOf", "(I)LPlayReader$Condition;"⟩ ⟨"PlayReader", "conditionOf", "(I)LPlayReader$Condition;"⟩) := ⟨List.mem_append_left _ (List.mem_of_getElem? (i := 0) (by decide +kernel)), rfl⟩
theorem li_225 : lwI (.code ⟨"PlayReader", "judgementOf", "(LPlayReader$Row;LPlayReader$Condition;)I"⟩ prog_1_method_35_code 2 (some .int)) := ⟨List.mem_append_right _ (List.mem_of_getElem? (i := 225) (by decide +kernel)), rfl⟩
theorem li_223 : lwI (.methodLink "PlayReader" 113 ⟨"PlayReader", "judgementOf", "(LPlayReader$Row;LPlayReader$Condition;)I"⟩) := ⟨List.mem_append_right _ (List.mem_of_getElem? (i := 223) (by decide +kernel)), rfl⟩
theorem li_224 : lwI (.static ⟨"PlayReader", "judgementOf", "(LPlayReader$Row;LPlayReader$Condition;)I"⟩) := ⟨List.mem_append_right _ (List.mem_of_getElem? (i := 224) (by decide +kernel)), rfl⟩
theorem li_229 : lwI (.code ⟨"PlayReader$Condition", "judgement", "(LPlayReader$Row;)I"⟩ prog_3_method_2_code 7 (some .int)) := ⟨List.mem_append_right _ (List.mem_of_getElem? (i := 229) (by decide +kernel)), rfl⟩
theorem li_226 : lwI (.methodLink "PlayReader" 212 ⟨"PlayReader$Condition", "judgement", "(LPlayReader$Row;)I"⟩) := ⟨List.mem_append_right _ (List.mem_of_getElem? (i := 226) (by decide +kernel)), rfl⟩
theorem li_227 : lwI (.instanceMethod ⟨"PlayReader$Condition", "judgement", "(LPlayReader$Row;)I"⟩) := ⟨List.mem_append_right _ (List.mem_of_getElem? (i := 227) (by decide +kernel)), rfl⟩
theorem li_228 : lwI (.selects "PlayReader$Condition" ⟨"PlayReader$Condition", "judgement", "(LPlayReader$Row;)I"⟩ ⟨"PlayReader$Condition", "judgement", "(LPlayReader$Row;)I"⟩) := ⟨List.mem_append_right _ (List.mem_of_getElem? (i := 228) (by decide +kernel)), rfl⟩
theorem li_233 : lwI (.code ⟨"PlayReader$Condition", "statesBehind", "(LPlayReader$Row;)J"⟩ prog_3_method_3_code 6 (some .long)) := ⟨List.mem_append_right _ (List.mem_of_getElem? (i := 233) (by decide +kernel)), rfl⟩
theorem li_230 : lwI (.methodLink "PlayReader$Condition" 21 ⟨"PlayReader$Condition", "statesBehind", "(LPlayReader$Row;)J"⟩) := ⟨List.mem_append_right _ (List.mem_of_getElem? (i := 230) (by decide +kernel)), rfl⟩
theorem li_231 : lwI (.instanceMethod ⟨"PlayReader$Condition", "statesBehind", "(LPlayReader$Row;)J"⟩) := ⟨List.mem_append_right _ (List.mem_of_getElem? (i := 231) (by decide +kernel)), rfl⟩
theorem li_232 : lwI (.selects "PlayReader$Condition" ⟨"PlayReader$Condition", "statesBehind", "(LPlayReader$Row;)J"⟩ ⟨"PlayReader$Condition", "statesBehind", "(LPlayReader$Row;)J"⟩) := ⟨List.mem_append_right _ (List.mem_of_getElem? (i := 232) (by decide +kernel)), rfl⟩
theorem li_242 : lwI (.code ⟨"PlayReader$Condition", "lastState", "()I"⟩ prog_3_method_6_code 1 (some .int)) := ⟨List.mem_append_right _ (List.mem_of_getElem? (i := 242) (by decide +kernel)), rfl⟩
theorem li_239 : lwI (.methodLink "PlayReader$Condition" 25 ⟨"PlayReader$Condition", "lastState", "()I"⟩) := ⟨List.mem_append_right _ (List.mem_of_getElem? (i := 239) (by decide +kernel)), rfl⟩
theorem li_240 : lwI (.instanceMethod ⟨"PlayReader$Condition", "lastState", "()I"⟩) := ⟨List.mem_append_right _ (List.mem_of_getElem? (i := 240) (by decide +kernel)), rfl⟩
theorem li_241 : lwI (.selects "PlayReader$Condition" ⟨"PlayReader$Condition", "lastState", "()I"⟩ ⟨"PlayReader$Condition", "lastState", "()I"⟩) := ⟨List.mem_append_right _ (List.mem_of_getElem? (i := 241) (by decide +kernel)), rfl⟩
theorem li_245 : lwI (.code ⟨"PlayReader", "hasBit", "(JI)Z"⟩ prog_1_method_34_code 3 (some .boolean)) := ⟨List.mem_append_right _ (List.mem_of_getElem? (i := 245) (by decide +kernel)), rfl⟩
theorem li_244 : lwI (.static ⟨"PlayReader", "hasBit", "(JI)Z"⟩) := ⟨List.mem_append_right _ (List.mem_of_getElem? (i := 244) (by decide +kernel)), rfl⟩
theorem li_257 : lwI (.code ⟨"PlayReader$Condition", "isBroken", "(I)Z"⟩ prog_3_method_8_code 2 (some .boolean)) := ⟨List.mem_append_right _ (List.mem_of_getElem? (i := 257) (by decide +kernel)), rfl⟩
theorem li_254 : lwI (.methodLink "PlayReader$Condition" 33 ⟨"PlayReader$Condition", "isBroken", "(I)Z"⟩) := ⟨List.mem_append_right _ (List.mem_of_getElem? (i := 254) (by decide +kernel)), rfl⟩
theorem li_255 : lwI (.instanceMethod ⟨"PlayReader$Condition", "isBroken", "(I)Z"⟩) := ⟨List.mem_append_right _ (List.mem_of_getElem? (i := 255) (by decide +kernel)), rfl⟩
theorem li_256 : lwI (.selects "PlayReader$Condition" ⟨"PlayReader$Condition", "isBroken", "(I)Z"⟩ ⟨"PlayReader$Condition", "isBroken", "(I)Z"⟩) := ⟨List.mem_append_right _ (List.mem_of_getElem? (i := 256) (by decide +kernel)), rfl⟩
theorem li_53 : lwI (.fieldLink "PlayReader$Condition" 37 "PlayReader$Row" "size" "I") := ⟨List.mem_append_right _ (List.mem_of_getElem? (i := 53) (by decide +kernel)), rfl⟩
theorem li_234 : lwI (.methodLink "PlayReader$Condition" 42 ⟨"PlayReader$Row", "at", "(I)I"⟩) := ⟨List.mem_append_right _ (List.mem_of_getElem? (i := 234) (by decide +kernel)), rfl⟩
theorem li_238 : lwI (.code ⟨"PlayReader$Condition", "statesBehindGap", "(J)J"⟩ prog_3_method_5_code 9 (some .long)) := ⟨List.mem_append_right _ (List.mem_of_getElem? (i := 238) (by decide +kernel)), rfl⟩
theorem li_235 : lwI (.methodLink "PlayReader$Condition" 46 ⟨"PlayReader$Condition", "statesBehindGap", "(J)J"⟩) := ⟨List.mem_append_right _ (List.mem_of_getElem? (i := 235) (by decide +kernel)), rfl⟩
theorem li_236 : lwI (.instanceMethod ⟨"PlayReader$Condition", "statesBehindGap", "(J)J"⟩) := ⟨List.mem_append_right _ (List.mem_of_getElem? (i := 236) (by decide +kernel)), rfl⟩
theorem li_237 : lwI (.selects "PlayReader$Condition" ⟨"PlayReader$Condition", "statesBehindGap", "(J)J"⟩ ⟨"PlayReader$Condition", "statesBehindGap", "(J)J"⟩) := ⟨List.mem_append_right _ (List.mem_of_getElem? (i := 237) (by decide +kernel)), rfl⟩
theorem li_253 : lwI (.code ⟨"PlayReader$Condition", "statesBehindLine", "(JI)J"⟩ prog_3_method_4_code 7 (some .long)) := ⟨List.mem_append_right _ (List.mem_of_getElem? (i := 253) (by decide +kernel)), rfl⟩
theorem li_250 : lwI (.methodLink "PlayReader$Condition" 50 ⟨"PlayReader$Condition", "statesBehindLine", "(JI)J"⟩) := ⟨List.mem_append_right _ (List.mem_of_getElem? (i := 250) (by decide +kernel)), rfl⟩
theorem li_251 : lwI (.instanceMethod ⟨"PlayReader$Condition", "statesBehindLine", "(JI)J"⟩) := ⟨List.mem_append_right _ (List.mem_of_getElem? (i := 251) (by decide +kernel)), rfl⟩
theorem li_252 : lwI (.selects "PlayReader$Condition" ⟨"PlayReader$Condition", "statesBehindLine", "(JI)J"⟩ ⟨"PlayReader$Condition", "statesBehindLine", "(JI)J"⟩) := ⟨List.mem_append_right _ (List.mem_of_getElem? (i := 252) (by decide +kernel)), rfl⟩
theorem li_249 : lwI (.code ⟨"PlayReader$Condition", "next", "(II)I"⟩ prog_3_method_7_code 3 (some .int)) := ⟨List.mem_append_right _ (List.mem_of_getElem? (i := 249) (by decide +kernel)), rfl⟩
theorem li_246 : lwI (.methodLink "PlayReader$Condition" 54 ⟨"PlayReader$Condition", "next", "(II)I"⟩) := ⟨List.mem_append_right _ (List.mem_of_getElem? (i := 246) (by decide +kernel)), rfl⟩
theorem li_247 : lwI (.instanceMethod ⟨"PlayReader$Condition", "next", "(II)I"⟩) := ⟨List.mem_append_right _ (List.mem_of_getElem? (i := 247) (by decide +kernel)), rfl⟩
theorem li_248 : lwI (.selects "PlayReader$Condition" ⟨"PlayReader$Condition", "next", "(II)I"⟩ ⟨"PlayReader$Condition", "next", "(II)I"⟩) := ⟨List.mem_append_right _ (List.mem_of_getElem? (i := 248) (by decide +kernel)), rfl⟩
theorem li_269 : lwI (.code ⟨"PlayReader$Row", "empty", "()V"⟩ prog_4_method_7_code 1 none) := ⟨List.mem_append_right _ (List.mem_of_getElem? (i := 269) (by decide +kernel)), rfl⟩
theorem li_266 : lwI (.methodLink "PlayReader" 117 ⟨"PlayReader$Row", "empty", "()V"⟩) := ⟨List.mem_append_right _ (List.mem_of_getElem? (i := 266) (by decide +kernel)), rfl⟩
theorem li_267 : lwI (.instanceMethod ⟨"PlayReader$Row", "empty", "()V"⟩) := ⟨List.mem_append_right _ (List.mem_of_getElem? (i := 267) (by decide +kernel)), rfl⟩
theorem li_268 : lwI (.selects "PlayReader$Row" ⟨"PlayReader$Row", "empty", "()V"⟩ ⟨"PlayReader$Row", "empty", "()V"⟩) := ⟨List.mem_append_right _ (List.mem_of_getElem? (i := 268) (by decide +kernel)), rfl⟩
theorem li_282 : lwI (.methodLink "PlayReader" 120 ⟨"java/lang/Math", "max", "(II)I"⟩) := ⟨List.mem_append_right _ (List.mem_of_getElem? (i := 282) (by decide +kernel)), rfl⟩
theorem li_283 : lwI (.static ⟨"java/lang/Math", "max", "(II)I"⟩) := ⟨List.mem_append_right _ (List.mem_of_getElem? (i := 283) (by decide +kernel)), rfl⟩
theorem li_284 : lwI (.code ⟨"java/lang/Math", "max", "(II)I"⟩ prog_10_method_65_code 2 (some .int)) := ⟨List.mem_append_right _ (List.mem_of_getElem? (i := 284) (by decide +kernel)), rfl⟩
theorem li_291 : lwI (.code ⟨"PlayReader", "isQuarrel", "(II)Z"⟩ prog_1_method_36_code 2 (some .boolean)) := ⟨List.mem_append_right _ (List.mem_of_getElem? (i := 291) (by decide +kernel)), rfl⟩
theorem li_289 : lwI (.methodLink "PlayReader" 126 ⟨"PlayReader", "isQuarrel", "(II)Z"⟩) := ⟨List.mem_append_right _ (List.mem_of_getElem? (i := 289) (by decide +kernel)), rfl⟩
theorem li_290 : lwI (.static ⟨"PlayReader", "isQuarrel", "(II)Z"⟩) := ⟨List.mem_append_right _ (List.mem_of_getElem? (i := 290) (by decide +kernel)), rfl⟩
theorem li_294 : lwI (.code ⟨"PlayReader", "heardByTwo", "(II)I"⟩ prog_1_method_37_code 2 (some .int)) := ⟨List.mem_append_right _ (List.mem_of_getElem? (i := 294) (by decide +kernel)), rfl⟩
theorem li_292 : lwI (.methodLink "PlayReader" 130 ⟨"PlayReader", "heardByTwo", "(II)I"⟩) := ⟨List.mem_append_right _ (List.mem_of_getElem? (i := 292) (by decide +kernel)), rfl⟩
theorem li_293 : lwI (.static ⟨"PlayReader", "heardByTwo", "(II)I"⟩) := ⟨List.mem_append_right _ (List.mem_of_getElem? (i := 293) (by decide +kernel)), rfl⟩
theorem li_301 : lwI (.code ⟨"PlayReader", "placesBehind", "(LPlayReader$Row;LPlayReader$Row;)J"⟩ prog_1_method_38_code 6 (some .long)) := ⟨List.mem_append_right _ (List.mem_of_getElem? (i := 301) (by decide +kernel)), rfl⟩
theorem li_299 : lwI (.methodLink "PlayReader" 133 ⟨"PlayReader", "placesBehind", "(LPlayReader$Row;LPlayReader$Row;)J"⟩) := ⟨List.mem_append_right _ (List.mem_of_getElem? (i := 299) (by decide +kernel)), rfl⟩
theorem li_300 : lwI (.static ⟨"PlayReader", "placesBehind", "(LPlayReader$Row;LPlayReader$Row;)J"⟩) := ⟨List.mem_append_right _ (List.mem_of_getElem? (i := 300) (by decide +kernel)), rfl⟩
theorem li_305 : lwI (.methodLink "PlayReader" 137 ⟨"PlayReader", "hasBit", "(JI)Z"⟩) := ⟨List.mem_append_right _ (List.mem_of_getElem? (i := 305) (by decide +kernel)), rfl⟩
theorem li_304 : lwI (.code ⟨"PlayReader", "placesBehindGap", "(JLPlayReader$Row;)J"⟩ prog_1_method_40_code 6 (some .long)) := ⟨List.mem_append_right _ (List.mem_of_getElem? (i := 304) (by decide +kernel)), rfl⟩
theorem li_302 : lwI (.methodLink "PlayReader" 215 ⟨"PlayReader", "placesBehindGap", "(JLPlayReader$Row;)J"⟩) := ⟨List.mem_append_right _ (List.mem_of_getElem? (i := 302) (by decide +kernel)), rfl⟩
theorem li_303 : lwI (.static ⟨"PlayReader", "placesBehindGap", "(JLPlayReader$Row;)J"⟩) := ⟨List.mem_append_right _ (List.mem_of_getElem? (i := 303) (by decide +kernel)), rfl⟩
theorem li_308 : lwI (.code ⟨"PlayReader", "placesBehindLine", "(JLPlayReader$Row;I)J"⟩ prog_1_method_39_code 7 (some .long)) := ⟨List.mem_append_right _ (List.mem_of_getElem? (i := 308) (by decide +kernel)), rfl⟩
theorem li_306 : lwI (.methodLink "PlayReader" 219 ⟨"PlayReader", "placesBehindLine", "(JLPlayReader$Row;I)J"⟩) := ⟨List.mem_append_right _ (List.mem_of_getElem? (i := 306) (by decide +kernel)), rfl⟩
theorem li_307 : lwI (.static ⟨"PlayReader", "placesBehindLine", "(JLPlayReader$Row;I)J"⟩) := ⟨List.mem_append_right _ (List.mem_of_getElem? (i := 307) (by decide +kernel)), rfl⟩
theorem li_315 : lwI (.code ⟨"PlayReader", "isMarks", "(I)Z"⟩ prog_1_method_29_code 1 (some .boolean)) := ⟨List.mem_append_right _ (List.mem_of_getElem? (i := 315) (by decide +kernel)), rfl⟩
theorem li_313 : lwI (.methodLink "PlayReader" 141 ⟨"PlayReader", "isMarks", "(I)Z"⟩) := ⟨List.mem_append_right _ (List.mem_of_getElem? (i := 313) (by decide +kernel)), rfl⟩
theorem li_314 : lwI (.static ⟨"PlayReader", "isMarks", "(I)Z"⟩) := ⟨List.mem_append_right _ (List.mem_of_getElem? (i := 314) (by decide +kernel)), rfl⟩
theorem li_322 : lwI (.code ⟨"PlayReader", "isTown", "(I)Z"⟩ prog_1_method_28_code 1 (some .boolean)) := ⟨List.mem_append_right _ (List.mem_of_getElem? (i := 322) (by decide +kernel)), rfl⟩
theorem li_320 : lwI (.methodLink "PlayReader" 144 ⟨"PlayReader", "isTown", "(I)Z"⟩) := ⟨List.mem_append_right _ (List.mem_of_getElem? (i := 320) (by decide +kernel)), rfl⟩
theorem li_321 : lwI (.static ⟨"PlayReader", "isTown", "(I)Z"⟩) := ⟨List.mem_append_right _ (List.mem_of_getElem? (i := 321) (by decide +kernel)), rfl⟩
theorem li_325 : lwI (.code ⟨"PlayReader", "isDay", "(I)Z"⟩ prog_1_method_30_code 1 (some .boolean)) := ⟨List.mem_append_right _ (List.mem_of_getElem? (i := 325) (by decide +kernel)), rfl⟩
theorem li_323 : lwI (.methodLink "PlayReader" 147 ⟨"PlayReader", "isDay", "(I)Z"⟩) := ⟨List.mem_append_right _ (List.mem_of_getElem? (i := 323) (by decide +kernel)), rfl⟩
theorem li_324 : lwI (.static ⟨"PlayReader", "isDay", "(I)Z"⟩) := ⟨List.mem_append_right _ (List.mem_of_getElem? (i := 324) (by decide +kernel)), rfl⟩
theorem li_326 : lwI (.instantiable "PlayReader$Rule" 4) := ⟨List.mem_append_right _ (List.mem_of_getElem? (i := 326) (by decide +kernel)), rfl⟩
theorem li_8 : lwI (.initialized "PlayReader$Rule") := ⟨List.mem_append_right _ (List.mem_of_getElem? (i := 8) (by decide +kernel)), rfl⟩
theorem li_329 : lwI (.code ⟨"PlayReader$Rule", "<init>", "(IIII)V"⟩ prog_5_method_1_code 5 none) := ⟨List.mem_append_right _ (List.mem_of_getElem? (i := 329) (by decide +kernel)), rfl⟩
theorem li_327 : lwI (.methodLink "PlayReader" 150 ⟨"PlayReader$Rule", "<init>", "(IIII)V"⟩) := ⟨List.mem_append_right _ (List.mem_of_getElem? (i := 327) (by decide +kernel)), rfl⟩
theorem li_328 : lwI (.instanceMethod ⟨"PlayReader$Rule", "<init>", "(IIII)V"⟩) := ⟨List.mem_append_right _ (List.mem_of_getElem? (i := 328) (by decide +kernel)), rfl⟩
theorem li_330 : lwI (.methodLink "PlayReader$Rule" 1 ⟨"java/lang/Object", "<init>", "()V"⟩) := ⟨List.mem_append_right _ (List.mem_of_getElem? (i := 330) (by decide +kernel)), rfl⟩
theorem li_331 : lwI (.fieldLink "PlayReader$Rule" 7 "PlayReader$Rule" "town" "I") := ⟨List.mem_append_right _ (List.mem_of_getElem? (i := 331) (by decide +kernel)), rfl⟩
theorem li_333 : lwI (.fieldLink "PlayReader$Rule" 13 "PlayReader$Rule" "marks" "I") := ⟨List.mem_append_right _ (List.mem_of_getElem? (i := 333) (by decide +kernel)), rfl⟩
theorem li_335 : lwI (.fieldLink "PlayReader$Rule" 16 "PlayReader$Rule" "from" "I") := ⟨List.mem_append_right _ (List.mem_of_getElem? (i := 335) (by decide +kernel)), rfl⟩
theorem li_337 : lwI (.fieldLink "PlayReader$Rule" 19 "PlayReader$Rule" "to" "I") := ⟨List.mem_append_right _ (List.mem_of_getElem? (i := 337) (by decide +kernel)), rfl⟩
theorem li_355 : lwI (.code ⟨"PlayReader", "forbiddenMarks", "(II)I"⟩ prog_1_method_46_code 6 (some .int)) := ⟨List.mem_append_right _ (List.mem_of_getElem? (i := 355) (by decide +kernel)), rfl⟩
theorem li_352 : lwI (.methodLink "PlayReader" 153 ⟨"PlayReader", "forbiddenMarks", "(II)I"⟩) := ⟨List.mem_append_right _ (List.mem_of_getElem? (i := 352) (by decide +kernel)), rfl⟩
theorem li_354 : lwI (.instanceMethod ⟨"PlayReader", "forbiddenMarks", "(II)I"⟩) := ⟨List.mem_append_right _ (List.mem_of_getElem? (i := 354) (by decide +kernel)), rfl⟩
theorem ls_1 : lwI (.selects "PlayReader" ⟨"PlayReader", "forbiddenMarks", "(II)I"⟩ ⟨"PlayReader", "forbiddenMarks", "(II)I"⟩) := ⟨List.mem_append_left _ (List.mem_of_getElem? (i := 1) (by decide +kernel)), rfl⟩
theorem li_367 : lwI (.code ⟨"PlayReader", "linesWith", "(LPlayReader$Row;I)I"⟩ prog_1_method_45_code 5 (some .int)) := ⟨List.mem_append_right _ (List.mem_of_getElem? (i := 367) (by decide +kernel)), rfl⟩
theorem li_364 : lwI (.methodLink "PlayReader" 156 ⟨"PlayReader", "linesWith", "(LPlayReader$Row;I)I"⟩) := ⟨List.mem_append_right _ (List.mem_of_getElem? (i := 364) (by decide +kernel)), rfl⟩
theorem li_366 : lwI (.instanceMethod ⟨"PlayReader", "linesWith", "(LPlayReader$Row;I)I"⟩) := ⟨List.mem_append_right _ (List.mem_of_getElem? (i := 366) (by decide +kernel)), rfl⟩
theorem ls_3 : lwI (.selects "PlayReader" ⟨"PlayReader", "linesWith", "(LPlayReader$Row;I)I"⟩ ⟨"PlayReader", "linesWith", "(LPlayReader$Row;I)I"⟩) := ⟨List.mem_append_left _ (List.mem_of_getElem? (i := 3) (by decide +kernel)), rfl⟩
theorem li_359 : lwI (.code ⟨"PlayReader", "ruleOf", "(I)LPlayReader$Rule;"⟩ prog_1_method_33_code 2 (some (.object "PlayReader$Rule"))) := ⟨List.mem_append_right _ (List.mem_of_getElem? (i := 359) (by decide +kernel)), rfl⟩
theorem li_356 : lwI (.methodLink "PlayReader" 223 ⟨"PlayReader", "ruleOf", "(I)LPlayReader$Rule;"⟩) := ⟨List.mem_append_right _ (List.mem_of_getElem? (i := 356) (by decide +kernel)), rfl⟩
theorem li_358 : lwI (.instanceMethod ⟨"PlayReader", "ruleOf", "(I)LPlayReader$Rule;"⟩) := ⟨List.mem_append_right _ (List.mem_of_getElem? (i := 358) (by decide +kernel)), rfl⟩
theorem ls_2 : lwI (.selects "PlayReader" ⟨"PlayReader", "ruleOf", "(I)LPlayReader$Rule;"⟩ ⟨"PlayReader", "ruleOf", "(I)LPlayReader$Rule;"⟩) := ⟨List.mem_append_left _ (List.mem_of_getElem? (i := 2) (by decide +kernel)), rfl⟩
theorem li_363 : lwI (.code ⟨"PlayReader$Rule", "isInForce", "(II)Z"⟩ prog_5_method_2_code 3 (some .boolean)) := ⟨List.mem_append_right _ (List.mem_of_getElem? (i := 363) (by decide +kernel)), rfl⟩
theorem li_360 : lwI (.methodLink "PlayReader" 227 ⟨"PlayReader$Rule", "isInForce", "(II)Z"⟩) := ⟨List.mem_append_right _ (List.mem_of_getElem? (i := 360) (by decide +kernel)), rfl⟩
theorem li_361 : lwI (.instanceMethod ⟨"PlayReader$Rule", "isInForce", "(II)Z"⟩) := ⟨List.mem_append_right _ (List.mem_of_getElem? (i := 361) (by decide +kernel)), rfl⟩
theorem li_362 : lwI (.selects "PlayReader$Rule" ⟨"PlayReader$Rule", "isInForce", "(II)Z"⟩ ⟨"PlayReader$Rule", "isInForce", "(II)Z"⟩) := ⟨List.mem_append_right _ (List.mem_of_getElem? (i := 362) (by decide +kernel)), rfl⟩
theorem li_334 : lwI (.fieldLink "PlayReader" 230 "PlayReader$Rule" "marks" "I") := ⟨List.mem_append_right _ (List.mem_of_getElem? (i := 334) (by decide +kernel)), rfl⟩
theorem li_371 : lwI (.code ⟨"PlayReader", "marksOf", "(I)I"⟩ prog_1_method_43_code 2 (some .int)) := ⟨List.mem_append_right _ (List.mem_of_getElem? (i := 371) (by decide +kernel)), rfl⟩
theorem li_368 : lwI (.methodLink "PlayReader" 160 ⟨"PlayReader", "marksOf", "(I)I"⟩) := ⟨List.mem_append_right _ (List.mem_of_getElem? (i := 368) (by decide +kernel)), rfl⟩
theorem li_370 : lwI (.instanceMethod ⟨"PlayReader", "marksOf", "(I)I"⟩) := ⟨List.mem_append_right _ (List.mem_of_getElem? (i := 370) (by decide +kernel)), rfl⟩
theorem ls_4 : lwI (.selects "PlayReader" ⟨"PlayReader", "marksOf", "(I)I"⟩ ⟨"PlayReader", "marksOf", "(I)I"⟩) := ⟨List.mem_append_left _ (List.mem_of_getElem? (i := 4) (by decide +kernel)), rfl⟩
theorem li_382 : lwI (.code ⟨"java/lang/Integer", "bitCount", "(I)I"⟩ prog_9_method_49_code 1 (some .int)) := ⟨List.mem_append_right _ (List.mem_of_getElem? (i := 382) (by decide +kernel)), rfl⟩
theorem li_9 : lwI (.initialized "java/lang/Integer") := ⟨List.mem_append_right _ (List.mem_of_getElem? (i := 9) (by decide +kernel)), rfl⟩
theorem li_380 : lwI (.methodLink "PlayReader" 163 ⟨"java/lang/Integer", "bitCount", "(I)I"⟩) := ⟨List.mem_append_right _ (List.mem_of_getElem? (i := 380) (by decide +kernel)), rfl⟩
theorem li_381 : lwI (.static ⟨"java/lang/Integer", "bitCount", "(I)I"⟩) := ⟨List.mem_append_right _ (List.mem_of_getElem? (i := 381) (by decide +kernel)), rfl⟩
theorem li_389 : lwI (.code ⟨"PlayReader$TourPlan", "setCuts", "(III)V"⟩ prog_6_method_2_code 4 none) := ⟨List.mem_append_right _ (List.mem_of_getElem? (i := 389) (by decide +kernel)), rfl⟩
theorem li_386 : lwI (.methodLink "PlayReader" 168 ⟨"PlayReader$TourPlan", "setCuts", "(III)V"⟩) := ⟨List.mem_append_right _ (List.mem_of_getElem? (i := 386) (by decide +kernel)), rfl⟩
theorem li_387 : lwI (.instanceMethod ⟨"PlayReader$TourPlan", "setCuts", "(III)V"⟩) := ⟨List.mem_append_right _ (List.mem_of_getElem? (i := 387) (by decide +kernel)), rfl⟩
theorem li_388 : lwI (.selects "PlayReader$TourPlan" ⟨"PlayReader$TourPlan", "setCuts", "(III)V"⟩ ⟨"PlayReader$TourPlan", "setCuts", "(III)V"⟩) := ⟨List.mem_append_right _ (List.mem_of_getElem? (i := 388) (by decide +kernel)), rfl⟩
theorem li_394 : lwI (.code ⟨"PlayReader$TourPlan", "find", "(I)I"⟩ prog_6_method_3_code 5 (some .int)) := ⟨List.mem_append_right _ (List.mem_of_getElem? (i := 394) (by decide +kernel)), rfl⟩
theorem li_391 : lwI (.methodLink "PlayReader" 171 ⟨"PlayReader$TourPlan", "find", "(I)I"⟩) := ⟨List.mem_append_right _ (List.mem_of_getElem? (i := 391) (by decide +kernel)), rfl⟩
theorem li_392 : lwI (.instanceMethod ⟨"PlayReader$TourPlan", "find", "(I)I"⟩) := ⟨List.mem_append_right _ (List.mem_of_getElem? (i := 392) (by decide +kernel)), rfl⟩
theorem li_393 : lwI (.selects "PlayReader$TourPlan" ⟨"PlayReader$TourPlan", "find", "(I)I"⟩ ⟨"PlayReader$TourPlan", "find", "(I)I"⟩) := ⟨List.mem_append_right _ (List.mem_of_getElem? (i := 393) (by decide +kernel)), rfl⟩
theorem li_383 : lwI (.constant "java/lang/Integer" 265 (1431655765 : Int32)) := ⟨List.mem_append_right _ (List.mem_of_getElem? (i := 383) (by decide +kernel)), rfl⟩
theorem li_384 : lwI (.constant "java/lang/Integer" 266 (858993459 : Int32)) := ⟨List.mem_append_right _ (List.mem_of_getElem? (i := 384) (by decide +kernel)), rfl⟩
theorem li_385 : lwI (.constant "java/lang/Integer" 267 (252645135 : Int32)) := ⟨List.mem_append_right _ (List.mem_of_getElem? (i := 385) (by decide +kernel)), rfl⟩
theorem li_398 : lwI (.code ⟨"PlayReader$TourPlan", "fewestBehind", "(II)I"⟩ prog_6_method_4_code 4 (some .int)) := ⟨List.mem_append_right _ (List.mem_of_getElem? (i := 398) (by decide +kernel)), rfl⟩
theorem li_395 : lwI (.methodLink "PlayReader$TourPlan" 31 ⟨"PlayReader$TourPlan", "fewestBehind", "(II)I"⟩) := ⟨List.mem_append_right _ (List.mem_of_getElem? (i := 395) (by decide +kernel)), rfl⟩
theorem li_396 : lwI (.instanceMethod ⟨"PlayReader$TourPlan", "fewestBehind", "(II)I"⟩) := ⟨List.mem_append_right _ (List.mem_of_getElem? (i := 396) (by decide +kernel)), rfl⟩
theorem li_397 : lwI (.selects "PlayReader$TourPlan" ⟨"PlayReader$TourPlan", "fewestBehind", "(II)I"⟩ ⟨"PlayReader$TourPlan", "fewestBehind", "(II)I"⟩) := ⟨List.mem_append_right _ (List.mem_of_getElem? (i := 397) (by decide +kernel)), rfl⟩
theorem li_409 : lwI (.methodLink "PlayReader$TourPlan" 35 ⟨"PlayReader$Row", "empty", "()V"⟩) := ⟨List.mem_append_right _ (List.mem_of_getElem? (i := 409) (by decide +kernel)), rfl⟩
theorem li_402 : lwI (.code ⟨"PlayReader$TourPlan", "nextTown", "(II)I"⟩ prog_6_method_5_code 5 (some .int)) := ⟨List.mem_append_right _ (List.mem_of_getElem? (i := 402) (by decide +kernel)), rfl⟩
theorem li_399 : lwI (.methodLink "PlayReader$TourPlan" 38 ⟨"PlayReader$TourPlan", "nextTown", "(II)I"⟩) := ⟨List.mem_append_right _ (List.mem_of_getElem? (i := 399) (by decide +kernel)), rfl⟩
theorem li_400 : lwI (.instanceMethod ⟨"PlayReader$TourPlan", "nextTown", "(II)I"⟩) := ⟨List.mem_append_right _ (List.mem_of_getElem? (i := 400) (by decide +kernel)), rfl⟩
theorem li_401 : lwI (.selects "PlayReader$TourPlan" ⟨"PlayReader$TourPlan", "nextTown", "(II)I"⟩ ⟨"PlayReader$TourPlan", "nextTown", "(II)I"⟩) := ⟨List.mem_append_right _ (List.mem_of_getElem? (i := 401) (by decide +kernel)), rfl⟩
theorem li_410 : lwI (.methodLink "PlayReader$TourPlan" 41 ⟨"PlayReader$Row", "insert", "(II)V"⟩) := ⟨List.mem_append_right _ (List.mem_of_getElem? (i := 410) (by decide +kernel)), rfl⟩
theorem li_407 : lwI (.code ⟨"PlayReader$TourPlan", "cutsBy", "(II)I"⟩ prog_6_method_6_code 5 (some .int)) := ⟨List.mem_append_right _ (List.mem_of_getElem? (i := 407) (by decide +kernel)), rfl⟩
theorem li_404 : lwI (.methodLink "PlayReader$TourPlan" 45 ⟨"PlayReader$TourPlan", "cutsBy", "(II)I"⟩) := ⟨List.mem_append_right _ (List.mem_of_getElem? (i := 404) (by decide +kernel)), rfl⟩
theorem li_405 : lwI (.instanceMethod ⟨"PlayReader$TourPlan", "cutsBy", "(II)I"⟩) := ⟨List.mem_append_right _ (List.mem_of_getElem? (i := 405) (by decide +kernel)), rfl⟩
theorem li_406 : lwI (.selects "PlayReader$TourPlan" ⟨"PlayReader$TourPlan", "cutsBy", "(II)I"⟩ ⟨"PlayReader$TourPlan", "cutsBy", "(II)I"⟩) := ⟨List.mem_append_right _ (List.mem_of_getElem? (i := 406) (by decide +kernel)), rfl⟩
theorem li_408 : lwI (.methodLink "PlayReader$TourPlan" 52 ⟨"java/lang/Integer", "bitCount", "(I)I"⟩) := ⟨List.mem_append_right _ (List.mem_of_getElem? (i := 408) (by decide +kernel)), rfl⟩
theorem li_61 : lwI (.fieldLink "PlayReader" 174 "PlayReader$TourPlan" "order" "LPlayReader$Row;") := ⟨List.mem_append_right _ (List.mem_of_getElem? (i := 61) (by decide +kernel)), rfl⟩
theorem li_422 : lwI (.code ⟨"PlayReader", "marksOfAll", "(LPlayReader$Row;)I"⟩ prog_1_method_44_code 4 (some .int)) := ⟨List.mem_append_right _ (List.mem_of_getElem? (i := 422) (by decide +kernel)), rfl⟩
theorem li_419 : lwI (.methodLink "PlayReader" 177 ⟨"PlayReader", "marksOfAll", "(LPlayReader$Row;)I"⟩) := ⟨List.mem_append_right _ (List.mem_of_getElem? (i := 419) (by decide +kernel)), rfl⟩
theorem li_421 : lwI (.instanceMethod ⟨"PlayReader", "marksOfAll", "(LPlayReader$Row;)I"⟩) := ⟨List.mem_append_right _ (List.mem_of_getElem? (i := 421) (by decide +kernel)), rfl⟩
theorem ls_5 : lwI (.selects "PlayReader" ⟨"PlayReader", "marksOfAll", "(LPlayReader$Row;)I"⟩ ⟨"PlayReader", "marksOfAll", "(LPlayReader$Row;)I"⟩) := ⟨List.mem_append_left _ (List.mem_of_getElem? (i := 5) (by decide +kernel)), rfl⟩
theorem li_426 : lwI (.code ⟨"PlayReader", "lastForbiddenDay", "(III)I"⟩ prog_1_method_47_code 7 (some .int)) := ⟨List.mem_append_right _ (List.mem_of_getElem? (i := 426) (by decide +kernel)), rfl⟩
theorem li_423 : lwI (.methodLink "PlayReader" 181 ⟨"PlayReader", "lastForbiddenDay", "(III)I"⟩) := ⟨List.mem_append_right _ (List.mem_of_getElem? (i := 423) (by decide +kernel)), rfl⟩
theorem li_425 : lwI (.instanceMethod ⟨"PlayReader", "lastForbiddenDay", "(III)I"⟩) := ⟨List.mem_append_right _ (List.mem_of_getElem? (i := 425) (by decide +kernel)), rfl⟩
theorem ls_6 : lwI (.selects "PlayReader" ⟨"PlayReader", "lastForbiddenDay", "(III)I"⟩ ⟨"PlayReader", "lastForbiddenDay", "(III)I"⟩) := ⟨List.mem_append_left _ (List.mem_of_getElem? (i := 6) (by decide +kernel)), rfl⟩
theorem li_338 : lwI (.fieldLink "PlayReader" 232 "PlayReader$Rule" "to" "I") := ⟨List.mem_append_right _ (List.mem_of_getElem? (i := 338) (by decide +kernel)), rfl⟩
theorem li_433 : lwI (.code ⟨"PlayReader", "thingsIn", "([LPlayReader$Row;)I"⟩ prog_1_method_42_code 4 (some .int)) := ⟨List.mem_append_right _ (List.mem_of_getElem? (i := 433) (by decide +kernel)), rfl⟩
theorem li_431 : lwI (.methodLink "PlayReader" 185 ⟨"PlayReader", "thingsIn", "([LPlayReader$Row;)I"⟩) := ⟨List.mem_append_right _ (List.mem_of_getElem? (i := 431) (by decide +kernel)), rfl⟩
theorem li_432 : lwI (.static ⟨"PlayReader", "thingsIn", "([LPlayReader$Row;)I"⟩) := ⟨List.mem_append_right _ (List.mem_of_getElem? (i := 432) (by decide +kernel)), rfl⟩
theorem li_437 : lwI (.code ⟨"PlayReader", "gapsHeard", "()I"⟩ prog_1_method_41_code 5 (some .int)) := ⟨List.mem_append_right _ (List.mem_of_getElem? (i := 437) (by decide +kernel)), rfl⟩
theorem li_434 : lwI (.methodLink "PlayReader" 189 ⟨"PlayReader", "gapsHeard", "()I"⟩) := ⟨List.mem_append_right _ (List.mem_of_getElem? (i := 434) (by decide +kernel)), rfl⟩
theorem li_436 : lwI (.instanceMethod ⟨"PlayReader", "gapsHeard", "()I"⟩) := ⟨List.mem_append_right _ (List.mem_of_getElem? (i := 436) (by decide +kernel)), rfl⟩
theorem ls_7 : lwI (.selects "PlayReader" ⟨"PlayReader", "gapsHeard", "()I"⟩ ⟨"PlayReader", "gapsHeard", "()I"⟩) := ⟨List.mem_append_left _ (List.mem_of_getElem? (i := 7) (by decide +kernel)), rfl⟩
theorem li_442 : lwI (.constantLong "PlayReader" 192 (181 : Int64)) := ⟨List.mem_append_right _ (List.mem_of_getElem? (i := 442) (by decide +kernel)), rfl⟩
theorem li_430 : lwI (.code ⟨"PlayReader", "count", "(I)I"⟩ prog_1_method_25_code 2 (some .int)) := ⟨List.mem_append_right _ (List.mem_of_getElem? (i := 430) (by decide +kernel)), rfl⟩
theorem li_443 : lwI (.methodLink "PlayReader" 194 ⟨"PlayReader", "count", "(I)I"⟩) := ⟨List.mem_append_right _ (List.mem_of_getElem? (i := 443) (by decide +kernel)), rfl⟩
theorem li_428 : lwI (.instanceMethod ⟨"PlayReader", "count", "(I)I"⟩) := ⟨List.mem_append_right _ (List.mem_of_getElem? (i := 428) (by decide +kernel)), rfl⟩
theorem li_429 : lwI (.selects "PlayReader" ⟨"PlayReader", "count", "(I)I"⟩ ⟨"PlayReader", "count", "(I)I"⟩) := ⟨List.mem_append_right _ (List.mem_of_getElem? (i := 429) (by decide +kernel)), rfl⟩
theorem li_446 : lwI (.code ⟨"PlayReader", "mixed", "(JI)J"⟩ prog_1_method_48_code 3 (some .long)) := ⟨List.mem_append_right _ (List.mem_of_getElem? (i := 446) (by decide +kernel)), rfl⟩
theorem li_444 : lwI (.methodLink "PlayReader" 197 ⟨"PlayReader", "mixed", "(JI)J"⟩) := ⟨List.mem_append_right _ (List.mem_of_getElem? (i := 444) (by decide +kernel)), rfl⟩
theorem li_445 : lwI (.static ⟨"PlayReader", "mixed", "(JI)J"⟩) := ⟨List.mem_append_right _ (List.mem_of_getElem? (i := 445) (by decide +kernel)), rfl⟩
theorem li_450 : lwI (.code ⟨"PlayReader", "mixedRows", "(J[LPlayReader$Row;)J"⟩ prog_1_method_49_code 8 (some .long)) := ⟨List.mem_append_right _ (List.mem_of_getElem? (i := 450) (by decide +kernel)), rfl⟩
theorem li_448 : lwI (.methodLink "PlayReader" 201 ⟨"PlayReader", "mixedRows", "(J[LPlayReader$Row;)J"⟩) := ⟨List.mem_append_right _ (List.mem_of_getElem? (i := 448) (by decide +kernel)), rfl⟩
theorem li_449 : lwI (.static ⟨"PlayReader", "mixedRows", "(J[LPlayReader$Row;)J"⟩) := ⟨List.mem_append_right _ (List.mem_of_getElem? (i := 449) (by decide +kernel)), rfl⟩
theorem li_454 : lwI (.code ⟨"PlayReader", "mixedRules", "(J)J"⟩ prog_1_method_50_code 7 (some .long)) := ⟨List.mem_append_right _ (List.mem_of_getElem? (i := 454) (by decide +kernel)), rfl⟩
theorem li_451 : lwI (.methodLink "PlayReader" 205 ⟨"PlayReader", "mixedRules", "(J)J"⟩) := ⟨List.mem_append_right _ (List.mem_of_getElem? (i := 451) (by decide +kernel)), rfl⟩
theorem li_453 : lwI (.instanceMethod ⟨"PlayReader", "mixedRules", "(J)J"⟩) := ⟨List.mem_append_right _ (List.mem_of_getElem? (i := 453) (by decide +kernel)), rfl⟩
theorem ls_8 : lwI (.selects "PlayReader" ⟨"PlayReader", "mixedRules", "(J)J"⟩ ⟨"PlayReader", "mixedRules", "(J)J"⟩) := ⟨List.mem_append_left _ (List.mem_of_getElem? (i := 8) (by decide +kernel)), rfl⟩
theorem li_458 : lwI (.code ⟨"PlayReader", "mixedConditions", "(J)J"⟩ prog_1_method_51_code 7 (some .long)) := ⟨List.mem_append_right _ (List.mem_of_getElem? (i := 458) (by decide +kernel)), rfl⟩
theorem li_455 : lwI (.methodLink "PlayReader" 209 ⟨"PlayReader", "mixedConditions", "(J)J"⟩) := ⟨List.mem_append_right _ (List.mem_of_getElem? (i := 455) (by decide +kernel)), rfl⟩
theorem li_457 : lwI (.instanceMethod ⟨"PlayReader", "mixedConditions", "(J)J"⟩) := ⟨List.mem_append_right _ (List.mem_of_getElem? (i := 457) (by decide +kernel)), rfl⟩
theorem ls_9 : lwI (.selects "PlayReader" ⟨"PlayReader", "mixedConditions", "(J)J"⟩ ⟨"PlayReader", "mixedConditions", "(J)J"⟩) := ⟨List.mem_append_left _ (List.mem_of_getElem? (i := 9) (by decide +kernel)), rfl⟩
theorem li_447 : lwI (.constantLong "PlayReader" 235 (31 : Int64)) := ⟨List.mem_append_right _ (List.mem_of_getElem? (i := 447) (by decide +kernel)), rfl⟩
theorem li_332 : lwI (.fieldLink "PlayReader" 237 "PlayReader$Rule" "town" "I") := ⟨List.mem_append_right _ (List.mem_of_getElem? (i := 332) (by decide +kernel)), rfl⟩
theorem li_336 : lwI (.fieldLink "PlayReader" 240 "PlayReader$Rule" "from" "I") := ⟨List.mem_append_right _ (List.mem_of_getElem? (i := 336) (by decide +kernel)), rfl⟩
theorem li_199 : lwI (.fieldLink "PlayReader" 243 "PlayReader$Condition" "sort" "I") := ⟨List.mem_append_right _ (List.mem_of_getElem? (i := 199) (by decide +kernel)), rfl⟩
theorem li_201 : lwI (.fieldLink "PlayReader" 246 "PlayReader$Condition" "x" "I") := ⟨List.mem_append_right _ (List.mem_of_getElem? (i := 201) (by decide +kernel)), rfl⟩
theorem li_203 : lwI (.fieldLink "PlayReader" 249 "PlayReader$Condition" "y" "I") := ⟨List.mem_append_right _ (List.mem_of_getElem? (i := 203) (by decide +kernel)), rfl⟩
theorem li_464 : lwI (.methodLink "PlayReaderModel" 1 ⟨"java/lang/Object", "<init>", "()V"⟩) := ⟨List.mem_append_right _ (List.mem_of_getElem? (i := 464) (by decide +kernel)), rfl⟩
theorem li_465 : lwI (.fieldLink "PlayReaderModel" 7 "PlayReaderModel" "lines" "[I") := ⟨List.mem_append_right _ (List.mem_of_getElem? (i := 465) (by decide +kernel)), rfl⟩
theorem li_466 : lwI (.fieldLink "PlayReaderModel" 13 "PlayReaderModel" "sizes" "[I") := ⟨List.mem_append_right _ (List.mem_of_getElem? (i := 466) (by decide +kernel)), rfl⟩
theorem li_467 : lwI (.fieldLink "PlayReaderModel" 16 "PlayReaderModel" "things" "[I") := ⟨List.mem_append_right _ (List.mem_of_getElem? (i := 467) (by decide +kernel)), rfl⟩
theorem li_468 : lwI (.fieldLink "PlayReaderModel" 19 "PlayReaderModel" "heard" "[I") := ⟨List.mem_append_right _ (List.mem_of_getElem? (i := 468) (by decide +kernel)), rfl⟩
theorem li_470 : lwI (.fieldLink "PlayReaderModel" 22 "PlayReaderModel" "sorts" "[I") := ⟨List.mem_append_right _ (List.mem_of_getElem? (i := 470) (by decide +kernel)), rfl⟩
theorem li_471 : lwI (.fieldLink "PlayReaderModel" 25 "PlayReaderModel" "xs" "[I") := ⟨List.mem_append_right _ (List.mem_of_getElem? (i := 471) (by decide +kernel)), rfl⟩
theorem li_472 : lwI (.fieldLink "PlayReaderModel" 28 "PlayReaderModel" "ys" "[I") := ⟨List.mem_append_right _ (List.mem_of_getElem? (i := 472) (by decide +kernel)), rfl⟩
theorem li_473 : lwI (.fieldLink "PlayReaderModel" 31 "PlayReaderModel" "marks" "[I") := ⟨List.mem_append_right _ (List.mem_of_getElem? (i := 473) (by decide +kernel)), rfl⟩
theorem li_475 : lwI (.fieldLink "PlayReaderModel" 34 "PlayReaderModel" "ruleTown" "[I") := ⟨List.mem_append_right _ (List.mem_of_getElem? (i := 475) (by decide +kernel)), rfl⟩
theorem li_476 : lwI (.fieldLink "PlayReaderModel" 37 "PlayReaderModel" "ruleMarks" "[I") := ⟨List.mem_append_right _ (List.mem_of_getElem? (i := 476) (by decide +kernel)), rfl⟩
theorem li_477 : lwI (.fieldLink "PlayReaderModel" 40 "PlayReaderModel" "ruleFrom" "[I") := ⟨List.mem_append_right _ (List.mem_of_getElem? (i := 477) (by decide +kernel)), rfl⟩
theorem li_478 : lwI (.fieldLink "PlayReaderModel" 43 "PlayReaderModel" "ruleTo" "[I") := ⟨List.mem_append_right _ (List.mem_of_getElem? (i := 478) (by decide +kernel)), rfl⟩
theorem li_479 : lwI (.fieldLink "PlayReaderModel" 46 "PlayReaderModel" "few" "[I") := ⟨List.mem_append_right _ (List.mem_of_getElem? (i := 479) (by decide +kernel)), rfl⟩
theorem li_480 : lwI (.fieldLink "PlayReaderModel" 49 "PlayReaderModel" "fewest" "[I") := ⟨List.mem_append_right _ (List.mem_of_getElem? (i := 480) (by decide +kernel)), rfl⟩
theorem li_481 : lwI (.fieldLink "PlayReaderModel" 52 "PlayReaderModel" "cuts" "[I") := ⟨List.mem_append_right _ (List.mem_of_getElem? (i := 481) (by decide +kernel)), rfl⟩
theorem li_483 : lwI (.fieldLink "PlayReaderModel" 55 "PlayReaderModel" "tour" "[I") := ⟨List.mem_append_right _ (List.mem_of_getElem? (i := 483) (by decide +kernel)), rfl⟩
theorem li_526 : lwI (.arrayClass .boolean) := ⟨List.mem_append_right _ (List.mem_of_getElem? (i := 526) (by decide +kernel)), rfl⟩
theorem li_484 : lwI (.fieldLink "PlayReaderModel" 58 "PlayReaderModel" "fits" "[Z") := ⟨List.mem_append_right _ (List.mem_of_getElem? (i := 484) (by decide +kernel)), rfl⟩
theorem li_533 : lwI (.code ⟨"PlayReaderModel", "isVersion", "(I)Z"⟩ prog_8_method_3_code 1 (some .boolean)) := ⟨List.mem_append_right _ (List.mem_of_getElem? (i := 533) (by decide +kernel)), rfl⟩
theorem li_5 : lwI (.initialized "PlayReaderModel") := ⟨List.mem_append_right _ (List.mem_of_getElem? (i := 5) (by decide +kernel)), rfl⟩
theorem li_531 : lwI (.methodLink "PlayReaderModel" 66 ⟨"PlayReaderModel", "isVersion", "(I)Z"⟩) := ⟨List.mem_append_right _ (List.mem_of_getElem? (i := 531) (by decide +kernel)), rfl⟩
theorem li_532 : lwI (.static ⟨"PlayReaderModel", "isVersion", "(I)Z"⟩) := ⟨List.mem_append_right _ (List.mem_of_getElem? (i := 532) (by decide +kernel)), rfl⟩
theorem li_536 : lwI (.code ⟨"PlayReaderModel", "in", "(III)Z"⟩ prog_8_method_2_code 3 (some .boolean)) := ⟨List.mem_append_right _ (List.mem_of_getElem? (i := 536) (by decide +kernel)), rfl⟩
theorem li_534 : lwI (.methodLink "PlayReaderModel" 62 ⟨"PlayReaderModel", "in", "(III)Z"⟩) := ⟨List.mem_append_right _ (List.mem_of_getElem? (i := 534) (by decide +kernel)), rfl⟩
theorem li_535 : lwI (.static ⟨"PlayReaderModel", "in", "(III)Z"⟩) := ⟨List.mem_append_right _ (List.mem_of_getElem? (i := 535) (by decide +kernel)), rfl⟩
theorem li_539 : lwI (.code ⟨"PlayReaderModel", "isLine", "(I)Z"⟩ prog_8_method_4_code 1 (some .boolean)) := ⟨List.mem_append_right _ (List.mem_of_getElem? (i := 539) (by decide +kernel)), rfl⟩
theorem li_537 : lwI (.methodLink "PlayReaderModel" 70 ⟨"PlayReaderModel", "isLine", "(I)Z"⟩) := ⟨List.mem_append_right _ (List.mem_of_getElem? (i := 537) (by decide +kernel)), rfl⟩
theorem li_538 : lwI (.static ⟨"PlayReaderModel", "isLine", "(I)Z"⟩) := ⟨List.mem_append_right _ (List.mem_of_getElem? (i := 538) (by decide +kernel)), rfl⟩
theorem li_559 : lwI (.code ⟨"PlayReaderModel", "findFew", "(II)I"⟩ prog_8_method_11_code 6 (some .int)) := ⟨List.mem_append_right _ (List.mem_of_getElem? (i := 559) (by decide +kernel)), rfl⟩
theorem li_556 : lwI (.methodLink "PlayReaderModel" 77 ⟨"PlayReaderModel", "findFew", "(II)I"⟩) := ⟨List.mem_append_right _ (List.mem_of_getElem? (i := 556) (by decide +kernel)), rfl⟩
theorem li_558 : lwI (.instanceMethod ⟨"PlayReaderModel", "findFew", "(II)I"⟩) := ⟨List.mem_append_right _ (List.mem_of_getElem? (i := 558) (by decide +kernel)), rfl⟩
theorem ls_10 : lwI (.selects "PlayReaderModel" ⟨"PlayReaderModel", "findFew", "(II)I"⟩ ⟨"PlayReaderModel", "findFew", "(II)I"⟩) := ⟨List.mem_append_left _ (List.mem_of_getElem? (i := 10) (by decide +kernel)), rfl⟩
theorem li_563 : lwI (.code ⟨"PlayReaderModel", "isAlike", "(IIII)Z"⟩ prog_8_method_10_code 5 (some .boolean)) := ⟨List.mem_append_right _ (List.mem_of_getElem? (i := 563) (by decide +kernel)), rfl⟩
theorem li_560 : lwI (.methodLink "PlayReaderModel" 73 ⟨"PlayReaderModel", "isAlike", "(IIII)Z"⟩) := ⟨List.mem_append_right _ (List.mem_of_getElem? (i := 560) (by decide +kernel)), rfl⟩
theorem li_562 : lwI (.instanceMethod ⟨"PlayReaderModel", "isAlike", "(IIII)Z"⟩) := ⟨List.mem_append_right _ (List.mem_of_getElem? (i := 562) (by decide +kernel)), rfl⟩
theorem ls_11 : lwI (.selects "PlayReaderModel" ⟨"PlayReaderModel", "isAlike", "(IIII)Z"⟩ ⟨"PlayReaderModel", "isAlike", "(IIII)Z"⟩) := ⟨List.mem_append_left _ (List.mem_of_getElem? (i := 11) (by decide +kernel)), rfl⟩
theorem li_469 : lwI (.fieldLink "PlayReaderModel" 81 "PlayReaderModel" "conditions" "I") := ⟨List.mem_append_right _ (List.mem_of_getElem? (i := 469) (by decide +kernel)), rfl⟩
theorem li_583 : lwI (.code ⟨"PlayReaderModel", "keeps", "(II)Z"⟩ prog_8_method_16_code 11 (some .boolean)) := ⟨List.mem_append_right _ (List.mem_of_getElem? (i := 583) (by decide +kernel)), rfl⟩
theorem li_580 : lwI (.methodLink "PlayReaderModel" 85 ⟨"PlayReaderModel", "keeps", "(II)Z"⟩) := ⟨List.mem_append_right _ (List.mem_of_getElem? (i := 580) (by decide +kernel)), rfl⟩
theorem li_582 : lwI (.instanceMethod ⟨"PlayReaderModel", "keeps", "(II)Z"⟩) := ⟨List.mem_append_right _ (List.mem_of_getElem? (i := 582) (by decide +kernel)), rfl⟩
theorem ls_12 : lwI (.selects "PlayReaderModel" ⟨"PlayReaderModel", "keeps", "(II)Z"⟩ ⟨"PlayReaderModel", "keeps", "(II)Z"⟩) := ⟨List.mem_append_left _ (List.mem_of_getElem? (i := 12) (by decide +kernel)), rfl⟩
theorem li_590 : lwI (.code ⟨"PlayReaderModel", "isHeard", "(I)Z"⟩ prog_8_method_5_code 1 (some .boolean)) := ⟨List.mem_append_right _ (List.mem_of_getElem? (i := 590) (by decide +kernel)), rfl⟩
theorem li_588 : lwI (.methodLink "PlayReaderModel" 89 ⟨"PlayReaderModel", "isHeard", "(I)Z"⟩) := ⟨List.mem_append_right _ (List.mem_of_getElem? (i := 588) (by decide +kernel)), rfl⟩
theorem li_589 : lwI (.static ⟨"PlayReaderModel", "isHeard", "(I)Z"⟩) := ⟨List.mem_append_right _ (List.mem_of_getElem? (i := 589) (by decide +kernel)), rfl⟩
theorem li_606 : lwI (.code ⟨"PlayReaderModel", "judged", "(II)I"⟩ prog_8_method_21_code 14 (some .int)) := ⟨List.mem_append_right _ (List.mem_of_getElem? (i := 606) (by decide +kernel)), rfl⟩
theorem li_603 : lwI (.methodLink "PlayReaderModel" 92 ⟨"PlayReaderModel", "judged", "(II)I"⟩) := ⟨List.mem_append_right _ (List.mem_of_getElem? (i := 603) (by decide +kernel)), rfl⟩
theorem li_605 : lwI (.instanceMethod ⟨"PlayReaderModel", "judged", "(II)I"⟩) := ⟨List.mem_append_right _ (List.mem_of_getElem? (i := 605) (by decide +kernel)), rfl⟩
theorem ls_13 : lwI (.selects "PlayReaderModel" ⟨"PlayReaderModel", "judged", "(II)I"⟩ ⟨"PlayReaderModel", "judged", "(II)I"⟩) := ⟨List.mem_append_left _ (List.mem_of_getElem? (i := 13) (by decide +kernel)), rfl⟩
theorem li_629 : lwI (.code ⟨"PlayReaderModel", "isTown", "(I)Z"⟩ prog_8_method_27_code 1 (some .boolean)) := ⟨List.mem_append_right _ (List.mem_of_getElem? (i := 629) (by decide +kernel)), rfl⟩
theorem li_627 : lwI (.methodLink "PlayReaderModel" 95 ⟨"PlayReaderModel", "isTown", "(I)Z"⟩) := ⟨List.mem_append_right _ (List.mem_of_getElem? (i := 627) (by decide +kernel)), rfl⟩
theorem li_628 : lwI (.static ⟨"PlayReaderModel", "isTown", "(I)Z"⟩) := ⟨List.mem_append_right _ (List.mem_of_getElem? (i := 628) (by decide +kernel)), rfl⟩
theorem li_632 : lwI (.code ⟨"PlayReaderModel", "isDay", "(I)Z"⟩ prog_8_method_28_code 1 (some .boolean)) := ⟨List.mem_append_right _ (List.mem_of_getElem? (i := 632) (by decide +kernel)), rfl⟩
theorem li_630 : lwI (.methodLink "PlayReaderModel" 98 ⟨"PlayReaderModel", "isDay", "(I)Z"⟩) := ⟨List.mem_append_right _ (List.mem_of_getElem? (i := 630) (by decide +kernel)), rfl⟩
theorem li_631 : lwI (.static ⟨"PlayReaderModel", "isDay", "(I)Z"⟩) := ⟨List.mem_append_right _ (List.mem_of_getElem? (i := 631) (by decide +kernel)), rfl⟩
theorem li_474 : lwI (.fieldLink "PlayReaderModel" 101 "PlayReaderModel" "rules" "I") := ⟨List.mem_append_right _ (List.mem_of_getElem? (i := 474) (by decide +kernel)), rfl⟩
theorem li_640 : lwI (.code ⟨"PlayReaderModel", "cutOf", "(III)I"⟩ prog_8_method_31_code 7 (some .int)) := ⟨List.mem_append_right _ (List.mem_of_getElem? (i := 640) (by decide +kernel)), rfl⟩
theorem li_637 : lwI (.methodLink "PlayReaderModel" 107 ⟨"PlayReaderModel", "cutOf", "(III)I"⟩) := ⟨List.mem_append_right _ (List.mem_of_getElem? (i := 637) (by decide +kernel)), rfl⟩
theorem li_639 : lwI (.instanceMethod ⟨"PlayReaderModel", "cutOf", "(III)I"⟩) := ⟨List.mem_append_right _ (List.mem_of_getElem? (i := 639) (by decide +kernel)), rfl⟩
theorem ls_14 : lwI (.selects "PlayReaderModel" ⟨"PlayReaderModel", "cutOf", "(III)I"⟩ ⟨"PlayReaderModel", "cutOf", "(III)I"⟩) := ⟨List.mem_append_left _ (List.mem_of_getElem? (i := 14) (by decide +kernel)), rfl⟩
theorem li_644 : lwI (.code ⟨"PlayReaderModel", "forbidden", "(II)I"⟩ prog_8_method_30_code 5 (some .int)) := ⟨List.mem_append_right _ (List.mem_of_getElem? (i := 644) (by decide +kernel)), rfl⟩
theorem li_641 : lwI (.methodLink "PlayReaderModel" 104 ⟨"PlayReaderModel", "forbidden", "(II)I"⟩) := ⟨List.mem_append_right _ (List.mem_of_getElem? (i := 641) (by decide +kernel)), rfl⟩
theorem li_643 : lwI (.instanceMethod ⟨"PlayReaderModel", "forbidden", "(II)I"⟩) := ⟨List.mem_append_right _ (List.mem_of_getElem? (i := 643) (by decide +kernel)), rfl⟩
theorem ls_15 : lwI (.selects "PlayReaderModel" ⟨"PlayReaderModel", "forbidden", "(II)I"⟩ ⟨"PlayReaderModel", "forbidden", "(II)I"⟩) := ⟨List.mem_append_left _ (List.mem_of_getElem? (i := 15) (by decide +kernel)), rfl⟩
theorem li_655 : lwI (.code ⟨"PlayReaderModel", "many", "(I)I"⟩ prog_8_method_34_code 3 (some .int)) := ⟨List.mem_append_right _ (List.mem_of_getElem? (i := 655) (by decide +kernel)), rfl⟩
theorem li_653 : lwI (.methodLink "PlayReaderModel" 111 ⟨"PlayReaderModel", "many", "(I)I"⟩) := ⟨List.mem_append_right _ (List.mem_of_getElem? (i := 653) (by decide +kernel)), rfl⟩
theorem li_654 : lwI (.static ⟨"PlayReaderModel", "many", "(I)I"⟩) := ⟨List.mem_append_right _ (List.mem_of_getElem? (i := 654) (by decide +kernel)), rfl⟩
theorem li_656 : lwI (.constant "PlayReaderModel" 115 (100000 : Int32)) := ⟨List.mem_append_right _ (List.mem_of_getElem? (i := 656) (by decide +kernel)), rfl⟩
theorem li_482 : lwI (.fieldLink "PlayReaderModel" 116 "PlayReaderModel" "toured" "I") := ⟨List.mem_append_right _ (List.mem_of_getElem? (i := 482) (by decide +kernel)), rfl⟩
theorem li_673 : lwI (.constantLong "PlayReaderModel" 119 (181 : Int64)) := ⟨List.mem_append_right _ (List.mem_of_getElem? (i := 673) (by decide +kernel)), rfl⟩
theorem li_674 : lwI (.constantLong "PlayReaderModel" 121 (31 : Int64)) := ⟨List.mem_append_right _ (List.mem_of_getElem? (i := 674) (by decide +kernel)), rfl⟩
theorem li_668 : lwI (.code ⟨"PlayReaderModel", "count", "(I)I"⟩ prog_8_method_38_code 5 (some .int)) := ⟨List.mem_append_right _ (List.mem_of_getElem? (i := 668) (by decide +kernel)), rfl⟩
theorem li_675 : lwI (.methodLink "PlayReaderModel" 123 ⟨"PlayReaderModel", "count", "(I)I"⟩) := ⟨List.mem_append_right _ (List.mem_of_getElem? (i := 675) (by decide +kernel)), rfl⟩
theorem li_666 : lwI (.instanceMethod ⟨"PlayReaderModel", "count", "(I)I"⟩) := ⟨List.mem_append_right _ (List.mem_of_getElem? (i := 666) (by decide +kernel)), rfl⟩
theorem li_667 : lwI (.selects "PlayReaderModel" ⟨"PlayReaderModel", "count", "(I)I"⟩ ⟨"PlayReaderModel", "count", "(I)I"⟩) := ⟨List.mem_append_right _ (List.mem_of_getElem? (i := 667) (by decide +kernel)), rfl⟩
theorem lay_X0 : ∀ k, k < 1 → (u_lay RX0 TX0 k) ∈ lw_tbl ∧ goodWord (u_lay RX0 TX0 k) = true := fun k hk => by
  have hp : ∀ j, j < 1 → tables_1[([33] : List Nat).getD j 0]? = some (u_lay RX0 TX0 j) ∧ goodWord (u_lay RX0 TX0 j) = true := by decide +kernel
  exact ⟨List.mem_append_right _ (List.mem_of_getElem? (hp k hk).1), (hp k hk).2⟩
theorem layw_X0 : ∀ w ∈ u_ws RX0 TX0 1, w ∈ lw_tbl ∧ goodWord w = true := fun w hw => by
  obtain ⟨k, hk, rfl⟩ := List.mem_map.mp hw
  exact lay_X0 k (List.mem_range.mp hk)
theorem lay_X1 : ∀ k, k < 3 → (u_lay RX1 TX1 k) ∈ lw_tbl ∧ goodWord (u_lay RX1 TX1 k) = true := fun k hk => by
  have hp : ∀ j, j < 3 → tables_1[([204, 206, 208] : List Nat).getD j 0]? = some (u_lay RX1 TX1 j) ∧ goodWord (u_lay RX1 TX1 j) = true := by decide +kernel
  exact ⟨List.mem_append_right _ (List.mem_of_getElem? (hp k hk).1), (hp k hk).2⟩
theorem layw_X1 : ∀ w ∈ u_ws RX1 TX1 3, w ∈ lw_tbl ∧ goodWord w = true := fun w hw => by
  obtain ⟨k, hk, rfl⟩ := List.mem_map.mp hw
  exact lay_X1 k (List.mem_range.mp hk)
theorem lay_X2 : ∀ k, k < 2 → (u_lay RX2 TX2 k) ∈ lw_tbl ∧ goodWord (u_lay RX2 TX2 k) = true := fun k hk => by
  have hp : ∀ j, j < 2 → tables_1[([54, 56] : List Nat).getD j 0]? = some (u_lay RX2 TX2 j) ∧ goodWord (u_lay RX2 TX2 j) = true := by decide +kernel
  exact ⟨List.mem_append_right _ (List.mem_of_getElem? (hp k hk).1), (hp k hk).2⟩
theorem layw_X2 : ∀ w ∈ u_ws RX2 TX2 2, w ∈ lw_tbl ∧ goodWord w = true := fun w hw => by
  obtain ⟨k, hk, rfl⟩ := List.mem_map.mp hw
  exact lay_X2 k (List.mem_range.mp hk)
theorem lay_X3 : ∀ k, k < 4 → (u_lay RX3 TX3 k) ∈ lw_tbl ∧ goodWord (u_lay RX3 TX3 k) = true := fun k hk => by
  have hp : ∀ j, j < 4 → tables_1[([339, 341, 343, 345] : List Nat).getD j 0]? = some (u_lay RX3 TX3 j) ∧ goodWord (u_lay RX3 TX3 j) = true := by decide +kernel
  exact ⟨List.mem_append_right _ (List.mem_of_getElem? (hp k hk).1), (hp k hk).2⟩
theorem layw_X3 : ∀ w ∈ u_ws RX3 TX3 4, w ∈ lw_tbl ∧ goodWord w = true := fun w hw => by
  obtain ⟨k, hk, rfl⟩ := List.mem_map.mp hw
  exact lay_X3 k (List.mem_range.mp hk)
theorem lay_X4 : ∀ k, k < 3 → (u_lay RX4 TX4 k) ∈ lw_tbl ∧ goodWord (u_lay RX4 TX4 k) = true := fun k hk => by
  have hp : ∀ j, j < 3 → tables_1[([64, 66, 68] : List Nat).getD j 0]? = some (u_lay RX4 TX4 j) ∧ goodWord (u_lay RX4 TX4 j) = true := by decide +kernel
  exact ⟨List.mem_append_right _ (List.mem_of_getElem? (hp k hk).1), (hp k hk).2⟩
theorem layw_X4 : ∀ w ∈ u_ws RX4 TX4 3, w ∈ lw_tbl ∧ goodWord w = true := fun w hw => by
  obtain ⟨k, hk, rfl⟩ := List.mem_map.mp hw
  exact lay_X4 k (List.mem_range.mp hk)
theorem lay_X5 : ∀ k, k < 10 → (u_lay RX5 TX5 k) ∈ lw_tbl ∧ goodWord (u_lay RX5 TX5 k) = true := fun k hk => by
  have hp : ∀ j, j < 10 → tables_1[([82, 84, 86, 88, 90, 92, 94, 96, 98, 100] : List Nat).getD j 0]? = some (u_lay RX5 TX5 j) ∧ goodWord (u_lay RX5 TX5 j) = true := by decide +kernel
  exact ⟨List.mem_append_right _ (List.mem_of_getElem? (hp k hk).1), (hp k hk).2⟩
theorem layw_X5 : ∀ w ∈ u_ws RX5 TX5 10, w ∈ lw_tbl ∧ goodWord w = true := fun w hw => by
  obtain ⟨k, hk, rfl⟩ := List.mem_map.mp hw
  exact lay_X5 k (List.mem_range.mp hk)
theorem lay_X6 : ∀ k, k < 20 → (u_lay RX6 TX6 k) ∈ lw_tbl ∧ goodWord (u_lay RX6 TX6 k) = true := fun k hk => by
  have hp : ∀ j, j < 20 → tables_1[([485, 487, 489, 491, 493, 495, 497, 499, 501, 503, 505, 507, 509, 511, 513, 515, 517, 519, 521, 523] : List Nat).getD j 0]? = some (u_lay RX6 TX6 j) ∧ goodWord (u_lay RX6 TX6 j) = true := by decide +kernel
  exact ⟨List.mem_append_right _ (List.mem_of_getElem? (hp k hk).1), (hp k hk).2⟩
theorem layw_X6 : ∀ w ∈ u_ws RX6 TX6 20, w ∈ lw_tbl ∧ goodWord w = true := fun w hw => by
  obtain ⟨k, hk, rfl⟩ := List.mem_map.mp hw
  exact lay_X6 k (List.mem_range.mp hk)
theorem lay_all : ∀ (ci : Nat) (q : vw_C), vwCl[ci]? = some q → ∀ w ∈ u_ws q.1 q.2.1 q.2.2, w ∈ lw_tbl ∧ goodWord w = true
  | 0, q, h => by cases h; exact layw_X0
  | 1, q, h => by cases h; exact layw_X1
  | 2, q, h => by cases h; exact layw_X2
  | 3, q, h => by cases h; exact layw_X3
  | 4, q, h => by cases h; exact layw_X4
  | 5, q, h => by cases h; exact layw_X5
  | 6, q, h => by cases h; exact layw_X6
  | k + 7, q, h => by simp [vwCl] at h
theorem oi_X5_1 : lwI (.methodLink RX5 1 objectInit) ∧ lwI (.instanceMethod objectInit) ∧ lwI (.code objectInit ⟨#[0xb1]⟩ 1 none) := ⟨li_15, li_16, li_17⟩
theorem cl_X5_9 : lwI (.classLink RX5 9 "PlayReader$Row") := li_18
theorem fp_X5_11 : FP RX5 11 5 0 true (.array (.object "PlayReader$Row")) := ⟨RX5, TX5, 10, RX5, tyX5, rfl, by decide, rfl, li_72, tyX5_ok, nmX5, rfl, by decide +kernel, fun _ => rfl⟩
theorem fp_X5_15 : FP RX5 15 5 1 true (.array (.object "PlayReader$Row")) := ⟨RX5, TX5, 10, RX5, tyX5, rfl, by decide, rfl, li_73, tyX5_ok, nmX5, rfl, by decide +kernel, fun _ => rfl⟩
theorem cl_X5_18 : lwI (.classLink RX5 18 "PlayReader$Condition") := li_20
theorem fp_X5_20 : FP RX5 20 5 2 true (.array (.object "PlayReader$Condition")) := ⟨RX5, TX5, 10, RX5, tyX5, rfl, by decide, rfl, li_74, tyX5_ok, nmX5, rfl, by decide +kernel, fun _ => rfl⟩
theorem cl_X5_24 : lwI (.classLink RX5 24 "PlayReader$Rule") := li_22
theorem fp_X5_26 : FP RX5 26 5 3 true (.array (.object "PlayReader$Rule")) := ⟨RX5, TX5, 10, RX5, tyX5, rfl, by decide, rfl, li_75, tyX5_ok, nmX5, rfl, by decide +kernel, fun _ => rfl⟩
theorem fp_X5_30 : FP RX5 30 5 4 true (.array .int) := ⟨RX5, TX5, 10, RX5, tyX5, rfl, by decide, rfl, li_76, tyX5_ok, nmX5, rfl, by decide +kernel, fun _ => rfl⟩
theorem nw_X5_34 : lwI (.classLink RX5 34 RX0) ∧ lwI (.instantiable RX0 1) ∧ lwI (.initialized RX0) := ⟨li_24, li_25, li_2⟩
theorem cf_X5_36 : CFn RX5 36 yX0_init cX0_init 1 none 0 := ⟨li_2, li_28, ⟨by decide +kernel, by decide +kernel⟩, by decide +kernel⟩
theorem ci_X0_init : yX0_init.name = "<init>" ∧ lwI (.instanceMethod yX0_init) := ⟨rfl, li_27⟩
theorem fp_X5_37 : FP RX5 37 5 5 true (.object "PlayReader$Changes") := ⟨RX5, TX5, 10, RX5, tyX5, rfl, by decide, rfl, li_77, tyX5_ok, nmX5, rfl, by decide +kernel, fun _ => rfl⟩
theorem nw_X5_41 : lwI (.classLink RX5 41 RX4) ∧ lwI (.instantiable RX4 3) ∧ lwI (.initialized RX4) := ⟨li_37, li_38, li_3⟩
theorem cf_X5_43 : CFn RX5 43 yX4_init cX4_init 1 none 0 := ⟨li_3, li_41, ⟨by decide +kernel, by decide +kernel⟩, by decide +kernel⟩
theorem ci_X4_init : yX4_init.name = "<init>" ∧ lwI (.instanceMethod yX4_init) := ⟨rfl, li_40⟩
theorem fp_X5_44 : FP RX5 44 5 6 true (.object "PlayReader$TourPlan") := ⟨RX5, TX5, 10, RX5, tyX5, rfl, by decide, rfl, li_78, tyX5_ok, nmX5, rfl, by decide +kernel, fun _ => rfl⟩
theorem nw_X5_9 : lwI (.classLink RX5 9 RX2) ∧ lwI (.instantiable RX2 2) ∧ lwI (.initialized RX2) := ⟨li_18, li_44, li_4⟩
theorem cf_X5_48 : CFn RX5 48 yX2_init cX2_init 1 none 0 := ⟨li_4, li_47, ⟨by decide +kernel, by decide +kernel⟩, by decide +kernel⟩
theorem ci_X2_init : yX2_init.name = "<init>" ∧ lwI (.instanceMethod yX2_init) := ⟨rfl, li_46⟩
theorem fp_X5_49 : FP RX5 49 5 7 true (.object "PlayReader$Row") := ⟨RX5, TX5, 10, RX5, tyX5, rfl, by decide, rfl, li_79, tyX5_ok, nmX5, rfl, by decide +kernel, fun _ => rfl⟩
theorem fp_X5_53 : FP RX5 53 5 8 false .int := ⟨RX5, TX5, 10, RX5, tyX5, rfl, by decide, rfl, li_80, tyX5_ok, nmX5, rfl, by decide +kernel, fun h => by cases h⟩
theorem fp_X5_57 : FP RX5 57 5 9 false .int := ⟨RX5, TX5, 10, RX5, tyX5, rfl, by decide, rfl, li_81, tyX5_ok, nmX5, rfl, by decide +kernel, fun h => by cases h⟩
theorem fa_X5_11 : FA RX5 11 5 0 := ⟨RX5, TX5, 10, RX5, rfl, by decide, rfl, li_72⟩
theorem fa_X5_15 : FA RX5 15 5 1 := ⟨RX5, TX5, 10, RX5, rfl, by decide, rfl, li_73⟩
theorem oi_X0_3 : lwI (.methodLink RX0 3 objectInit) ∧ lwI (.instanceMethod objectInit) ∧ lwI (.code objectInit ⟨#[0xb1]⟩ 1 none) := ⟨li_29, li_16, li_17⟩
theorem cl_X0_9 : lwI (.classLink RX0 9 "[[I") := li_30
theorem fp_X0_11 : FP RX0 11 0 0 true (.array (.array .int)) := ⟨RX0, TX0, 1, RX0, tyX0, rfl, by decide, rfl, li_32, tyX0_ok, nmX0, rfl, by decide +kernel, fun _ => rfl⟩
theorem oi_X4_3 : lwI (.methodLink RX4 3 objectInit) ∧ lwI (.instanceMethod objectInit) ∧ lwI (.code objectInit ⟨#[0xb1]⟩ 1 none) := ⟨li_42, li_16, li_17⟩
theorem nw_X4_9 : lwI (.classLink RX4 9 RX2) ∧ lwI (.instantiable RX2 2) ∧ lwI (.initialized RX2) := ⟨li_43, li_44, li_4⟩
theorem cf_X4_11 : CFn RX4 11 yX2_init cX2_init 1 none 0 := ⟨li_4, li_47, ⟨by decide +kernel, by decide +kernel⟩, by decide +kernel⟩
theorem fp_X4_12 : FP RX4 12 4 0 true (.object "PlayReader$Row") := ⟨RX4, TX4, 3, RX4, tyX4, rfl, by decide, rfl, li_60, tyX4_ok, nmX4, rfl, by decide +kernel, fun _ => rfl⟩
theorem cl_X4_18 : lwI (.classLink RX4 18 "[[I") := li_59
theorem fp_X4_20 : FP RX4 20 4 1 true (.array (.array .int)) := ⟨RX4, TX4, 3, RX4, tyX4, rfl, by decide, rfl, li_62, tyX4_ok, nmX4, rfl, by decide +kernel, fun _ => rfl⟩
theorem fp_X4_23 : FP RX4 23 4 2 true (.array .int) := ⟨RX4, TX4, 3, RX4, tyX4, rfl, by decide, rfl, li_63, tyX4_ok, nmX4, rfl, by decide +kernel, fun _ => rfl⟩
theorem oi_X2_3 : lwI (.methodLink RX2 3 objectInit) ∧ lwI (.instanceMethod objectInit) ∧ lwI (.code objectInit ⟨#[0xb1]⟩ 1 none) := ⟨li_48, li_16, li_17⟩
theorem fp_X2_9 : FP RX2 9 2 0 true (.array .int) := ⟨RX2, TX2, 2, RX2, tyX2, rfl, by decide, rfl, li_49, tyX2_ok, nmX2, rfl, by decide +kernel, fun _ => rfl⟩
theorem fp_X2_15 : FP RX2 15 2 1 false .int := ⟨RX2, TX2, 2, RX2, tyX2, rfl, by decide, rfl, li_50, tyX2_ok, nmX2, rfl, by decide +kernel, fun h => by cases h⟩
theorem cf_X5_60 : CF RX5 60 yX5_rowOf cX5_rowOf 2 (some (.object "PlayReader$Row")) 2 := ⟨li_107, li_1, li_109, ⟨by decide +kernel, by decide +kernel⟩, by decide +kernel⟩
theorem cs_X5_rowOf : lwI (.static yX5_rowOf) := li_108
theorem fa_X5_64 : FA RX5 64 2 1 := ⟨RX2, TX2, 2, RX2, rfl, by decide, rfl, li_52⟩
theorem cf_X5_67 : CF RX5 67 yX5_isLine cX5_isLine 1 (some .boolean) 1 := ⟨li_110, li_1, li_112, ⟨by decide +kernel, by decide +kernel⟩, by decide +kernel⟩
theorem cs_X5_isLine : lwI (.static yX5_isLine) := li_111
theorem cf_X5_71 : CF RX5 71 yX2_isFull cX2_isFull 1 (some .boolean) 0 := ⟨li_113, li_4, li_116, ⟨by decide +kernel, by decide +kernel⟩, by decide +kernel⟩
theorem cv_X2_isFull : lwI (.instanceMethod yX2_isFull) ∧ lwI (.selects yX2_isFull.cls yX2_isFull yX2_isFull) := ⟨li_114, li_115⟩
theorem cf_X5_75 : CF RX5 75 yX2_insert cX2_insert 4 none 2 := ⟨li_117, li_4, li_120, ⟨by decide +kernel, by decide +kernel⟩, by decide +kernel⟩
theorem cv_X2_insert : lwI (.instanceMethod yX2_insert) ∧ lwI (.selects yX2_insert.cls yX2_insert yX2_insert) := ⟨li_118, li_119⟩
theorem fa_X2_15 : FA RX2 15 2 1 := ⟨RX2, TX2, 2, RX2, rfl, by decide, rfl, li_50⟩
theorem fa_X2_9 : FA RX2 9 2 0 := ⟨RX2, TX2, 2, RX2, rfl, by decide, rfl, li_49⟩
theorem cf_X2_23 : CF RX2 23 yX2_isFull cX2_isFull 1 (some .boolean) 0 := ⟨li_121, li_4, li_116, ⟨by decide +kernel, by decide +kernel⟩, by decide +kernel⟩
theorem cf_X5_79 : CF RX5 79 yX2_has cX2_has 2 (some .boolean) 1 := ⟨li_126, li_4, li_129, ⟨by decide +kernel, by decide +kernel⟩, by decide +kernel⟩
theorem cv_X2_has : lwI (.instanceMethod yX2_has) ∧ lwI (.selects yX2_has.cls yX2_has yX2_has) := ⟨li_127, li_128⟩
theorem cf_X5_82 : CF RX5 82 yX2_at cX2_at 2 (some .int) 1 := ⟨li_130, li_4, li_133, ⟨by decide +kernel, by decide +kernel⟩, by decide +kernel⟩
theorem cv_X2_at : lwI (.instanceMethod yX2_at) ∧ lwI (.selects yX2_at.cls yX2_at yX2_at) := ⟨li_131, li_132⟩
theorem cf_X5_86 : CF RX5 86 yX2_remove cX2_remove 3 none 1 := ⟨li_135, li_4, li_138, ⟨by decide +kernel, by decide +kernel⟩, by decide +kernel⟩
theorem cv_X2_remove : lwI (.instanceMethod yX2_remove) ∧ lwI (.selects yX2_remove.cls yX2_remove yX2_remove) := ⟨li_136, li_137⟩
theorem cf_X2_19 : CF RX2 19 yX2_has cX2_has 2 (some .boolean) 1 := ⟨li_134, li_4, li_129, ⟨by decide +kernel, by decide +kernel⟩, by decide +kernel⟩
theorem cf_X5_90 : CF RX5 90 yX2_become cX2_become 3 none 1 := ⟨li_143, li_4, li_146, ⟨by decide +kernel, by decide +kernel⟩, by decide +kernel⟩
theorem cv_X2_become : lwI (.instanceMethod yX2_become) ∧ lwI (.selects yX2_become.cls yX2_become yX2_become) := ⟨li_144, li_145⟩
theorem cf_X2_27 : CF RX2 27 yX2_at cX2_at 2 (some .int) 1 := ⟨li_147, li_4, li_133, ⟨by decide +kernel, by decide +kernel⟩, by decide +kernel⟩
theorem fa_X5_37 : FA RX5 37 5 5 := ⟨RX5, TX5, 10, RX5, rfl, by decide, rfl, li_77⟩
theorem cf_X5_94 : CF RX5 94 yX0_compare cX0_compare 5 none 2 := ⟨li_156, li_2, li_159, ⟨by decide +kernel, by decide +kernel⟩, by decide +kernel⟩
theorem cv_X0_compare : lwI (.instanceMethod yX0_compare) ∧ lwI (.selects yX0_compare.cls yX0_compare yX0_compare) := ⟨li_157, li_158⟩
theorem cf_X5_98 : CF RX5 98 yX0_difference cX0_difference 1 (some .int) 0 := ⟨li_173, li_2, li_176, ⟨by decide +kernel, by decide +kernel⟩, by decide +kernel⟩
theorem cv_X0_difference : lwI (.instanceMethod yX0_difference) ∧ lwI (.selects yX0_difference.cls yX0_difference yX0_difference) := ⟨li_174, li_175⟩
theorem fa_X0_16 : FA RX0 16 2 1 := ⟨RX2, TX2, 2, RX2, rfl, by decide, rfl, li_51⟩
theorem fa_X0_11 : FA RX0 11 0 0 := ⟨RX0, TX0, 1, RX0, rfl, by decide, rfl, li_32⟩
theorem cf_X0_22 : CF RX0 22 yX0_differenceFrom cX0_differenceFrom 5 (some .int) 4 := ⟨li_160, li_2, li_163, ⟨by decide +kernel, by decide +kernel⟩, by decide +kernel⟩
theorem cv_X0_differenceFrom : lwI (.instanceMethod yX0_differenceFrom) ∧ lwI (.selects yX0_differenceFrom.cls yX0_differenceFrom yX0_differenceFrom) := ⟨li_161, li_162⟩
theorem cf_X0_30 : CF RX0 30 yX2_has cX2_has 2 (some .boolean) 1 := ⟨li_164, li_4, li_129, ⟨by decide +kernel, by decide +kernel⟩, by decide +kernel⟩
theorem cf_X0_34 : CF RX0 34 yX2_at cX2_at 2 (some .int) 1 := ⟨li_165, li_4, li_133, ⟨by decide +kernel, by decide +kernel⟩, by decide +kernel⟩
theorem cf_X0_26 : CF RX0 26 yX0_leftFrom cX0_leftFrom 3 (some .int) 2 := ⟨li_166, li_2, li_169, ⟨by decide +kernel, by decide +kernel⟩, by decide +kernel⟩
theorem cv_X0_leftFrom : lwI (.instanceMethod yX0_leftFrom) ∧ lwI (.selects yX0_leftFrom.cls yX0_leftFrom yX0_leftFrom) := ⟨li_167, li_168⟩
theorem mm_X0_38 : lwI (.methodLink RX0 38 Lib.Math.min.name) ∧ lwI (.static Lib.Math.min.name) ∧ lwI (.initialized "java/lang/Math") ∧ lwI (.code Lib.Math.min.name Lib.Math.min.code 2 (some .int)) := ⟨li_170, li_171, li_6, li_172⟩
theorem cf_X5_102 : CF RX5 102 yX0_stepAt cX0_stepAt 8 (some .int) 3 := ⟨li_181, li_2, li_184, ⟨by decide +kernel, by decide +kernel⟩, by decide +kernel⟩
theorem cv_X0_stepAt : lwI (.instanceMethod yX0_stepAt) ∧ lwI (.selects yX0_stepAt.cls yX0_stepAt yX0_stepAt) := ⟨li_182, li_183⟩
theorem cf_X0_43 : CF RX0 43 yX0_stepFrom cX0_stepFrom 6 (some .int) 4 := ⟨li_185, li_2, li_188, ⟨by decide +kernel, by decide +kernel⟩, by decide +kernel⟩
theorem cv_X0_stepFrom : lwI (.instanceMethod yX0_stepFrom) ∧ lwI (.selects yX0_stepFrom.cls yX0_stepFrom yX0_stepFrom) := ⟨li_186, li_187⟩
theorem fa_X5_53 : FA RX5 53 5 8 := ⟨RX5, TX5, 10, RX5, rfl, by decide, rfl, li_80⟩
theorem fa_X5_20 : FA RX5 20 5 2 := ⟨RX5, TX5, 10, RX5, rfl, by decide, rfl, li_74⟩
theorem nw_X5_18 : lwI (.classLink RX5 18 RX1) ∧ lwI (.instantiable RX1 3) ∧ lwI (.initialized RX1) := ⟨li_20, li_193, li_7⟩
theorem cf_X5_106 : CF RX5 106 yX1_init cX1_init 4 none 3 := ⟨li_194, li_7, li_196, ⟨by decide +kernel, by decide +kernel⟩, by decide +kernel⟩
theorem ci_X1_init : yX1_init.name = "<init>" ∧ lwI (.instanceMethod yX1_init) := ⟨rfl, li_195⟩
theorem oi_X1_3 : lwI (.methodLink RX1 3 objectInit) ∧ lwI (.instanceMethod objectInit) ∧ lwI (.code objectInit ⟨#[0xb1]⟩ 1 none) := ⟨li_197, li_16, li_17⟩
theorem fp_X1_9 : FP RX1 9 1 0 true .int := ⟨RX1, TX1, 3, RX1, tyX1, rfl, by decide, rfl, li_198, tyX1_ok, nmX1, rfl, by decide +kernel, fun _ => rfl⟩
theorem fp_X1_15 : FP RX1 15 1 1 true .int := ⟨RX1, TX1, 3, RX1, tyX1, rfl, by decide, rfl, li_200, tyX1_ok, nmX1, rfl, by decide +kernel, fun _ => rfl⟩
theorem fp_X1_18 : FP RX1 18 1 2 true .int := ⟨RX1, TX1, 3, RX1, tyX1, rfl, by decide, rfl, li_202, tyX1_ok, nmX1, rfl, by decide +kernel, fun _ => rfl⟩
theorem cf_X5_109 : CF RX5 109 yX5_conditionOf cX5_conditionOf 2 (some (.object "PlayReader$Condition")) 1 := ⟨li_219, li_1, li_222, ⟨by decide +kernel, by decide +kernel⟩, by decide +kernel⟩
theorem cv_X5_conditionOf : lwI (.instanceMethod yX5_conditionOf) ∧ lwI (.selects yX5_conditionOf.cls yX5_conditionOf yX5_conditionOf) := ⟨li_221, ls_0⟩
theorem cf_X5_113 : CF RX5 113 yX5_judgementOf cX5_judgementOf 2 (some .int) 2 := ⟨li_223, li_1, li_225, ⟨by decide +kernel, by decide +kernel⟩, by decide +kernel⟩
theorem cs_X5_judgementOf : lwI (.static yX5_judgementOf) := li_224
theorem cf_X5_212 : CF RX5 212 yX1_judgement cX1_judgement 7 (some .int) 1 := ⟨li_226, li_7, li_229, ⟨by decide +kernel, by decide +kernel⟩, by decide +kernel⟩
theorem cv_X1_judgement : lwI (.instanceMethod yX1_judgement) ∧ lwI (.selects yX1_judgement.cls yX1_judgement yX1_judgement) := ⟨li_227, li_228⟩
theorem cf_X1_21 : CF RX1 21 yX1_statesBehind cX1_statesBehind 6 (some .long) 1 := ⟨li_230, li_7, li_233, ⟨by decide +kernel, by decide +kernel⟩, by decide +kernel⟩
theorem cv_X1_statesBehind : lwI (.instanceMethod yX1_statesBehind) ∧ lwI (.selects yX1_statesBehind.cls yX1_statesBehind yX1_statesBehind) := ⟨li_231, li_232⟩
theorem cf_X1_25 : CF RX1 25 yX1_lastState cX1_lastState 1 (some .int) 0 := ⟨li_239, li_7, li_242, ⟨by decide +kernel, by decide +kernel⟩, by decide +kernel⟩
theorem cv_X1_lastState : lwI (.instanceMethod yX1_lastState) ∧ lwI (.selects yX1_lastState.cls yX1_lastState yX1_lastState) := ⟨li_240, li_241⟩
theorem cf_X1_29 : CFn RX1 29 yX5_hasBit cX5_hasBit 3 (some .boolean) 2 := ⟨li_1, li_245, ⟨by decide +kernel, by decide +kernel⟩, by decide +kernel⟩
theorem cs_X5_hasBit : lwI (.static yX5_hasBit) := li_244
theorem cf_X1_33 : CF RX1 33 yX1_isBroken cX1_isBroken 2 (some .boolean) 1 := ⟨li_254, li_7, li_257, ⟨by decide +kernel, by decide +kernel⟩, by decide +kernel⟩
theorem cv_X1_isBroken : lwI (.instanceMethod yX1_isBroken) ∧ lwI (.selects yX1_isBroken.cls yX1_isBroken yX1_isBroken) := ⟨li_255, li_256⟩
theorem fa_X1_37 : FA RX1 37 2 1 := ⟨RX2, TX2, 2, RX2, rfl, by decide, rfl, li_53⟩
theorem cf_X1_42 : CF RX1 42 yX2_at cX2_at 2 (some .int) 1 := ⟨li_234, li_4, li_133, ⟨by decide +kernel, by decide +kernel⟩, by decide +kernel⟩
theorem cf_X1_46 : CF RX1 46 yX1_statesBehindGap cX1_statesBehindGap 9 (some .long) 1 := ⟨li_235, li_7, li_238, ⟨by decide +kernel, by decide +kernel⟩, by decide +kernel⟩
theorem cv_X1_statesBehindGap : lwI (.instanceMethod yX1_statesBehindGap) ∧ lwI (.selects yX1_statesBehindGap.cls yX1_statesBehindGap yX1_statesBehindGap) := ⟨li_236, li_237⟩
theorem cf_X1_50 : CF RX1 50 yX1_statesBehindLine cX1_statesBehindLine 7 (some .long) 2 := ⟨li_250, li_7, li_253, ⟨by decide +kernel, by decide +kernel⟩, by decide +kernel⟩
theorem cv_X1_statesBehindLine : lwI (.instanceMethod yX1_statesBehindLine) ∧ lwI (.selects yX1_statesBehindLine.cls yX1_statesBehindLine yX1_statesBehindLine) := ⟨li_251, li_252⟩
theorem fa_X1_15 : FA RX1 15 1 1 := ⟨RX1, TX1, 3, RX1, rfl, by decide, rfl, li_200⟩
theorem cf_X1_54 : CF RX1 54 yX1_next cX1_next 3 (some .int) 2 := ⟨li_246, li_7, li_249, ⟨by decide +kernel, by decide +kernel⟩, by decide +kernel⟩
theorem cv_X1_next : lwI (.instanceMethod yX1_next) ∧ lwI (.selects yX1_next.cls yX1_next yX1_next) := ⟨li_247, li_248⟩
theorem fa_X1_18 : FA RX1 18 1 2 := ⟨RX1, TX1, 3, RX1, rfl, by decide, rfl, li_202⟩
theorem fa_X1_9 : FA RX1 9 1 0 := ⟨RX1, TX1, 3, RX1, rfl, by decide, rfl, li_198⟩
theorem cf_X5_117 : CF RX5 117 yX2_empty cX2_empty 1 none 0 := ⟨li_266, li_4, li_269, ⟨by decide +kernel, by decide +kernel⟩, by decide +kernel⟩
theorem cv_X2_empty : lwI (.instanceMethod yX2_empty) ∧ lwI (.selects yX2_empty.cls yX2_empty yX2_empty) := ⟨li_267, li_268⟩
theorem mm_X5_120 : lwI (.methodLink RX5 120 Lib.Math.max.name) ∧ lwI (.static Lib.Math.max.name) ∧ lwI (.initialized "java/lang/Math") ∧ lwI (.code Lib.Math.max.name Lib.Math.max.code 2 (some .int)) := ⟨li_282, li_283, li_6, li_284⟩
theorem fa_X5_49 : FA RX5 49 5 7 := ⟨RX5, TX5, 10, RX5, rfl, by decide, rfl, li_79⟩
theorem cf_X5_126 : CF RX5 126 yX5_isQuarrel cX5_isQuarrel 2 (some .boolean) 2 := ⟨li_289, li_1, li_291, ⟨by decide +kernel, by decide +kernel⟩, by decide +kernel⟩
theorem cs_X5_isQuarrel : lwI (.static yX5_isQuarrel) := li_290
theorem cf_X5_130 : CF RX5 130 yX5_heardByTwo cX5_heardByTwo 2 (some .int) 2 := ⟨li_292, li_1, li_294, ⟨by decide +kernel, by decide +kernel⟩, by decide +kernel⟩
theorem cs_X5_heardByTwo : lwI (.static yX5_heardByTwo) := li_293
theorem cf_X5_133 : CF RX5 133 yX5_placesBehind cX5_placesBehind 6 (some .long) 2 := ⟨li_299, li_1, li_301, ⟨by decide +kernel, by decide +kernel⟩, by decide +kernel⟩
theorem cs_X5_placesBehind : lwI (.static yX5_placesBehind) := li_300
theorem cf_X5_137 : CF RX5 137 yX5_hasBit cX5_hasBit 3 (some .boolean) 2 := ⟨li_305, li_1, li_245, ⟨by decide +kernel, by decide +kernel⟩, by decide +kernel⟩
theorem cf_X5_215 : CF RX5 215 yX5_placesBehindGap cX5_placesBehindGap 6 (some .long) 2 := ⟨li_302, li_1, li_304, ⟨by decide +kernel, by decide +kernel⟩, by decide +kernel⟩
theorem cs_X5_placesBehindGap : lwI (.static yX5_placesBehindGap) := li_303
theorem cf_X5_219 : CF RX5 219 yX5_placesBehindLine cX5_placesBehindLine 7 (some .long) 3 := ⟨li_306, li_1, li_308, ⟨by decide +kernel, by decide +kernel⟩, by decide +kernel⟩
theorem cs_X5_placesBehindLine : lwI (.static yX5_placesBehindLine) := li_307
theorem cf_X5_141 : CF RX5 141 yX5_isMarks cX5_isMarks 1 (some .boolean) 1 := ⟨li_313, li_1, li_315, ⟨by decide +kernel, by decide +kernel⟩, by decide +kernel⟩
theorem cs_X5_isMarks : lwI (.static yX5_isMarks) := li_314
theorem fa_X5_30 : FA RX5 30 5 4 := ⟨RX5, TX5, 10, RX5, rfl, by decide, rfl, li_76⟩
theorem cf_X5_144 : CF RX5 144 yX5_isTown cX5_isTown 1 (some .boolean) 1 := ⟨li_320, li_1, li_322, ⟨by decide +kernel, by decide +kernel⟩, by decide +kernel⟩
theorem cs_X5_isTown : lwI (.static yX5_isTown) := li_321
theorem cf_X5_147 : CF RX5 147 yX5_isDay cX5_isDay 1 (some .boolean) 1 := ⟨li_323, li_1, li_325, ⟨by decide +kernel, by decide +kernel⟩, by decide +kernel⟩
theorem cs_X5_isDay : lwI (.static yX5_isDay) := li_324
theorem fa_X5_57 : FA RX5 57 5 9 := ⟨RX5, TX5, 10, RX5, rfl, by decide, rfl, li_81⟩
theorem fa_X5_26 : FA RX5 26 5 3 := ⟨RX5, TX5, 10, RX5, rfl, by decide, rfl, li_75⟩
theorem nw_X5_24 : lwI (.classLink RX5 24 RX3) ∧ lwI (.instantiable RX3 4) ∧ lwI (.initialized RX3) := ⟨li_22, li_326, li_8⟩
theorem cf_X5_150 : CF RX5 150 yX3_init cX3_init 5 none 4 := ⟨li_327, li_8, li_329, ⟨by decide +kernel, by decide +kernel⟩, by decide +kernel⟩
theorem ci_X3_init : yX3_init.name = "<init>" ∧ lwI (.instanceMethod yX3_init) := ⟨rfl, li_328⟩
theorem oi_X3_1 : lwI (.methodLink RX3 1 objectInit) ∧ lwI (.instanceMethod objectInit) ∧ lwI (.code objectInit ⟨#[0xb1]⟩ 1 none) := ⟨li_330, li_16, li_17⟩
theorem fp_X3_7 : FP RX3 7 3 0 true .int := ⟨RX3, TX3, 4, RX3, tyX3, rfl, by decide, rfl, li_331, tyX3_ok, nmX3, rfl, by decide +kernel, fun _ => rfl⟩
theorem fp_X3_13 : FP RX3 13 3 1 true .int := ⟨RX3, TX3, 4, RX3, tyX3, rfl, by decide, rfl, li_333, tyX3_ok, nmX3, rfl, by decide +kernel, fun _ => rfl⟩
theorem fp_X3_16 : FP RX3 16 3 2 true .int := ⟨RX3, TX3, 4, RX3, tyX3, rfl, by decide, rfl, li_335, tyX3_ok, nmX3, rfl, by decide +kernel, fun _ => rfl⟩
theorem fp_X3_19 : FP RX3 19 3 3 true .int := ⟨RX3, TX3, 4, RX3, tyX3, rfl, by decide, rfl, li_337, tyX3_ok, nmX3, rfl, by decide +kernel, fun _ => rfl⟩
theorem cf_X5_153 : CF RX5 153 yX5_forbiddenMarks cX5_forbiddenMarks 6 (some .int) 2 := ⟨li_352, li_1, li_355, ⟨by decide +kernel, by decide +kernel⟩, by decide +kernel⟩
theorem cv_X5_forbiddenMarks : lwI (.instanceMethod yX5_forbiddenMarks) ∧ lwI (.selects yX5_forbiddenMarks.cls yX5_forbiddenMarks yX5_forbiddenMarks) := ⟨li_354, ls_1⟩
theorem cf_X5_156 : CF RX5 156 yX5_linesWith cX5_linesWith 5 (some .int) 2 := ⟨li_364, li_1, li_367, ⟨by decide +kernel, by decide +kernel⟩, by decide +kernel⟩
theorem cv_X5_linesWith : lwI (.instanceMethod yX5_linesWith) ∧ lwI (.selects yX5_linesWith.cls yX5_linesWith yX5_linesWith) := ⟨li_366, ls_3⟩
theorem cf_X5_223 : CF RX5 223 yX5_ruleOf cX5_ruleOf 2 (some (.object "PlayReader$Rule")) 1 := ⟨li_356, li_1, li_359, ⟨by decide +kernel, by decide +kernel⟩, by decide +kernel⟩
theorem cv_X5_ruleOf : lwI (.instanceMethod yX5_ruleOf) ∧ lwI (.selects yX5_ruleOf.cls yX5_ruleOf yX5_ruleOf) := ⟨li_358, ls_2⟩
theorem cf_X5_227 : CF RX5 227 yX3_isInForce cX3_isInForce 3 (some .boolean) 2 := ⟨li_360, li_8, li_363, ⟨by decide +kernel, by decide +kernel⟩, by decide +kernel⟩
theorem cv_X3_isInForce : lwI (.instanceMethod yX3_isInForce) ∧ lwI (.selects yX3_isInForce.cls yX3_isInForce yX3_isInForce) := ⟨li_361, li_362⟩
theorem fa_X5_230 : FA RX5 230 3 1 := ⟨RX3, TX3, 4, RX3, rfl, by decide, rfl, li_334⟩
theorem fa_X3_7 : FA RX3 7 3 0 := ⟨RX3, TX3, 4, RX3, rfl, by decide, rfl, li_331⟩
theorem fa_X3_16 : FA RX3 16 3 2 := ⟨RX3, TX3, 4, RX3, rfl, by decide, rfl, li_335⟩
theorem fa_X3_19 : FA RX3 19 3 3 := ⟨RX3, TX3, 4, RX3, rfl, by decide, rfl, li_337⟩
theorem cf_X5_160 : CF RX5 160 yX5_marksOf cX5_marksOf 2 (some .int) 1 := ⟨li_368, li_1, li_371, ⟨by decide +kernel, by decide +kernel⟩, by decide +kernel⟩
theorem cv_X5_marksOf : lwI (.instanceMethod yX5_marksOf) ∧ lwI (.selects yX5_marksOf.cls yX5_marksOf yX5_marksOf) := ⟨li_370, ls_4⟩
theorem cf_X5_163 : CF RX5 163 yJ6_bitCount_0f7a4 cJ6_bitCount_0f7a4 1 (some .int) 1 := ⟨li_380, li_9, li_382, ⟨by decide +kernel, by decide +kernel⟩, by decide +kernel⟩
theorem cs_J6_bitCount_0f7a4 : lwI (.static yJ6_bitCount_0f7a4) := li_381
theorem fa_X5_44 : FA RX5 44 5 6 := ⟨RX5, TX5, 10, RX5, rfl, by decide, rfl, li_78⟩
theorem cf_X5_168 : CF RX5 168 yX4_setCuts cX4_setCuts 4 none 3 := ⟨li_386, li_3, li_389, ⟨by decide +kernel, by decide +kernel⟩, by decide +kernel⟩
theorem cv_X4_setCuts : lwI (.instanceMethod yX4_setCuts) ∧ lwI (.selects yX4_setCuts.cls yX4_setCuts yX4_setCuts) := ⟨li_387, li_388⟩
theorem cf_X5_171 : CF RX5 171 yX4_find cX4_find 5 (some .int) 1 := ⟨li_391, li_3, li_394, ⟨by decide +kernel, by decide +kernel⟩, by decide +kernel⟩
theorem cv_X4_find : lwI (.instanceMethod yX4_find) ∧ lwI (.selects yX4_find.cls yX4_find yX4_find) := ⟨li_392, li_393⟩
theorem lc_J6_265 : lwI (.constant "java/lang/Integer" 265 (1431655765 : Int32)) := li_383
theorem lc_J6_266 : lwI (.constant "java/lang/Integer" 266 (858993459 : Int32)) := li_384
theorem lc_J6_267 : lwI (.constant "java/lang/Integer" 267 (252645135 : Int32)) := li_385
theorem cf_X4_27 : CFn RX4 27 yX5_isTown cX5_isTown 1 (some .boolean) 1 := ⟨li_1, li_322, ⟨by decide +kernel, by decide +kernel⟩, by decide +kernel⟩
theorem fa_X4_20 : FA RX4 20 4 1 := ⟨RX4, TX4, 3, RX4, rfl, by decide, rfl, li_62⟩
theorem fa_X4_23 : FA RX4 23 4 2 := ⟨RX4, TX4, 3, RX4, rfl, by decide, rfl, li_63⟩
theorem cf_X4_31 : CF RX4 31 yX4_fewestBehind cX4_fewestBehind 4 (some .int) 2 := ⟨li_395, li_3, li_398, ⟨by decide +kernel, by decide +kernel⟩, by decide +kernel⟩
theorem cv_X4_fewestBehind : lwI (.instanceMethod yX4_fewestBehind) ∧ lwI (.selects yX4_fewestBehind.cls yX4_fewestBehind yX4_fewestBehind) := ⟨li_396, li_397⟩
theorem fa_X4_12 : FA RX4 12 4 0 := ⟨RX4, TX4, 3, RX4, rfl, by decide, rfl, li_60⟩
theorem cf_X4_35 : CF RX4 35 yX2_empty cX2_empty 1 none 0 := ⟨li_409, li_4, li_269, ⟨by decide +kernel, by decide +kernel⟩, by decide +kernel⟩
theorem cf_X4_38 : CF RX4 38 yX4_nextTown cX4_nextTown 5 (some .int) 2 := ⟨li_399, li_3, li_402, ⟨by decide +kernel, by decide +kernel⟩, by decide +kernel⟩
theorem cv_X4_nextTown : lwI (.instanceMethod yX4_nextTown) ∧ lwI (.selects yX4_nextTown.cls yX4_nextTown yX4_nextTown) := ⟨li_400, li_401⟩
theorem cf_X4_41 : CF RX4 41 yX2_insert cX2_insert 4 none 2 := ⟨li_410, li_4, li_120, ⟨by decide +kernel, by decide +kernel⟩, by decide +kernel⟩
theorem cf_X4_45 : CF RX4 45 yX4_cutsBy cX4_cutsBy 5 (some .int) 2 := ⟨li_404, li_3, li_407, ⟨by decide +kernel, by decide +kernel⟩, by decide +kernel⟩
theorem cv_X4_cutsBy : lwI (.instanceMethod yX4_cutsBy) ∧ lwI (.selects yX4_cutsBy.cls yX4_cutsBy yX4_cutsBy) := ⟨li_405, li_406⟩
theorem cf_X4_48 : CFn RX4 48 yX5_hasBit cX5_hasBit 3 (some .boolean) 2 := ⟨li_1, li_245, ⟨by decide +kernel, by decide +kernel⟩, by decide +kernel⟩
theorem cf_X4_52 : CF RX4 52 yJ6_bitCount_0f7a4 cJ6_bitCount_0f7a4 1 (some .int) 1 := ⟨li_408, li_9, li_382, ⟨by decide +kernel, by decide +kernel⟩, by decide +kernel⟩
theorem fa_X5_174 : FA RX5 174 4 0 := ⟨RX4, TX4, 3, RX4, rfl, by decide, rfl, li_61⟩
theorem cf_X5_177 : CF RX5 177 yX5_marksOfAll cX5_marksOfAll 4 (some .int) 1 := ⟨li_419, li_1, li_422, ⟨by decide +kernel, by decide +kernel⟩, by decide +kernel⟩
theorem cv_X5_marksOfAll : lwI (.instanceMethod yX5_marksOfAll) ∧ lwI (.selects yX5_marksOfAll.cls yX5_marksOfAll yX5_marksOfAll) := ⟨li_421, ls_5⟩
theorem cf_X5_181 : CF RX5 181 yX5_lastForbiddenDay cX5_lastForbiddenDay 7 (some .int) 3 := ⟨li_423, li_1, li_426, ⟨by decide +kernel, by decide +kernel⟩, by decide +kernel⟩
theorem cv_X5_lastForbiddenDay : lwI (.instanceMethod yX5_lastForbiddenDay) ∧ lwI (.selects yX5_lastForbiddenDay.cls yX5_lastForbiddenDay yX5_lastForbiddenDay) := ⟨li_425, ls_6⟩
theorem fa_X5_232 : FA RX5 232 3 3 := ⟨RX3, TX3, 4, RX3, rfl, by decide, rfl, li_338⟩
theorem cf_X5_185 : CF RX5 185 yX5_thingsIn cX5_thingsIn 4 (some .int) 1 := ⟨li_431, li_1, li_433, ⟨by decide +kernel, by decide +kernel⟩, by decide +kernel⟩
theorem cs_X5_thingsIn : lwI (.static yX5_thingsIn) := li_432
theorem cf_X5_189 : CF RX5 189 yX5_gapsHeard cX5_gapsHeard 5 (some .int) 0 := ⟨li_434, li_1, li_437, ⟨by decide +kernel, by decide +kernel⟩, by decide +kernel⟩
theorem cv_X5_gapsHeard : lwI (.instanceMethod yX5_gapsHeard) ∧ lwI (.selects yX5_gapsHeard.cls yX5_gapsHeard yX5_gapsHeard) := ⟨li_436, ls_7⟩
theorem lc_X5_192 : lwI (.constantLong "PlayReader" 192 (181 : Int64)) := li_442
theorem cf_X5_194 : CF RX5 194 yX5_count cX5_count 2 (some .int) 1 := ⟨li_443, li_1, li_430, ⟨by decide +kernel, by decide +kernel⟩, by decide +kernel⟩
theorem cv_X5_count : lwI (.instanceMethod yX5_count) ∧ lwI (.selects yX5_count.cls yX5_count yX5_count) := ⟨li_428, li_429⟩
theorem cf_X5_197 : CF RX5 197 yX5_mixed cX5_mixed 3 (some .long) 2 := ⟨li_444, li_1, li_446, ⟨by decide +kernel, by decide +kernel⟩, by decide +kernel⟩
theorem cs_X5_mixed : lwI (.static yX5_mixed) := li_445
theorem cf_X5_201 : CF RX5 201 yX5_mixedRows cX5_mixedRows 8 (some .long) 2 := ⟨li_448, li_1, li_450, ⟨by decide +kernel, by decide +kernel⟩, by decide +kernel⟩
theorem cs_X5_mixedRows : lwI (.static yX5_mixedRows) := li_449
theorem cf_X5_205 : CF RX5 205 yX5_mixedRules cX5_mixedRules 7 (some .long) 1 := ⟨li_451, li_1, li_454, ⟨by decide +kernel, by decide +kernel⟩, by decide +kernel⟩
theorem cv_X5_mixedRules : lwI (.instanceMethod yX5_mixedRules) ∧ lwI (.selects yX5_mixedRules.cls yX5_mixedRules yX5_mixedRules) := ⟨li_453, ls_8⟩
theorem cf_X5_209 : CF RX5 209 yX5_mixedConditions cX5_mixedConditions 7 (some .long) 1 := ⟨li_455, li_1, li_458, ⟨by decide +kernel, by decide +kernel⟩, by decide +kernel⟩
theorem cv_X5_mixedConditions : lwI (.instanceMethod yX5_mixedConditions) ∧ lwI (.selects yX5_mixedConditions.cls yX5_mixedConditions yX5_mixedConditions) := ⟨li_457, ls_9⟩
theorem lc_X5_235 : lwI (.constantLong "PlayReader" 235 (31 : Int64)) := li_447
theorem fa_X5_237 : FA RX5 237 3 0 := ⟨RX3, TX3, 4, RX3, rfl, by decide, rfl, li_332⟩
theorem fa_X5_240 : FA RX5 240 3 2 := ⟨RX3, TX3, 4, RX3, rfl, by decide, rfl, li_336⟩
theorem fa_X5_243 : FA RX5 243 1 0 := ⟨RX1, TX1, 3, RX1, rfl, by decide, rfl, li_199⟩
theorem fa_X5_246 : FA RX5 246 1 1 := ⟨RX1, TX1, 3, RX1, rfl, by decide, rfl, li_201⟩
theorem fa_X5_249 : FA RX5 249 1 2 := ⟨RX1, TX1, 3, RX1, rfl, by decide, rfl, li_203⟩
theorem oi_X6_1 : lwI (.methodLink RX6 1 objectInit) ∧ lwI (.instanceMethod objectInit) ∧ lwI (.code objectInit ⟨#[0xb1]⟩ 1 none) := ⟨li_464, li_16, li_17⟩
theorem fp_X6_7 : FP RX6 7 6 0 true (.array .int) := ⟨RX6, TX6, 20, RX6, tyX6, rfl, by decide, rfl, li_465, tyX6_ok, nmX6, rfl, by decide +kernel, fun _ => rfl⟩
theorem fp_X6_13 : FP RX6 13 6 1 true (.array .int) := ⟨RX6, TX6, 20, RX6, tyX6, rfl, by decide, rfl, li_466, tyX6_ok, nmX6, rfl, by decide +kernel, fun _ => rfl⟩
theorem fp_X6_16 : FP RX6 16 6 2 true (.array .int) := ⟨RX6, TX6, 20, RX6, tyX6, rfl, by decide, rfl, li_467, tyX6_ok, nmX6, rfl, by decide +kernel, fun _ => rfl⟩
theorem fp_X6_19 : FP RX6 19 6 3 true (.array .int) := ⟨RX6, TX6, 20, RX6, tyX6, rfl, by decide, rfl, li_468, tyX6_ok, nmX6, rfl, by decide +kernel, fun _ => rfl⟩
theorem fp_X6_22 : FP RX6 22 6 5 true (.array .int) := ⟨RX6, TX6, 20, RX6, tyX6, rfl, by decide, rfl, li_470, tyX6_ok, nmX6, rfl, by decide +kernel, fun _ => rfl⟩
theorem fp_X6_25 : FP RX6 25 6 6 true (.array .int) := ⟨RX6, TX6, 20, RX6, tyX6, rfl, by decide, rfl, li_471, tyX6_ok, nmX6, rfl, by decide +kernel, fun _ => rfl⟩
theorem fp_X6_28 : FP RX6 28 6 7 true (.array .int) := ⟨RX6, TX6, 20, RX6, tyX6, rfl, by decide, rfl, li_472, tyX6_ok, nmX6, rfl, by decide +kernel, fun _ => rfl⟩
theorem fp_X6_31 : FP RX6 31 6 8 true (.array .int) := ⟨RX6, TX6, 20, RX6, tyX6, rfl, by decide, rfl, li_473, tyX6_ok, nmX6, rfl, by decide +kernel, fun _ => rfl⟩
theorem fp_X6_34 : FP RX6 34 6 10 true (.array .int) := ⟨RX6, TX6, 20, RX6, tyX6, rfl, by decide, rfl, li_475, tyX6_ok, nmX6, rfl, by decide +kernel, fun _ => rfl⟩
theorem fp_X6_37 : FP RX6 37 6 11 true (.array .int) := ⟨RX6, TX6, 20, RX6, tyX6, rfl, by decide, rfl, li_476, tyX6_ok, nmX6, rfl, by decide +kernel, fun _ => rfl⟩
theorem fp_X6_40 : FP RX6 40 6 12 true (.array .int) := ⟨RX6, TX6, 20, RX6, tyX6, rfl, by decide, rfl, li_477, tyX6_ok, nmX6, rfl, by decide +kernel, fun _ => rfl⟩
theorem fp_X6_43 : FP RX6 43 6 13 true (.array .int) := ⟨RX6, TX6, 20, RX6, tyX6, rfl, by decide, rfl, li_478, tyX6_ok, nmX6, rfl, by decide +kernel, fun _ => rfl⟩
theorem fp_X6_46 : FP RX6 46 6 14 true (.array .int) := ⟨RX6, TX6, 20, RX6, tyX6, rfl, by decide, rfl, li_479, tyX6_ok, nmX6, rfl, by decide +kernel, fun _ => rfl⟩
theorem fp_X6_49 : FP RX6 49 6 15 true (.array .int) := ⟨RX6, TX6, 20, RX6, tyX6, rfl, by decide, rfl, li_480, tyX6_ok, nmX6, rfl, by decide +kernel, fun _ => rfl⟩
theorem fp_X6_52 : FP RX6 52 6 16 true (.array .int) := ⟨RX6, TX6, 20, RX6, tyX6, rfl, by decide, rfl, li_481, tyX6_ok, nmX6, rfl, by decide +kernel, fun _ => rfl⟩
theorem fp_X6_55 : FP RX6 55 6 18 true (.array .int) := ⟨RX6, TX6, 20, RX6, tyX6, rfl, by decide, rfl, li_483, tyX6_ok, nmX6, rfl, by decide +kernel, fun _ => rfl⟩
theorem fp_X6_58 : FP RX6 58 6 19 true (.array .boolean) := ⟨RX6, TX6, 20, RX6, tyX6, rfl, by decide, rfl, li_484, tyX6_ok, nmX6, rfl, by decide +kernel, fun _ => rfl⟩
theorem cf_X6_66 : CF RX6 66 yX6_isVersion cX6_isVersion 1 (some .boolean) 1 := ⟨li_531, li_5, li_533, ⟨by decide +kernel, by decide +kernel⟩, by decide +kernel⟩
theorem cs_X6_isVersion : lwI (.static yX6_isVersion) := li_532
theorem fa_X6_13 : FA RX6 13 6 1 := ⟨RX6, TX6, 20, RX6, rfl, by decide, rfl, li_466⟩
theorem cf_X6_62 : CF RX6 62 yX6_in cX6_in 3 (some .boolean) 3 := ⟨li_534, li_5, li_536, ⟨by decide +kernel, by decide +kernel⟩, by decide +kernel⟩
theorem cs_X6_in : lwI (.static yX6_in) := li_535
theorem cf_X6_70 : CF RX6 70 yX6_isLine cX6_isLine 1 (some .boolean) 1 := ⟨li_537, li_5, li_539, ⟨by decide +kernel, by decide +kernel⟩, by decide +kernel⟩
theorem cs_X6_isLine : lwI (.static yX6_isLine) := li_538
theorem fa_X6_7 : FA RX6 7 6 0 := ⟨RX6, TX6, 20, RX6, rfl, by decide, rfl, li_465⟩
theorem cf_X6_77 : CF RX6 77 yX6_findFew cX6_findFew 6 (some .int) 2 := ⟨li_556, li_5, li_559, ⟨by decide +kernel, by decide +kernel⟩, by decide +kernel⟩
theorem cv_X6_findFew : lwI (.instanceMethod yX6_findFew) ∧ lwI (.selects yX6_findFew.cls yX6_findFew yX6_findFew) := ⟨li_558, ls_10⟩
theorem fa_X6_46 : FA RX6 46 6 14 := ⟨RX6, TX6, 20, RX6, rfl, by decide, rfl, li_479⟩
theorem cf_X6_73 : CF RX6 73 yX6_isAlike cX6_isAlike 5 (some .boolean) 4 := ⟨li_560, li_5, li_563, ⟨by decide +kernel, by decide +kernel⟩, by decide +kernel⟩
theorem cv_X6_isAlike : lwI (.instanceMethod yX6_isAlike) ∧ lwI (.selects yX6_isAlike.cls yX6_isAlike yX6_isAlike) := ⟨li_562, ls_11⟩
theorem fa_X6_81 : FA RX6 81 6 4 := ⟨RX6, TX6, 20, RX6, rfl, by decide, rfl, li_469⟩
theorem fa_X6_22 : FA RX6 22 6 5 := ⟨RX6, TX6, 20, RX6, rfl, by decide, rfl, li_470⟩
theorem fa_X6_25 : FA RX6 25 6 6 := ⟨RX6, TX6, 20, RX6, rfl, by decide, rfl, li_471⟩
theorem fa_X6_28 : FA RX6 28 6 7 := ⟨RX6, TX6, 20, RX6, rfl, by decide, rfl, li_472⟩
theorem fp_X6_81 : FP RX6 81 6 4 false .int := ⟨RX6, TX6, 20, RX6, tyX6, rfl, by decide, rfl, li_469, tyX6_ok, nmX6, rfl, by decide +kernel, fun h => by cases h⟩
theorem cf_X6_85 : CF RX6 85 yX6_keeps cX6_keeps 11 (some .boolean) 2 := ⟨li_580, li_5, li_583, ⟨by decide +kernel, by decide +kernel⟩, by decide +kernel⟩
theorem cv_X6_keeps : lwI (.instanceMethod yX6_keeps) ∧ lwI (.selects yX6_keeps.cls yX6_keeps yX6_keeps) := ⟨li_582, ls_12⟩
theorem cf_X6_89 : CF RX6 89 yX6_isHeard cX6_isHeard 1 (some .boolean) 1 := ⟨li_588, li_5, li_590, ⟨by decide +kernel, by decide +kernel⟩, by decide +kernel⟩
theorem cs_X6_isHeard : lwI (.static yX6_isHeard) := li_589
theorem fa_X6_19 : FA RX6 19 6 3 := ⟨RX6, TX6, 20, RX6, rfl, by decide, rfl, li_468⟩
theorem fa_X6_16 : FA RX6 16 6 2 := ⟨RX6, TX6, 20, RX6, rfl, by decide, rfl, li_467⟩
theorem cf_X6_92 : CF RX6 92 yX6_judged cX6_judged 14 (some .int) 2 := ⟨li_603, li_5, li_606, ⟨by decide +kernel, by decide +kernel⟩, by decide +kernel⟩
theorem cv_X6_judged : lwI (.instanceMethod yX6_judged) ∧ lwI (.selects yX6_judged.cls yX6_judged yX6_judged) := ⟨li_605, ls_13⟩
theorem fa_X6_58 : FA RX6 58 6 19 := ⟨RX6, TX6, 20, RX6, rfl, by decide, rfl, li_484⟩
theorem fa_X6_31 : FA RX6 31 6 8 := ⟨RX6, TX6, 20, RX6, rfl, by decide, rfl, li_473⟩
theorem cf_X6_95 : CF RX6 95 yX6_isTown cX6_isTown 1 (some .boolean) 1 := ⟨li_627, li_5, li_629, ⟨by decide +kernel, by decide +kernel⟩, by decide +kernel⟩
theorem cs_X6_isTown : lwI (.static yX6_isTown) := li_628
theorem cf_X6_98 : CF RX6 98 yX6_isDay cX6_isDay 1 (some .boolean) 1 := ⟨li_630, li_5, li_632, ⟨by decide +kernel, by decide +kernel⟩, by decide +kernel⟩
theorem cs_X6_isDay : lwI (.static yX6_isDay) := li_631
theorem fa_X6_101 : FA RX6 101 6 9 := ⟨RX6, TX6, 20, RX6, rfl, by decide, rfl, li_474⟩
theorem fa_X6_34 : FA RX6 34 6 10 := ⟨RX6, TX6, 20, RX6, rfl, by decide, rfl, li_475⟩
theorem fa_X6_37 : FA RX6 37 6 11 := ⟨RX6, TX6, 20, RX6, rfl, by decide, rfl, li_476⟩
theorem fa_X6_40 : FA RX6 40 6 12 := ⟨RX6, TX6, 20, RX6, rfl, by decide, rfl, li_477⟩
theorem fa_X6_43 : FA RX6 43 6 13 := ⟨RX6, TX6, 20, RX6, rfl, by decide, rfl, li_478⟩
theorem fp_X6_101 : FP RX6 101 6 9 false .int := ⟨RX6, TX6, 20, RX6, tyX6, rfl, by decide, rfl, li_474, tyX6_ok, nmX6, rfl, by decide +kernel, fun h => by cases h⟩
theorem cf_X6_107 : CF RX6 107 yX6_cutOf cX6_cutOf 7 (some .int) 3 := ⟨li_637, li_5, li_640, ⟨by decide +kernel, by decide +kernel⟩, by decide +kernel⟩
theorem cv_X6_cutOf : lwI (.instanceMethod yX6_cutOf) ∧ lwI (.selects yX6_cutOf.cls yX6_cutOf yX6_cutOf) := ⟨li_639, ls_14⟩
theorem cf_X6_104 : CF RX6 104 yX6_forbidden cX6_forbidden 5 (some .int) 2 := ⟨li_641, li_5, li_644, ⟨by decide +kernel, by decide +kernel⟩, by decide +kernel⟩
theorem cv_X6_forbidden : lwI (.instanceMethod yX6_forbidden) ∧ lwI (.selects yX6_forbidden.cls yX6_forbidden yX6_forbidden) := ⟨li_643, ls_15⟩
theorem cf_X6_111 : CF RX6 111 yX6_many cX6_many 3 (some .int) 1 := ⟨li_653, li_5, li_655, ⟨by decide +kernel, by decide +kernel⟩, by decide +kernel⟩
theorem cs_X6_many : lwI (.static yX6_many) := li_654
theorem fa_X6_52 : FA RX6 52 6 16 := ⟨RX6, TX6, 20, RX6, rfl, by decide, rfl, li_481⟩
theorem lc_X6_115 : lwI (.constant "PlayReaderModel" 115 (100000 : Int32)) := li_656
theorem fa_X6_49 : FA RX6 49 6 15 := ⟨RX6, TX6, 20, RX6, rfl, by decide, rfl, li_480⟩
theorem fa_X6_55 : FA RX6 55 6 18 := ⟨RX6, TX6, 20, RX6, rfl, by decide, rfl, li_483⟩
theorem fp_X6_116 : FP RX6 116 6 17 false .int := ⟨RX6, TX6, 20, RX6, tyX6, rfl, by decide, rfl, li_482, tyX6_ok, nmX6, rfl, by decide +kernel, fun h => by cases h⟩
theorem fa_X6_116 : FA RX6 116 6 17 := ⟨RX6, TX6, 20, RX6, rfl, by decide, rfl, li_482⟩
theorem lc_X6_119 : lwI (.constantLong "PlayReaderModel" 119 (181 : Int64)) := li_673
theorem lc_X6_121 : lwI (.constantLong "PlayReaderModel" 121 (31 : Int64)) := li_674
theorem cf_X6_123 : CF RX6 123 yX6_count cX6_count 5 (some .int) 1 := ⟨li_675, li_5, li_668, ⟨by decide +kernel, by decide +kernel⟩, by decide +kernel⟩
theorem cv_X6_count : lwI (.instanceMethod yX6_count) ∧ lwI (.selects yX6_count.cls yX6_count yX6_count) := ⟨li_666, li_667⟩
end
section
/-! numbers, answers (own work) -/
noncomputable def bI (P : Prop) : Int32 := @ite _ P (Classical.propDecidable P) 1 0
theorem bI_t {P : Prop} (h : P) : bI P = 1 := by unfold bI; rw [if_pos h]
theorem bI_f {P : Prop} (h : ¬ P) : bI P = 0 := by unfold bI; rw [if_neg h]
theorem bI_iff {P P' : Prop} (h : P ↔ P') : bI P = bI P' := by rw [propext h]
noncomputable def cif {α : Sort _} (P : Prop) (a b : α) : α := @ite _ P (Classical.propDecidable P) a b
theorem cif_t {α : Sort _} {P : Prop} {a b : α} (h : P) : cif P a b = a := by unfold cif; rw [if_pos h]
theorem cif_f {α : Sort _} {P : Prop} {a b : α} (h : ¬ P) : cif P a b = b := by unfold cif; rw [if_neg h]
def inR (x : Int32) (n : Nat) : Prop := ∃ j, j < n ∧ x = nI j
theorem nI_inj {a b : Nat} (ha : a < 2147483648) (hb : b < 2147483648) (h : nI a = nI b) : a = b := (nI_eq ha hb).mp h
theorem inR_nI {j n : Nat} (hj : j < 2147483648) (hn : n ≤ 2147483648) : inR (nI j) n ↔ j < n :=
  ⟨fun ⟨k, hk, e⟩ => by rw [nI_inj hj (by omega) e]; exact hk, fun h => ⟨j, h, rfl⟩⟩
theorem inR_neg {x : Int32} {n : Nat} (h : x < 0) (hn : n ≤ 2147483648) : ¬ inR x n := by
  rintro ⟨j, hj, rfl⟩
  exact nI_pos (by omega) h
theorem inR_ge {x : Int32} {n : Nat} (h : x ≥ nI n) (hn : n < 2147483648) : ¬ inR x n := by
  rintro ⟨j, hj, rfl⟩
  have := (nI_leI hn (by omega)).mp h
  omega
theorem inR_of {x : Int32} {n : Nat} (h0 : ¬ x < 0) (h1 : ¬ x ≥ nI n) (hn : n < 2147483648) : inR x n := by
  obtain ⟨j, hj, rfl⟩ := nI_of h0
  refine ⟨j, ?_, rfl⟩
  exact Nat.not_le.mp fun q => h1 ((nI_leI hn hj).mpr q)
theorem inR_gt {x : Int32} {m n : Nat} (h : x > nI m) (hn : n = m + 1) (hm : m < 2147483647) : ¬ inR x n := by
  rintro ⟨j, hj, rfl⟩
  have := (nI_ltI (by omega) (by omega)).mp h
  omega
theorem inR_of2 {x : Int32} {m n : Nat} (h0 : ¬ x < 0) (h1 : ¬ x > nI m) (hn : n = m + 1) (hm : m < 2147483647) : inR x n := by
  obtain ⟨j, hj, rfl⟩ := nI_of h0
  refine ⟨j, ?_, rfl⟩
  have : ¬ m < j := fun q => h1 ((nI_ltI (by omega) hj).mpr q)
  omega
/-- a row's place i: what stands there, -1 behind its end -/
noncomputable def atV (n : Nat) (f : Nat → Int32) (i : Int32) : Int32 := cif (inR i n) (f i.toNatClampNeg) (-1)
theorem atV_in {n : Nat} {f : Nat → Int32} {j : Nat} (h : j < n) (hn : n ≤ 2147483648) : atV n f (nI j) = f j := by
  unfold atV
  rw [cif_t ⟨j, h, rfl⟩, clampN (by omega)]
theorem atV_out {n : Nat} {f : Nat → Int32} {i : Int32} (h : ¬ inR i n) : atV n f i = -1 := by
  unfold atV
  rw [cif_f h]
theorem ne_k {σ : Sto} {a b : Nat} {e0 e1 : va_E} (h1 : σ.1 b = some e1) (h0 : σ.1 a = some e0) (h : e0 ≠ e1) : b ≠ a := fun q => by
  subst q
  rw [h1] at h0
  exact h (Option.some.inj h0).symm
theorem nI_dec {k : Nat} (h : 1 ≤ k) : nI k + Int32.ofInt (-1) = nI (k - 1) := by
  obtain ⟨j, rfl⟩ : ∃ j, k = j + 1 := ⟨k - 1, by omega⟩
  exact pk_m1 j
theorem ret1 {P : Prop} {σ : Sto} (h : P) : some (Value.int (nI 1)) = some (Value.int (bI P)) ∧ σ = σ := ⟨by rw [bI_t h]; rfl, rfl⟩
theorem ret0 {P : Prop} {σ : Sto} (h : ¬ P) : some (Value.int (nI 0)) = some (Value.int (bI P)) ∧ σ = σ := ⟨by rw [bI_f h]; rfl, rfl⟩
theorem retV {v w : Value} {σ : Sto} (h : v = w) : some v = some w ∧ σ = σ := ⟨by rw [h], rfl⟩
theorem retI {v w : Int32} {σ : Sto} (h : v = w) : some (Value.int v) = some (Value.int w) ∧ σ = σ := ⟨by rw [h], rfl⟩
/-- a row with x put in at place i -/
def insF (f : Nat → Int32) (n i : Nat) (x : Int32) : Nat → Int32 := fun q => if q < i then f q else if q = i then x else if q ≤ n then f (q - 1) else f q
def shF (f : Nat → Int32) (n k : Nat) : Nat → Int32 := fun q => if k < q ∧ q ≤ n then f (q - 1) else f q
theorem shF_n (f : Nat → Int32) (n : Nat) : shF f n n = f := by
  funext q
  unfold shF
  rw [if_neg (by omega)]
theorem shF_step {f : Nat → Int32} {n k : Nat} (h1 : 1 ≤ k) (h2 : k ≤ n) : upd (shF f n k) k (shF f n k (k - 1)) = shF f n (k - 1) := by
  funext q
  unfold upd shF
  by_cases hq : q = k
  · subst hq
    rw [if_pos rfl, if_neg (by omega), if_pos (by omega)]
  · rw [if_neg hq]
    by_cases h3 : k < q ∧ q ≤ n
    · rw [if_pos h3, if_pos (by omega)]
    · rw [if_neg h3, if_neg (by omega)]
theorem shF_end {f : Nat → Int32} {n i : Nat} (x : Int32) : upd (shF f n i) i x = insF f n i x := by
  funext q
  unfold upd shF insF
  by_cases hq : q = i
  · subst hq
    rw [if_pos rfl, if_neg (by omega), if_pos rfl]
  · rw [if_neg hq]
    by_cases h3 : q < i
    · rw [if_neg (by omega), if_pos h3]
    · rw [if_neg h3, if_neg hq]
      by_cases h4 : q ≤ n
      · rw [if_pos (by omega), if_pos h4]
      · rw [if_neg (by omega), if_neg h4]
/-- a row with the thing at place i taken out -/
def remF (f : Nat → Int32) (n i : Nat) : Nat → Int32 := fun q => if i ≤ q ∧ q + 1 < n then f (q + 1) else f q
theorem remF_0 {f : Nat → Int32} {i : Nat} : remF f i i = f := by
  funext q
  unfold remF
  rw [if_neg (by omega)]
theorem remF_step {f : Nat → Int32} {i k : Nat} (h : i ≤ k) : upd (remF f (k + 1) i) k (remF f (k + 1) i (k + 1)) = remF f (k + 2) i := by
  funext q
  unfold upd remF
  by_cases hq : q = k
  · subst hq
    rw [if_pos rfl, if_neg (by omega), if_pos (by omega)]
  · rw [if_neg hq]
    by_cases h3 : i ≤ q ∧ q + 1 < k + 1
    · rw [if_pos h3, if_pos (by omega)]
    · rw [if_neg h3, if_neg (by omega)]
/-- a row that has become another one, as far as place k -/
def becF (f g : Nat → Int32) (k : Nat) : Nat → Int32 := fun q => if q < k then g q else f q
theorem becF_0 {f g : Nat → Int32} : becF f g 0 = f := by
  funext q
  unfold becF
  rw [if_neg (by omega)]
theorem becF_step {f g : Nat → Int32} {k : Nat} : upd (becF f g k) k (g k) = becF f g (k + 1) := by
  funext q
  unfold upd becF
  by_cases hq : q = k
  · subst hq
    rw [if_pos rfl, if_pos (by omega)]
  · rw [if_neg hq]
    by_cases h3 : q < k
    · rw [if_pos h3, if_pos (by omega)]
    · rw [if_neg h3, if_neg (by omega)]
theorem becF_self {f : Nat → Int32} {k : Nat} : becF f f k = f := by
  funext q
  unfold becF
  split <;> rfl
section GB
variable {X : CX} {E : EnvD} {cc : ByteArray} {own : String} {nL : Nat} {R : Room} {A : Nat → Prop} {Q : State → Prop} {k n pc : Nat} {vs vs' : List (Option Value)} {st : List Value} {σ : Sto}
theorem g_if_eqB (h : OK X E cc own nL R) {P : Prop} {off : Int} (tgt : Nat) (hd : decode cc pc = .ok (.ifCond .eq off, 3)) (ht : (pc : Int) + off = (tgt : Int)) (kt : ¬ P → G X E nL A Q k n tgt vs st σ) (kf : P → G X E nL A Q k n (pc + 3) vs st σ) : G X E nL A Q k n pc vs (.int (bI P) :: st) σ :=
  g_if_eq h tgt hd ht (fun c => kt (fun q => by rw [bI_t q] at c; exact absurd c (by decide))) (fun c => kf (Classical.not_not.mp fun q => c (bI_f q)))
theorem g_if_neB (h : OK X E cc own nL R) {P : Prop} {off : Int} (tgt : Nat) (hd : decode cc pc = .ok (.ifCond .ne off, 3)) (ht : (pc : Int) + off = (tgt : Int)) (kt : P → G X E nL A Q k n tgt vs st σ) (kf : ¬ P → G X E nL A Q k n (pc + 3) vs st σ) : G X E nL A Q k n pc vs (.int (bI P) :: st) σ :=
  g_if_ne h tgt hd ht (fun c => kt (Classical.not_not.mp fun q => c (bI_f q))) (fun c => kf (fun q => by rw [bI_t q] at c; exact absurd c (by decide)))
theorem kk_det {v : Value} {rest : List Value} {σ1 : Sto} (kk : G X E nL A Q k n pc vs (v :: rest) σ1) : ∀ (r : Option Value) (s : Sto), (r = some v ∧ s = σ1) → G X E nL A Q k n pc vs (r.toList ++ rest) s := by
  rintro _ _ ⟨rfl, rfl⟩
  exact kk
theorem kk_detv {rest : List Value} {σ1 : Sto} (kk : G X E nL A Q k n pc vs rest σ1) : ∀ (r : Option Value) (s : Sto), (r = none ∧ s = σ1) → G X E nL A Q k n pc vs (r.toList ++ rest) s := by
  rintro _ _ ⟨rfl, rfl⟩
  exact kk
end GB
end
section
/-! rows: walked by program -/
abbrev rm_X5_isLine : Room := { frames := 0, cells := 0, slots := 0, locals := 0 }
set_option maxRecDepth 100000 in
set_option maxHeartbeats 4000000 in
theorem c_X5_isLine (l : Launch) (E : EnvD) (σ : Sto) (x : Int32) : CC l yX5_isLine cX5_isLine 1 (some .boolean) rm_X5_isLine E [.int x] σ (fun o s => o = some (.int (bI (inR x 100))) ∧ s = σ) := by
  refine cc_of (vs := [_]) (by decide) (Nat.le_of_ble_eq_true rfl) rfl ?_
  intro X h hr hn
  refine g_iload_n h 0 dX5_isLine_0 rfl rfl ?_
  refine g_if_lt h 14 dX5_isLine_1 (by decide) (fun c1_1 => ?_) (fun c1_1 => ?_)
  · skip
    refine g_iconst h (nI 0) dX5_isLine_14 (by decide) ?_
    exact g_zret h hr rfl dX5_isLine_15 (ret0 (inR_neg c1_1 (by decide))) (Nat.le_of_ble_eq_true rfl) (Nat.le_of_ble_eq_true rfl)
  · skip
    refine g_iload_n h 0 dX5_isLine_4 rfl rfl ?_
    refine g_bipush h (nI 100) dX5_isLine_5 (by decide) ?_
    refine g_icmp_ge h 14 dX5_isLine_7 (by decide) (fun c7_2 => ?_) (fun c7_2 => ?_)
    · skip
      refine g_iconst h (nI 0) dX5_isLine_14 (by decide) ?_
      exact g_zret h hr rfl dX5_isLine_15 (ret0 (inR_ge c7_2 (by decide))) (Nat.le_of_ble_eq_true rfl) (Nat.le_of_ble_eq_true rfl)
    · skip
      refine g_iconst h (nI 1) dX5_isLine_10 (by decide) ?_
      refine g_goto h 15 dX5_isLine_11 (by decide) ?_
      exact g_zret h hr rfl dX5_isLine_15 (ret1 (inR_of c1_1 c7_2 (by decide))) (Nat.le_of_ble_eq_true rfl) (Nat.le_of_ble_eq_true rfl)
abbrev rm_X5_isTown : Room := { frames := 0, cells := 0, slots := 0, locals := 0 }
set_option maxRecDepth 100000 in
set_option maxHeartbeats 4000000 in
theorem c_X5_isTown (l : Launch) (E : EnvD) (σ : Sto) (x : Int32) : CC l yX5_isTown cX5_isTown 1 (some .boolean) rm_X5_isTown E [.int x] σ (fun o s => o = some (.int (bI (inR x 8))) ∧ s = σ) := by
  refine cc_of (vs := [_]) (by decide) (Nat.le_of_ble_eq_true rfl) rfl ?_
  intro X h hr hn
  refine g_iload_n h 0 dX5_isTown_0 rfl rfl ?_
  refine g_if_lt h 14 dX5_isTown_1 (by decide) (fun c1_1 => ?_) (fun c1_1 => ?_)
  · skip
    refine g_iconst h (nI 0) dX5_isTown_14 (by decide) ?_
    exact g_zret h hr rfl dX5_isTown_15 (ret0 (inR_neg c1_1 (by decide))) (Nat.le_of_ble_eq_true rfl) (Nat.le_of_ble_eq_true rfl)
  · skip
    refine g_iload_n h 0 dX5_isTown_4 rfl rfl ?_
    refine g_bipush h (nI 8) dX5_isTown_5 (by decide) ?_
    refine g_icmp_ge h 14 dX5_isTown_7 (by decide) (fun c7_2 => ?_) (fun c7_2 => ?_)
    · skip
      refine g_iconst h (nI 0) dX5_isTown_14 (by decide) ?_
      exact g_zret h hr rfl dX5_isTown_15 (ret0 (inR_ge c7_2 (by decide))) (Nat.le_of_ble_eq_true rfl) (Nat.le_of_ble_eq_true rfl)
    · skip
      refine g_iconst h (nI 1) dX5_isTown_10 (by decide) ?_
      refine g_goto h 15 dX5_isTown_11 (by decide) ?_
      exact g_zret h hr rfl dX5_isTown_15 (ret1 (inR_of c1_1 c7_2 (by decide))) (Nat.le_of_ble_eq_true rfl) (Nat.le_of_ble_eq_true rfl)
abbrev rm_X5_isMarks : Room := { frames := 0, cells := 0, slots := 0, locals := 0 }
set_option maxRecDepth 100000 in
set_option maxHeartbeats 4000000 in
theorem c_X5_isMarks (l : Launch) (E : EnvD) (σ : Sto) (x : Int32) : CC l yX5_isMarks cX5_isMarks 1 (some .boolean) rm_X5_isMarks E [.int x] σ (fun o s => o = some (.int (bI (inR x 256))) ∧ s = σ) := by
  refine cc_of (vs := [_]) (by decide) (Nat.le_of_ble_eq_true rfl) rfl ?_
  intro X h hr hn
  refine g_iload_n h 0 dX5_isMarks_0 rfl rfl ?_
  refine g_if_lt h 15 dX5_isMarks_1 (by decide) (fun c1_1 => ?_) (fun c1_1 => ?_)
  · skip
    refine g_iconst h (nI 0) dX5_isMarks_15 (by decide) ?_
    exact g_zret h hr rfl dX5_isMarks_16 (ret0 (inR_neg c1_1 (by decide))) (Nat.le_of_ble_eq_true rfl) (Nat.le_of_ble_eq_true rfl)
  · skip
    refine g_iload_n h 0 dX5_isMarks_4 rfl rfl ?_
    refine g_sipush h (nI 255) dX5_isMarks_5 (by decide) ?_
    refine g_icmp_gt h 15 dX5_isMarks_8 (by decide) (fun c8_2 => ?_) (fun c8_2 => ?_)
    · skip
      refine g_iconst h (nI 0) dX5_isMarks_15 (by decide) ?_
      exact g_zret h hr rfl dX5_isMarks_16 (ret0 (inR_gt c8_2 rfl (by decide))) (Nat.le_of_ble_eq_true rfl) (Nat.le_of_ble_eq_true rfl)
    · skip
      refine g_iconst h (nI 1) dX5_isMarks_11 (by decide) ?_
      refine g_goto h 16 dX5_isMarks_12 (by decide) ?_
      exact g_zret h hr rfl dX5_isMarks_16 (ret1 (inR_of2 c1_1 c8_2 rfl (by decide))) (Nat.le_of_ble_eq_true rfl) (Nat.le_of_ble_eq_true rfl)
abbrev rm_X5_isDay : Room := { frames := 0, cells := 0, slots := 0, locals := 0 }
set_option maxRecDepth 100000 in
set_option maxHeartbeats 4000000 in
theorem c_X5_isDay (l : Launch) (E : EnvD) (σ : Sto) (x : Int32) : CC l yX5_isDay cX5_isDay 1 (some .boolean) rm_X5_isDay E [.int x] σ (fun o s => o = some (.int (bI (inR x 1000))) ∧ s = σ) := by
  refine cc_of (vs := [_]) (by decide) (Nat.le_of_ble_eq_true rfl) rfl ?_
  intro X h hr hn
  refine g_iload_n h 0 dX5_isDay_0 rfl rfl ?_
  refine g_if_lt h 15 dX5_isDay_1 (by decide) (fun c1_1 => ?_) (fun c1_1 => ?_)
  · skip
    refine g_iconst h (nI 0) dX5_isDay_15 (by decide) ?_
    exact g_zret h hr rfl dX5_isDay_16 (ret0 (inR_neg c1_1 (by decide))) (Nat.le_of_ble_eq_true rfl) (Nat.le_of_ble_eq_true rfl)
  · skip
    refine g_iload_n h 0 dX5_isDay_4 rfl rfl ?_
    refine g_sipush h (nI 999) dX5_isDay_5 (by decide) ?_
    refine g_icmp_gt h 15 dX5_isDay_8 (by decide) (fun c8_2 => ?_) (fun c8_2 => ?_)
    · skip
      refine g_iconst h (nI 0) dX5_isDay_15 (by decide) ?_
      exact g_zret h hr rfl dX5_isDay_16 (ret0 (inR_gt c8_2 rfl (by decide))) (Nat.le_of_ble_eq_true rfl) (Nat.le_of_ble_eq_true rfl)
    · skip
      refine g_iconst h (nI 1) dX5_isDay_11 (by decide) ?_
      refine g_goto h 16 dX5_isDay_12 (by decide) ?_
      exact g_zret h hr rfl dX5_isDay_16 (ret1 (inR_of2 c1_1 c8_2 rfl (by decide))) (Nat.le_of_ble_eq_true rfl) (Nat.le_of_ble_eq_true rfl)
abbrev rm_X2_has : Room := { frames := 0, cells := 0, slots := 0, locals := 0 }
set_option maxRecDepth 100000 in
set_option maxHeartbeats 4000000 in
theorem c_X2_has (l : Launch) (E : EnvD) (σ : Sto) {r t n : Nat} {f : Nat → Int32} (h1 : σ.1 r = some (cO 2 [.ref t, .int (nI n)])) (h2 : σ.1 t = some (cI E 40 f)) (h3 : n ≤ 40) (i : Int32) : CC l yX2_has cX2_has 2 (some .boolean) rm_X2_has E [.ref r, .int i] σ (fun o s => o = some (.int (bI (inR i n))) ∧ s = σ) := by
  refine cc_of (vs := [_, _]) (by decide) (Nat.le_of_ble_eq_true rfl) rfl ?_
  intro X h hr hn
  refine g_iload_n h 1 dX2_has_0 rfl rfl ?_
  refine g_if_lt h 25 dX2_has_1 (by decide) (fun c1_1 => ?_) (fun c1_1 => ?_)
  · skip
    refine g_iconst h (nI 0) dX2_has_25 (by decide) ?_
    exact g_zret h hr rfl dX2_has_26 (ret0 (inR_neg c1_1 (by omega))) (Nat.le_of_ble_eq_true rfl) (Nat.le_of_ble_eq_true rfl)
  · skip
    refine g_iload_n h 1 dX2_has_4 rfl rfl ?_
    refine g_aload_n h 0 dX2_has_5 rfl rfl ?_
    refine g_get h 1 fa_X2_15 dX2_has_6 h1 rfl ?_
    refine g_icmp_ge h 25 dX2_has_9 (by decide) (fun c9_2 => ?_) (fun c9_2 => ?_)
    · skip
      refine g_iconst h (nI 0) dX2_has_25 (by decide) ?_
      exact g_zret h hr rfl dX2_has_26 (ret0 (inR_ge c9_2 (by omega))) (Nat.le_of_ble_eq_true rfl) (Nat.le_of_ble_eq_true rfl)
    · skip
      refine g_iload_n h 1 dX2_has_12 rfl rfl ?_
      refine g_aload_n h 0 dX2_has_13 rfl rfl ?_
      refine g_get h 0 fa_X2_9 dX2_has_14 h1 rfl ?_
      refine g_alen (v := nI 40) h 0 dX2_has_17 rfl h2 rfl ?_
      refine g_icmp_ge h 25 dX2_has_18 (by decide) (fun c18_3 => absurd (inR_of c1_1 c9_2 (by omega)) (fun z => inR_ge c18_3 (by decide) (by obtain ⟨j, hj, e⟩ := z; exact ⟨j, by omega, e⟩))) (fun c18_3 => ?_)
      refine g_iconst h (nI 1) dX2_has_21 (by decide) ?_
      refine g_goto h 26 dX2_has_22 (by decide) ?_
      exact g_zret h hr rfl dX2_has_26 (ret1 (inR_of c1_1 c9_2 (by omega))) (Nat.le_of_ble_eq_true rfl) (Nat.le_of_ble_eq_true rfl)
abbrev rm_X2_at : Room := { frames := 1, cells := 0, slots := 0, locals := 21 }
set_option maxRecDepth 100000 in
set_option maxHeartbeats 4000000 in
theorem c_X2_at (l : Launch) (E : EnvD) (σ : Sto) {r t n : Nat} {f : Nat → Int32} (h1 : σ.1 r = some (cO 2 [.ref t, .int (nI n)])) (h2 : σ.1 t = some (cI E 40 f)) (h3 : n ≤ 40) (i : Int32) : CC l yX2_at cX2_at 2 (some .int) rm_X2_at E [.ref r, .int i] σ (fun o s => o = some (.int (atV n f i)) ∧ s = σ) := by
  refine cc_of (vs := [_, _]) (by decide) (Nat.le_of_ble_eq_true rfl) rfl ?_
  intro X h hr hn
  refine g_aload_n h 0 dX2_at_0 rfl rfl ?_
  refine g_iload_n h 1 dX2_at_1 rfl rfl ?_
  refine g_callV h [] (c_X2_has (xL X) E _ h1 h2 h3 i) cf_X2_19 cv_X2_has dX2_at_2 rfl h1 rfl rfl (Nat.le_of_ble_eq_true rfl) ⟨(Nat.le_of_ble_eq_true rfl), (Nat.le_of_ble_eq_true rfl)⟩ ⟨(Nat.le_of_ble_eq_true rfl), (Nat.le_of_ble_eq_true rfl)⟩ ?_
  refine kk_det ?_
  refine g_if_eqB h 17 dX2_at_5 (by decide) (fun c5_1 => ?_) (fun c5_1 => ?_)
  · skip
    refine g_iconst h (-1) dX2_at_17 (by decide) ?_
    exact g_iret h hr dX2_at_18 (retI (atV_out c5_1).symm) (Nat.le_of_ble_eq_true rfl) (Nat.le_of_ble_eq_true rfl)
  · skip
    obtain ⟨j, hj, rfl⟩ := c5_1
    refine g_aload_n h 0 dX2_at_8 rfl rfl ?_
    refine g_get h 0 fa_X2_9 dX2_at_9 h1 rfl ?_
    refine g_iload_n h 1 dX2_at_12 rfl rfl ?_
    refine g_iald h dX2_at_13 h2 (by omega) (by omega) ?_
    refine g_goto h 18 dX2_at_14 (by decide) ?_
    exact g_iret h hr dX2_at_18 (retI (atV_in hj (by omega)).symm) (Nat.le_of_ble_eq_true rfl) (Nat.le_of_ble_eq_true rfl)
abbrev rm_X2_isFull : Room := { frames := 0, cells := 0, slots := 0, locals := 0 }
set_option maxRecDepth 100000 in
set_option maxHeartbeats 4000000 in
theorem c_X2_isFull (l : Launch) (E : EnvD) (σ : Sto) {r t n : Nat} {f : Nat → Int32} (h1 : σ.1 r = some (cO 2 [.ref t, .int (nI n)])) (h2 : σ.1 t = some (cI E 40 f)) (h3 : n ≤ 40) : CC l yX2_isFull cX2_isFull 1 (some .boolean) rm_X2_isFull E [.ref r] σ (fun o s => o = some (.int (bI (40 ≤ n))) ∧ s = σ) := by
  refine cc_of (vs := [_]) (by decide) (Nat.le_of_ble_eq_true rfl) rfl ?_
  intro X h hr hn
  refine g_aload_n h 0 dX2_isFull_0 rfl rfl ?_
  refine g_get h 1 fa_X2_15 dX2_isFull_1 h1 rfl ?_
  refine g_aload_n h 0 dX2_isFull_4 rfl rfl ?_
  refine g_get h 0 fa_X2_9 dX2_isFull_5 h1 rfl ?_
  refine g_alen (v := nI 40) h 0 dX2_isFull_8 rfl h2 rfl ?_
  refine g_icmp_ltN h 16 dX2_isFull_9 (by decide) (by omega) (by decide) (fun c9_1 => ?_) (fun c9_1 => ?_)
  · skip
    refine g_iconst h (nI 0) dX2_isFull_16 (by decide) ?_
    exact g_zret h hr rfl dX2_isFull_17 (ret0 (Nat.not_le.mpr c9_1)) (Nat.le_of_ble_eq_true rfl) (Nat.le_of_ble_eq_true rfl)
  · skip
    refine g_iconst h (nI 1) dX2_isFull_12 (by decide) ?_
    refine g_goto h 17 dX2_isFull_13 (by decide) ?_
    exact g_zret h hr rfl dX2_isFull_17 (ret1 c9_1) (Nat.le_of_ble_eq_true rfl) (Nat.le_of_ble_eq_true rfl)
abbrev rm_X2_insert : Room := { frames := 1, cells := 0, slots := 0, locals := 20 }
set_option maxRecDepth 100000 in
set_option maxHeartbeats 4000000 in
theorem c_X2_insert (l : Launch) (E : EnvD) (σ : Sto) {r t n : Nat} {f : Nat → Int32} (h1 : σ.1 r = some (cO 2 [.ref t, .int (nI n)])) (h2 : σ.1 t = some (cI E 40 f)) (h3 : n ≤ 40) {i : Nat} (x : Int32) (h4 : i ≤ n) (h5 : n < 40) : CC l yX2_insert cX2_insert 4 none rm_X2_insert E [.ref r, .int (nI i), .int x] σ (fun o s => o = none ∧ s = sup (sup σ t (cI E 40 (insF f n i x))) r (cO 2 [.ref t, .int (nI (n + 1))])) := by
  refine cc_of (vs := [_, _, _, _]) (by decide) (Nat.le_of_ble_eq_true rfl) rfl ?_
  intro X h hr hn
  refine g_iload_n h 1 dX2_insert_0 rfl rfl ?_
  refine g_if_ltN h 19 dX2_insert_1 (by decide) (by omega) ?_
  refine g_iload_n h 1 dX2_insert_4 rfl rfl ?_
  refine g_aload_n h 0 dX2_insert_5 rfl rfl ?_
  refine g_get h 1 fa_X2_15 dX2_insert_6 h1 rfl ?_
  refine g_icmp_gtN h 19 dX2_insert_9 (by decide) (by omega) (by omega) (fun c9_2 => absurd c9_2 (by omega)) (fun c9_2 => ?_)
  refine g_aload_n h 0 dX2_insert_12 rfl rfl ?_
  refine g_callV h [] (c_X2_isFull (xL X) E _ h1 h2 h3) cf_X2_23 cv_X2_isFull dX2_insert_13 rfl h1 rfl rfl (Nat.le_of_ble_eq_true rfl) ⟨(Nat.le_of_ble_eq_true rfl), (Nat.le_of_ble_eq_true rfl)⟩ ⟨(Nat.le_of_ble_eq_true rfl), (Nat.le_of_ble_eq_true rfl)⟩ ?_
  refine kk_det ?_
  refine g_if_eqB h 20 dX2_insert_16 (by decide) (fun c16_3 => ?_) (fun c16_3 => absurd c16_3 (by omega))
  refine g_aload_n h 0 dX2_insert_20 rfl rfl ?_
  refine g_get h 1 fa_X2_15 dX2_insert_21 h1 rfl ?_
  refine g_istore_n (vs' := [_, _, _, _]) h 3 dX2_insert_24 rfl (Nat.le_of_ble_eq_true rfl) rfl rfl ?_
  refine g_sto (sup_self (e := cI E 40 (shF f n n)) (by rw [shF_n]; exact h2)).symm ?_
  have L25 : ∀ (m0 : Nat) (k : Nat), (i ≤ k) → (k ≤ n) → (k - i) < m0 → G X E 4 (AD σ) (QF X E σ (fun o s => o = none ∧ s = sup (sup σ t (cI E 40 (insF f n i x))) r (cO 2 [.ref t, .int (nI (n + 1))])) rm_X2_insert) 0 0 25 [some (.ref r), some (.int (nI i)), some (.int x), some (.int (nI k))] [] (sup σ t (cI E 40 (shF f n k))) := by
    intro m0
    induction m0 with
    | zero => intro k _ _ hm0; exact absurd hm0 (Nat.not_lt_zero _)
    | succ m0 ih =>
      intro k hk1 hk2 hm0
      refine g_iload_n h 3 dX2_insert_25 rfl rfl ?_
      refine g_iload_n h 1 dX2_insert_26 rfl rfl ?_
      refine g_icmp_leN h 50 dX2_insert_27 (by decide) (by omega) (by omega) (fun c27_4 => ?_) (fun c27_4 => ?_)
      · skip
        have hki : k = i := by omega
        subst hki
        refine g_aload_n h 0 dX2_insert_50 rfl rfl ?_
        refine g_get h 0 fa_X2_9 dX2_insert_51 (sup_k h1 h2 (by simp)) rfl ?_
        refine g_iload_n h 1 dX2_insert_54 rfl rfl ?_
        refine g_iload_n h 2 dX2_insert_55 rfl rfl ?_
        refine g_iast h dX2_insert_56 sup_eq (by omega) (by omega) ?_
        refine g_sto sup_sup ?_
        refine g_aload_n h 0 dX2_insert_57 rfl rfl ?_
        refine g_dup h dX2_insert_58 rfl ?_
        refine g_get h 1 fa_X2_15 dX2_insert_59 (sup_k h1 h2 (by simp)) rfl ?_
        refine g_iconst h (nI 1) dX2_insert_62 (by decide) ?_
        refine g_iaddN h dX2_insert_63 ?_
        refine g_put (fs' := [_, _]) h 1 fp_X2_15 dX2_insert_64 (sup_k h1 h2 (by simp)) (Nat.le_of_ble_eq_true rfl) rfl rfl rfl ?_
        exact g_vret h hr dX2_insert_67 (⟨rfl, by rw [shF_end]⟩) (Nat.le_of_ble_eq_true rfl) (Nat.le_of_ble_eq_true rfl)
      · skip
        refine g_aload_n h 0 dX2_insert_30 rfl rfl ?_
        refine g_get h 0 fa_X2_9 dX2_insert_31 (sup_k h1 h2 (by simp)) rfl ?_
        refine g_iload_n h 3 dX2_insert_34 rfl rfl ?_
        refine g_aload_n h 0 dX2_insert_35 rfl rfl ?_
        refine g_get h 0 fa_X2_9 dX2_insert_36 (sup_k h1 h2 (by simp)) rfl ?_
        refine g_iload_n h 3 dX2_insert_39 rfl rfl ?_
        refine g_iconst h (nI 1) dX2_insert_40 (by decide) ?_
        refine g_isubN h dX2_insert_41 (by omega) ?_
        refine g_iald h dX2_insert_42 sup_eq (by omega) (by omega) ?_
        refine g_iast h dX2_insert_43 sup_eq (by omega) (by omega) ?_
        refine g_sto sup_sup ?_
        refine g_iinc (vs' := [_, _, _, _]) h (nI (k - 1)) dX2_insert_44 rfl (nI_dec (by omega)) (Nat.le_of_ble_eq_true rfl) rfl rfl ?_
        refine g_goto h 25 dX2_insert_47 (by decide) ?_
        refine g_sto (by rw [shF_step (by omega) (by omega)]) ?_
        exact ih (k - 1) (by omega) (by omega) (by omega)
  exact L25 (n - i + 1) n (by omega) (by omega) (Nat.lt_succ_self _)
abbrev rm_X2_remove : Room := { frames := 1, cells := 0, slots := 0, locals := 21 }
set_option maxRecDepth 100000 in
set_option maxHeartbeats 4000000 in
theorem c_X2_remove (l : Launch) (E : EnvD) (σ : Sto) {r t n : Nat} {f : Nat → Int32} (h1 : σ.1 r = some (cO 2 [.ref t, .int (nI n)])) (h2 : σ.1 t = some (cI E 40 f)) (h3 : n ≤ 40) {i : Nat} (h4 : i < n) : CC l yX2_remove cX2_remove 3 none rm_X2_remove E [.ref r, .int (nI i)] σ (fun o s => o = none ∧ s = sup (sup σ t (cI E 40 (remF f n i))) r (cO 2 [.ref t, .int (nI (n - 1))])) := by
  refine cc_of (vs := [_, _, _]) (by decide) (Nat.le_of_ble_eq_true rfl) rfl ?_
  intro X h hr hn
  refine g_aload_n h 0 dX2_remove_0 rfl rfl ?_
  refine g_iload_n h 1 dX2_remove_1 rfl rfl ?_
  refine g_callV h [] (c_X2_has (xL X) E _ h1 h2 h3 (nI i)) cf_X2_19 cv_X2_has dX2_remove_2 rfl h1 rfl rfl (Nat.le_of_ble_eq_true rfl) ⟨(Nat.le_of_ble_eq_true rfl), (Nat.le_of_ble_eq_true rfl)⟩ ⟨(Nat.le_of_ble_eq_true rfl), (Nat.le_of_ble_eq_true rfl)⟩ ?_
  refine kk_det ?_
  refine g_if_neB h 9 dX2_remove_5 (by decide) (fun c5_1 => ?_) (fun c5_1 => absurd ⟨i, h4, rfl⟩ c5_1)
  refine g_iload_n h 1 dX2_remove_9 rfl rfl ?_
  refine g_istore_n (vs' := [_, _, _]) h 2 dX2_remove_10 rfl (Nat.le_of_ble_eq_true rfl) rfl rfl ?_
  refine g_sto (sup_self (e := cI E 40 (remF f (i + 1) i)) (by rw [show remF f (i + 1) i = f from by funext q; unfold remF; rw [if_neg (by omega)]]; exact h2)).symm ?_
  have L11 : ∀ (m0 : Nat) (k : Nat), (i ≤ k) → (k < n) → (n - k) < m0 → G X E 3 (AD σ) (QF X E σ (fun o s => o = none ∧ s = sup (sup σ t (cI E 40 (remF f n i))) r (cO 2 [.ref t, .int (nI (n - 1))])) rm_X2_remove) 0 0 11 [some (.ref r), some (.int (nI i)), some (.int (nI k))] [] (sup σ t (cI E 40 (remF f (k + 1) i))) := by
    intro m0
    induction m0 with
    | zero => intro k _ _ hm0; exact absurd hm0 (Nat.not_lt_zero _)
    | succ m0 ih =>
      intro k hk1 hk2 hm0
      refine g_iload_n h 2 dX2_remove_11 rfl rfl ?_
      refine g_iconst h (nI 1) dX2_remove_12 (by decide) ?_
      refine g_iaddN h dX2_remove_13 ?_
      refine g_aload_n h 0 dX2_remove_14 rfl rfl ?_
      refine g_get h 1 fa_X2_15 dX2_remove_15 (sup_k h1 h2 (by simp)) rfl ?_
      refine g_icmp_geN h 41 dX2_remove_18 (by decide) (by omega) (by omega) (fun c18_2 => ?_) (fun c18_2 => ?_)
      · skip
        obtain rfl : n = k + 1 := by omega
        refine g_aload_n h 0 dX2_remove_41 rfl rfl ?_
        refine g_dup h dX2_remove_42 rfl ?_
        refine g_get h 1 fa_X2_15 dX2_remove_43 (sup_k h1 h2 (by simp)) rfl ?_
        refine g_iconst h (nI 1) dX2_remove_46 (by decide) ?_
        refine g_isubN h dX2_remove_47 (by omega) ?_
        refine g_put (fs' := [_, _]) h 1 fp_X2_15 dX2_remove_48 (sup_k h1 h2 (by simp)) (Nat.le_of_ble_eq_true rfl) rfl rfl rfl ?_
        exact g_vret h hr dX2_remove_51 (⟨rfl, rfl⟩) (Nat.le_of_ble_eq_true rfl) (Nat.le_of_ble_eq_true rfl)
      · skip
        refine g_aload_n h 0 dX2_remove_21 rfl rfl ?_
        refine g_get h 0 fa_X2_9 dX2_remove_22 (sup_k h1 h2 (by simp)) rfl ?_
        refine g_iload_n h 2 dX2_remove_25 rfl rfl ?_
        refine g_aload_n h 0 dX2_remove_26 rfl rfl ?_
        refine g_get h 0 fa_X2_9 dX2_remove_27 (sup_k h1 h2 (by simp)) rfl ?_
        refine g_iload_n h 2 dX2_remove_30 rfl rfl ?_
        refine g_iconst h (nI 1) dX2_remove_31 (by decide) ?_
        refine g_iaddN h dX2_remove_32 ?_
        refine g_iald h dX2_remove_33 sup_eq (by omega) (by omega) ?_
        refine g_iast h dX2_remove_34 sup_eq (by omega) (by omega) ?_
        refine g_sto sup_sup ?_
        refine g_iinc (vs' := [_, _, _]) h (nI (k + 1)) dX2_remove_35 rfl (by first | exact nI_1 _ | rfl) (Nat.le_of_ble_eq_true rfl) rfl rfl ?_
        refine g_goto h 11 dX2_remove_38 (by decide) ?_
        refine g_sto (by rw [remF_step (by omega)]) ?_
        exact ih (k + 1) (by omega) (by omega) (by omega)
  exact L11 (n - i + 1) i (by omega) (by omega) (Nat.lt_succ_self _)
abbrev rm_X2_empty : Room := { frames := 0, cells := 0, slots := 0, locals := 0 }
set_option maxRecDepth 100000 in
set_option maxHeartbeats 4000000 in
theorem c_X2_empty (l : Launch) (E : EnvD) (σ : Sto) {r t n : Nat} (h1 : σ.1 r = some (cO 2 [.ref t, .int (nI n)])) : CC l yX2_empty cX2_empty 1 none rm_X2_empty E [.ref r] σ (fun o s => o = none ∧ s = sup σ r (cO 2 [.ref t, .int (nI 0)])) := by
  refine cc_of (vs := [_]) (by decide) (Nat.le_of_ble_eq_true rfl) rfl ?_
  intro X h hr hn
  refine g_aload_n h 0 dX2_empty_0 rfl rfl ?_
  refine g_iconst h (nI 0) dX2_empty_1 (by decide) ?_
  refine g_put (fs' := [_, _]) h 1 fp_X2_15 dX2_empty_2 h1 (Nat.le_of_ble_eq_true rfl) rfl rfl rfl ?_
  exact g_vret h hr dX2_empty_5 (⟨rfl, rfl⟩) (Nat.le_of_ble_eq_true rfl) (Nat.le_of_ble_eq_true rfl)
abbrev rm_X2_become : Room := { frames := 2, cells := 0, slots := 0, locals := 42 }
set_option maxRecDepth 100000 in
set_option maxHeartbeats 4000000 in
theorem c_X2_become (l : Launch) (E : EnvD) (σ : Sto) {r t n : Nat} {f : Nat → Int32} (h1 : σ.1 r = some (cO 2 [.ref t, .int (nI n)])) (h2 : σ.1 t = some (cI E 40 f)) (h3 : n ≤ 40) {r2 t2 m : Nat} {g : Nat → Int32} (h4 : σ.1 r2 = some (cO 2 [.ref t2, .int (nI m)])) (h5 : σ.1 t2 = some (cI E 40 g)) (h6 : m ≤ 40) (hne : t2 ≠ t) : CC l yX2_become cX2_become 3 none rm_X2_become E [.ref r, .ref r2] σ (fun o s => o = none ∧ s = sup (sup σ t (cI E 40 (becF f g m))) r (cO 2 [.ref t, .int (nI m)])) := by
  refine cc_of (vs := [_, _, _]) (by decide) (Nat.le_of_ble_eq_true rfl) rfl ?_
  intro X h hr hn
  refine g_iconst h (nI 0) dX2_become_0 (by decide) ?_
  refine g_istore_n (vs' := [_, _, _]) h 2 dX2_become_1 rfl (Nat.le_of_ble_eq_true rfl) rfl rfl ?_
  refine g_sto (sup_self (e := cI E 40 (becF f g 0)) (by rw [becF_0]; exact h2)).symm ?_
  have L2 : ∀ (m0 : Nat) (k : Nat), (k ≤ m) → (m - k) < m0 → G X E 3 (AD σ) (QF X E σ (fun o s => o = none ∧ s = sup (sup σ t (cI E 40 (becF f g m))) r (cO 2 [.ref t, .int (nI m)])) rm_X2_become) 0 0 2 [some (.ref r), some (.ref r2), some (.int (nI k))] [] (sup σ t (cI E 40 (becF f g k))) := by
    intro m0
    induction m0 with
    | zero => intro k _ hm0; exact absurd hm0 (Nat.not_lt_zero _)
    | succ m0 ih =>
      intro k hk1 hm0
      refine g_iload_n h 2 dX2_become_2 rfl rfl ?_
      refine g_aload_n h 1 dX2_become_3 rfl rfl ?_
      refine g_get h 1 fa_X2_15 dX2_become_4 (sup_k h4 h2 (by simp)) rfl ?_
      refine g_icmp_geN h 36 dX2_become_7 (by decide) (by omega) (by omega) (fun c7_1 => ?_) (fun c7_1 => ?_)
      · skip
        obtain rfl : m = k := by omega
        refine g_aload_n h 0 dX2_become_36 rfl rfl ?_
        refine g_aload_n h 1 dX2_become_37 rfl rfl ?_
        refine g_get h 1 fa_X2_15 dX2_become_38 (sup_k h4 h2 (by simp)) rfl ?_
        refine g_put (fs' := [_, _]) h 1 fp_X2_15 dX2_become_41 (sup_k h1 h2 (by simp)) (Nat.le_of_ble_eq_true rfl) rfl rfl rfl ?_
        exact g_vret h hr dX2_become_44 (⟨rfl, rfl⟩) (Nat.le_of_ble_eq_true rfl) (Nat.le_of_ble_eq_true rfl)
      · skip
        refine g_iload_n h 2 dX2_become_10 rfl rfl ?_
        refine g_aload_n h 0 dX2_become_11 rfl rfl ?_
        refine g_get h 0 fa_X2_9 dX2_become_12 (sup_k h1 h2 (by simp)) rfl ?_
        refine g_alen (v := nI 40) h 0 dX2_become_15 rfl sup_eq rfl ?_
        refine g_icmp_geN h 36 dX2_become_16 (by decide) (by omega) (by decide) (fun c16_2 => absurd c16_2 (by omega)) (fun c16_2 => ?_)
        refine g_aload_n h 0 dX2_become_19 rfl rfl ?_
        refine g_get h 0 fa_X2_9 dX2_become_20 (sup_k h1 h2 (by simp)) rfl ?_
        refine g_iload_n h 2 dX2_become_23 rfl rfl ?_
        refine g_aload_n h 1 dX2_become_24 rfl rfl ?_
        refine g_iload_n h 2 dX2_become_25 rfl rfl ?_
        refine g_callV h [_, _] (c_X2_at (xL X) E _ (sup_k h4 h2 (by simp)) ((sup_ne hne).trans h5) h6 (nI k)) cf_X2_27 cv_X2_at dX2_become_26 rfl (sup_k h4 h2 (by simp)) rfl rfl (Nat.le_of_ble_eq_true rfl) ⟨(Nat.le_of_ble_eq_true rfl), (Nat.le_of_ble_eq_true rfl)⟩ ⟨(Nat.le_of_ble_eq_true rfl), (Nat.le_of_ble_eq_true rfl)⟩ ?_
        refine kk_det ?_
        refine g_top (y := g k) (atV_in (by omega) (by omega)) ?_
        refine g_iast h dX2_become_29 sup_eq (by omega) (by omega) ?_
        refine g_sto sup_sup ?_
        refine g_iinc (vs' := [_, _, _]) h (nI (k + 1)) dX2_become_30 rfl (by first | exact nI_1 _ | rfl) (Nat.le_of_ble_eq_true rfl) rfl rfl ?_
        refine g_goto h 2 dX2_become_33 (by decide) ?_
        refine g_sto (by rw [becF_step]) ?_
        exact ih (k + 1) (by omega) (by omega)
  exact L2 (m + 1) 0 (by omega) (by omega)
set_option maxRecDepth 100000 in
set_option maxHeartbeats 4000000 in
theorem c_X2_become_self (l : Launch) (E : EnvD) (σ : Sto) {r t n : Nat} {f : Nat → Int32} (h1 : σ.1 r = some (cO 2 [.ref t, .int (nI n)])) (h2 : σ.1 t = some (cI E 40 f)) (h3 : n ≤ 40) : CC l yX2_become cX2_become 3 none rm_X2_become E [.ref r, .ref r] σ (fun o s => o = none ∧ s = σ) := by
  refine cc_of (vs := [_, _, _]) (by decide) (Nat.le_of_ble_eq_true rfl) rfl ?_
  intro X h hr hn
  refine g_iconst h (nI 0) dX2_become_0 (by decide) ?_
  refine g_istore_n (vs' := [_, _, _]) h 2 dX2_become_1 rfl (Nat.le_of_ble_eq_true rfl) rfl rfl ?_
  have L2 : ∀ (m0 : Nat) (k : Nat), (k ≤ n) → (n - k) < m0 → G X E 3 (AD σ) (QF X E σ (fun o s => o = none ∧ s = σ) rm_X2_become) 0 0 2 [some (.ref r), some (.ref r), some (.int (nI k))] [] σ := by
    intro m0
    induction m0 with
    | zero => intro k _ hm0; exact absurd hm0 (Nat.not_lt_zero _)
    | succ m0 ih =>
      intro k hk1 hm0
      refine g_iload_n h 2 dX2_become_2 rfl rfl ?_
      refine g_aload_n h 1 dX2_become_3 rfl rfl ?_
      refine g_get h 1 fa_X2_15 dX2_become_4 h1 rfl ?_
      refine g_icmp_geN h 36 dX2_become_7 (by decide) (by omega) (by omega) (fun c7_1 => ?_) (fun c7_1 => ?_)
      · skip
        refine g_aload_n h 0 dX2_become_36 rfl rfl ?_
        refine g_aload_n h 1 dX2_become_37 rfl rfl ?_
        refine g_get h 1 fa_X2_15 dX2_become_38 h1 rfl ?_
        refine g_put (fs' := [_, _]) h 1 fp_X2_15 dX2_become_41 h1 (Nat.le_of_ble_eq_true rfl) rfl rfl rfl ?_
        exact g_vret h hr dX2_become_44 (⟨rfl, sup_self h1⟩) (Nat.le_of_ble_eq_true rfl) (Nat.le_of_ble_eq_true rfl)
      · skip
        refine g_iload_n h 2 dX2_become_10 rfl rfl ?_
        refine g_aload_n h 0 dX2_become_11 rfl rfl ?_
        refine g_get h 0 fa_X2_9 dX2_become_12 h1 rfl ?_
        refine g_alen (v := nI 40) h 0 dX2_become_15 rfl h2 rfl ?_
        refine g_icmp_geN h 36 dX2_become_16 (by decide) (by omega) (by decide) (fun c16_2 => absurd c16_2 (by omega)) (fun c16_2 => ?_)
        refine g_aload_n h 0 dX2_become_19 rfl rfl ?_
        refine g_get h 0 fa_X2_9 dX2_become_20 h1 rfl ?_
        refine g_iload_n h 2 dX2_become_23 rfl rfl ?_
        refine g_aload_n h 1 dX2_become_24 rfl rfl ?_
        refine g_iload_n h 2 dX2_become_25 rfl rfl ?_
        refine g_callV h [_, _] (c_X2_at (xL X) E _ h1 h2 h3 (nI k)) cf_X2_27 cv_X2_at dX2_become_26 rfl h1 rfl rfl (Nat.le_of_ble_eq_true rfl) ⟨(Nat.le_of_ble_eq_true rfl), (Nat.le_of_ble_eq_true rfl)⟩ ⟨(Nat.le_of_ble_eq_true rfl), (Nat.le_of_ble_eq_true rfl)⟩ ?_
        refine kk_det ?_
        refine g_top (y := f k) (atV_in (by omega) (by omega)) ?_
        refine g_iast h dX2_become_29 h2 (by omega) (by omega) ?_
        refine g_iinc (vs' := [_, _, _]) h (nI (k + 1)) dX2_become_30 rfl (by first | exact nI_1 _ | rfl) (Nat.le_of_ble_eq_true rfl) rfl rfl ?_
        refine g_goto h 2 dX2_become_33 (by decide) ?_
        refine g_sto (sup_self (by rw [show upd f k (f k) = f from by funext q; unfold upd; split <;> simp_all]; exact h2)) ?_
        exact ih (k + 1) (by omega) (by omega)
  exact L2 (n + 1) 0 (by omega) (by omega)
end
section
/-! the state as numbers; what the class's cells and the reference's cells say of it (own work) -/
abbrev PSt : Type := ((Nat → Nat) × (Nat → Nat → Nat)) × ((Nat → Nat) × (Nat → Nat → Int32)) × (Nat × (Nat → Nat × Nat × Nat)) × (Nat → Nat) × (Nat × (Nat → Nat × Nat × Nat × Nat)) × (Nat × (Nat → Nat))
def sVn (S : PSt) (v : Nat) : Nat := S.1.1 v
def sVl (S : PSt) (v i : Nat) : Nat := S.1.2 v i
def sPn (S : PSt) (p : Nat) : Nat := S.2.1.1 p
def sPh (S : PSt) (p i : Nat) : Int32 := S.2.1.2 p i
def sCn (S : PSt) : Nat := S.2.2.1.1
def sCs (S : PSt) (i : Nat) : Nat := (S.2.2.1.2 i).1
def sCx (S : PSt) (i : Nat) : Nat := (S.2.2.1.2 i).2.1
def sCy (S : PSt) (i : Nat) : Nat := (S.2.2.1.2 i).2.2
def sMk (S : PSt) (x : Nat) : Nat := S.2.2.2.1 x
def sRn (S : PSt) : Nat := S.2.2.2.2.1.1
def sRt (S : PSt) (i : Nat) : Nat := (S.2.2.2.2.1.2 i).1
def sRm (S : PSt) (i : Nat) : Nat := (S.2.2.2.2.1.2 i).2.1
def sRf (S : PSt) (i : Nat) : Nat := (S.2.2.2.2.1.2 i).2.2.1
def sRo (S : PSt) (i : Nat) : Nat := (S.2.2.2.2.1.2 i).2.2.2
def sTn (S : PSt) : Nat := S.2.2.2.2.2.1
def sTl (S : PSt) (i : Nat) : Nat := S.2.2.2.2.2.2 i
def upN {α : Type} (f : Nat → α) (k : Nat) (x : α) : Nat → α := fun j => if j = k then x else f j
theorem upN_eq {α : Type} {f : Nat → α} {k : Nat} {x : α} : upN f k x k = x := by unfold upN; rw [if_pos rfl]
theorem upN_ne {α : Type} {f : Nat → α} {k j : Nat} {x : α} (h : j ≠ k) : upN f k x j = f j := by unfold upN; rw [if_neg h]
def setV (S : PSt) (v n : Nat) (l : Nat → Nat) : PSt := ((upN S.1.1 v n, upN S.1.2 v l), S.2)
def setP (S : PSt) (p n : Nat) (g : Nat → Int32) : PSt := (S.1, (upN S.2.1.1 p n, upN S.2.1.2 p g), S.2.2)
def addC (S : PSt) (s x y : Nat) : PSt := (S.1, S.2.1, (S.2.2.1.1 + 1, upN S.2.2.1.2 S.2.2.1.1 (s, x, y)), S.2.2.2)
def clrC (S : PSt) : PSt := (S.1, S.2.1, (0, S.2.2.1.2), S.2.2.2)
def setM (S : PSt) (x m : Nat) : PSt := (S.1, S.2.1, S.2.2.1, upN S.2.2.2.1 x m, S.2.2.2.2)
def addR (S : PSt) (t m f o : Nat) : PSt := (S.1, S.2.1, S.2.2.1, S.2.2.2.1, (S.2.2.2.2.1.1 + 1, upN S.2.2.2.2.1.2 S.2.2.2.2.1.1 (t, m, f, o)), S.2.2.2.2.2)
def setT (S : PSt) (n : Nat) (l : Nat → Nat) : PSt := (S.1, S.2.1, S.2.2.1, S.2.2.2.1, S.2.2.2.2.1, (n, l))
def PSt0 : PSt := ((fun _ => 0, fun _ _ => 0), (fun _ => 0, fun _ _ => 0), (0, fun _ => (0, 0, 0)), fun _ => 0, (0, fun _ => (0, 0, 0, 0)), (0, fun _ => 0))
def okH (x : Int32) : Prop := x = -1 ∨ ∃ j, j < 100 ∧ x = nI j
def Inv (S : PSt) : Prop :=
  (∀ v, v < 8 → sVn S v ≤ 40 ∧ ∀ i, i < sVn S v → sVl S v i < 100) ∧ (∀ p, p < 4 → sPn S p ≤ 40 ∧ ∀ i, i < sPn S p → okH (sPh S p i)) ∧
  (sCn S ≤ 12 ∧ ∀ i, i < sCn S → sCs S i < 7 ∧ sCx S i < 100 ∧ sCy S i < 100 ∧ (sCs S i = 1 → sCy S i ≤ 40)) ∧ (∀ x, x < 100 → sMk S x < 256) ∧
  (sRn S ≤ 20 ∧ ∀ i, i < sRn S → sRt S i < 8 ∧ sRm S i < 256 ∧ sRf S i ≤ sRo S i ∧ sRo S i < 1000) ∧ (sTn S ≤ 8 ∧ ∀ i, i < sTn S → sTl S i < 8)
/-- a Row at r (its numbers at r + 1): n things g -/
def RowIs (E : EnvD) (σ : Sto) (r n : Nat) (g : Nat → Int32) : Prop := σ.1 r = some (cO 2 [.ref (r + 1), .int (nI n)]) ∧ ∃ f, σ.1 (r + 1) = some (cI E 40 f) ∧ ∀ i, i < n → f i = g i
def C0 (z : Nat) (S : PSt) (σ : Sto) : Prop := σ.1 z = some (cO 5 [.ref (z + 1), .ref (z + 2), .ref (z + 3), .ref (z + 4), .ref (z + 5), .ref (z + 6), .ref (z + 49), .ref (z + 62), .int (nI (sCn S)), .int (nI (sRn S))])
def C1 (E : EnvD) (z : Nat) (σ : Sto) : Prop := ∃ f, σ.1 (z + 1) = some (cQ E 2 8 f) ∧ ∀ v, v < 8 → f v = some (z + 64 + 2 * v)
def C2 (E : EnvD) (z : Nat) (σ : Sto) : Prop := ∃ f, σ.1 (z + 2) = some (cQ E 2 4 f) ∧ ∀ v, v < 4 → f v = some (z + 80 + 2 * v)
def C3 (E : EnvD) (z : Nat) (S : PSt) (σ : Sto) : Prop := ∃ f, σ.1 (z + 3) = some (cQ E 3 12 f) ∧ ∀ i, i < sCn S → ∃ a, f i = some a ∧ σ.1 a = some (cO 1 [.int (nI (sCs S i)), .int (nI (sCx S i)), .int (nI (sCy S i))])
def C4 (E : EnvD) (z : Nat) (S : PSt) (σ : Sto) : Prop := ∃ f, σ.1 (z + 4) = some (cQ E 4 20 f) ∧ ∀ i, i < sRn S → ∃ a, f i = some a ∧ σ.1 a = some (cO 3 [.int (nI (sRt S i)), .int (nI (sRm S i)), .int (nI (sRf S i)), .int (nI (sRo S i))])
def C5 (E : EnvD) (z : Nat) (S : PSt) (σ : Sto) : Prop := ∃ f, σ.1 (z + 5) = some (cI E 100 f) ∧ ∀ i, i < 100 → f i = nI (sMk S i)
/-- the Changes at c: a table of 41 rows of 41 -/
def ChIs (E : EnvD) (σ : Sto) (c : Nat) : Prop := σ.1 c = some (cO 0 [.ref (c + 1)]) ∧ (∃ f, σ.1 (c + 1) = some (cQ E 5 41 f) ∧ ∀ i, i < 41 → f i = some (c + 2 + i)) ∧ ∀ i, i < 41 → ∃ g, σ.1 (c + 2 + i) = some (cI E 41 g)
/-- the TourPlan at c, but its row -/
def TpIs (E : EnvD) (σ : Sto) (c : Nat) : Prop := σ.1 c = some (cO 4 [.ref (c + 1), .ref (c + 3), .ref (c + 12)]) ∧ (∃ f, σ.1 (c + 3) = some (cQ E 5 8 f) ∧ ∀ i, i < 8 → f i = some (c + 4 + i)) ∧ (∀ i, i < 8 → ∃ g, σ.1 (c + 4 + i) = some (cI E 8 g)) ∧ ∃ g, σ.1 (c + 12) = some (cI E 256 g)
def RepC (E : EnvD) (z : Nat) (S : PSt) (σ : Sto) : Prop :=
  C0 z S σ ∧ C1 E z σ ∧ C2 E z σ ∧ C3 E z S σ ∧ C4 E z S σ ∧ C5 E z S σ ∧ ChIs E σ (z + 6) ∧ TpIs E σ (z + 49) ∧ RowIs E σ (z + 50) (sTn S) (fun i => nI (sTl S i)) ∧ (∃ n g, n ≤ 40 ∧ RowIs E σ (z + 62) n g) ∧
  (∀ v, v < 8 → RowIs E σ (z + 64 + 2 * v) (sVn S v) (fun i => nI (sVl S v i))) ∧ ∀ p, p < 4 → RowIs E σ (z + 80 + 2 * p) (sPn S p) (sPh S p)
section FR
variable {E : EnvD} {z : Nat} {S S' : PSt} {σ σ' : Sto}
theorem RowIs.fr {r n : Nat} {g : Nat → Int32} (h : RowIs E σ r n g) (h1 : σ'.1 r = σ.1 r) (h2 : σ'.1 (r + 1) = σ.1 (r + 1)) : RowIs E σ' r n g := by
  obtain ⟨a, f, b, c⟩ := h
  exact ⟨h1.trans a, f, h2.trans b, c⟩
theorem C0.fr (h : C0 z S σ) (h1 : σ'.1 z = σ.1 z) (hc : sCn S' = sCn S) (hr : sRn S' = sRn S) : C0 z S' σ' := by
  unfold C0 at h ⊢
  rw [h1, h, hc, hr]
theorem C1.fr (h : C1 E z σ) (h1 : σ'.1 (z + 1) = σ.1 (z + 1)) : C1 E z σ' := by
  obtain ⟨f, a, b⟩ := h
  exact ⟨f, h1.trans a, b⟩
theorem C2.fr (h : C2 E z σ) (h1 : σ'.1 (z + 2) = σ.1 (z + 2)) : C2 E z σ' := by
  obtain ⟨f, a, b⟩ := h
  exact ⟨f, h1.trans a, b⟩
theorem C3.fr (h : C3 E z S σ) (h1 : σ'.1 (z + 3) = σ.1 (z + 3)) (h2 : ∀ a fs, σ.1 a = some (cO 1 fs) → σ'.1 a = σ.1 a) (hc : S'.2.2.1 = S.2.2.1) : C3 E z S' σ' := by
  obtain ⟨f, a, b⟩ := h
  refine ⟨f, h1.trans a, fun i hi => ?_⟩
  unfold sCn sCs sCx sCy at *
  rw [hc] at hi ⊢
  obtain ⟨x, e1, e2⟩ := b i hi
  exact ⟨x, e1, (h2 x _ e2).trans e2⟩
theorem C4.fr (h : C4 E z S σ) (h1 : σ'.1 (z + 4) = σ.1 (z + 4)) (h2 : ∀ a fs, σ.1 a = some (cO 3 fs) → σ'.1 a = σ.1 a) (hc : S'.2.2.2.2.1 = S.2.2.2.2.1) : C4 E z S' σ' := by
  obtain ⟨f, a, b⟩ := h
  refine ⟨f, h1.trans a, fun i hi => ?_⟩
  unfold sRn sRt sRm sRf sRo at *
  rw [hc] at hi ⊢
  obtain ⟨x, e1, e2⟩ := b i hi
  exact ⟨x, e1, (h2 x _ e2).trans e2⟩
theorem C5.fr (h : C5 E z S σ) (h1 : σ'.1 (z + 5) = σ.1 (z + 5)) (hm : S'.2.2.2.1 = S.2.2.2.1) : C5 E z S' σ' := by
  obtain ⟨f, a, b⟩ := h
  refine ⟨f, h1.trans a, fun i hi => ?_⟩
  unfold sMk at *
  rw [hm]
  exact b i hi
theorem ChIs.fr {c : Nat} (h : ChIs E σ c) (h1 : ∀ a, c ≤ a → a < c + 43 → σ'.1 a = σ.1 a) : ChIs E σ' c := by
  obtain ⟨a, ⟨f, b1, b2⟩, d⟩ := h
  refine ⟨(h1 _ (by omega) (by omega)).trans a, ⟨f, (h1 _ (by omega) (by omega)).trans b1, b2⟩, fun i hi => ?_⟩
  obtain ⟨g, e⟩ := d i hi
  exact ⟨g, (h1 _ (by omega) (by omega)).trans e⟩
theorem TpIs.fr {c : Nat} (h : TpIs E σ c) (h1 : ∀ a, c ≤ a → a < c + 13 → a ≠ c + 1 → a ≠ c + 2 → σ'.1 a = σ.1 a) : TpIs E σ' c := by
  obtain ⟨a, ⟨f, b1, b2⟩, d, g, e⟩ := h
  refine ⟨(h1 _ (by omega) (by omega) (by omega) (by omega)).trans a, ⟨f, (h1 _ (by omega) (by omega) (by omega) (by omega)).trans b1, b2⟩, fun i hi => ?_, g, (h1 _ (by omega) (by omega) (by omega) (by omega)).trans e⟩
  obtain ⟨g, e⟩ := d i hi
  exact ⟨g, (h1 _ (by omega) (by omega) (by omega) (by omega)).trans e⟩
/-- a kind of cell is told by what it holds -/
theorem ne_kind {a b : Nat} {e0 e1 : va_E} (h1 : σ.1 b = some e1) (h0 : σ.1 a = some e0) (h : e0 ≠ e1) : b ≠ a := ne_k h1 h0 h
/-- a store whose Row at r is another one, everything else the same -/
def RowCh (σ σ' : Sto) (r : Nat) : Prop := σ'.2 = σ.2 ∧ ∀ a, a ≠ r → a ≠ r + 1 → σ'.1 a = σ.1 a
theorem RepC.rowV {v n : Nat} {l : Nat → Nat} (h : RepC E z S σ) (hv : v < 8) (hr : RowCh σ σ' (z + 64 + 2 * v)) (hn : RowIs E σ' (z + 64 + 2 * v) n (fun i => nI (l i))) : RepC E z (setV S v n l) σ' := by
  obtain ⟨h0, h1, h2, h3, h4, h5, h6, h7, h8, ⟨m, g, hm, h9⟩, h10, h11⟩ := h
  have ag : ∀ a, a ≠ z + 64 + 2 * v → a ≠ z + 64 + 2 * v + 1 → σ'.1 a = σ.1 a := hr.2
  obtain ⟨k1, f, k2, -⟩ := h10 v hv
  refine ⟨h0.fr (ag _ (by omega) (by omega)) rfl rfl, h1.fr (ag _ (by omega) (by omega)), h2.fr (ag _ (by omega) (by omega)), h3.fr (ag _ (by omega) (by omega)) (fun a fs e => ag a (ne_k e k1 (by simp)) (ne_k e k2 (by simp))) rfl, h4.fr (ag _ (by omega) (by omega)) (fun a fs e => ag a (ne_k e k1 (by simp)) (ne_k e k2 (by simp))) rfl, h5.fr (ag _ (by omega) (by omega)) rfl, h6.fr (fun a _ _ => ag a (by omega) (by omega)), h7.fr (fun a _ _ _ _ => ag a (by omega) (by omega)), h8.fr (ag _ (by omega) (by omega)) (ag _ (by omega) (by omega)), ⟨m, g, hm, h9.fr (ag _ (by omega) (by omega)) (ag _ (by omega) (by omega))⟩, fun w hw => ?_, fun p hp => (h11 p hp).fr (ag _ (by omega) (by omega)) (ag _ (by omega) (by omega))⟩
  by_cases e : w = v
  · subst e
    show RowIs E σ' _ (upN S.1.1 w n w) (fun i => nI (upN S.1.2 w l w i))
    rw [upN_eq, upN_eq]
    exact hn
  · show RowIs E σ' _ (upN S.1.1 v n w) (fun i => nI (upN S.1.2 v l w i))
    rw [upN_ne e, upN_ne e]
    exact (h10 w hw).fr (ag _ (by omega) (by omega)) (ag _ (by omega) (by omega))
theorem RepC.rowP {p n : Nat} {l : Nat → Int32} (h : RepC E z S σ) (hv : p < 4) (hr : RowCh σ σ' (z + 80 + 2 * p)) (hn : RowIs E σ' (z + 80 + 2 * p) n l) : RepC E z (setP S p n l) σ' := by
  obtain ⟨h0, h1, h2, h3, h4, h5, h6, h7, h8, ⟨m, g, hm, h9⟩, h10, h11⟩ := h
  have ag : ∀ a, a ≠ z + 80 + 2 * p → a ≠ z + 80 + 2 * p + 1 → σ'.1 a = σ.1 a := hr.2
  obtain ⟨k1, f, k2, -⟩ := h11 p hv
  refine ⟨h0.fr (ag _ (by omega) (by omega)) rfl rfl, h1.fr (ag _ (by omega) (by omega)), h2.fr (ag _ (by omega) (by omega)), h3.fr (ag _ (by omega) (by omega)) (fun a fs e => ag a (ne_k e k1 (by simp)) (ne_k e k2 (by simp))) rfl, h4.fr (ag _ (by omega) (by omega)) (fun a fs e => ag a (ne_k e k1 (by simp)) (ne_k e k2 (by simp))) rfl, h5.fr (ag _ (by omega) (by omega)) rfl, h6.fr (fun a _ _ => ag a (by omega) (by omega)), h7.fr (fun a _ _ _ _ => ag a (by omega) (by omega)), h8.fr (ag _ (by omega) (by omega)) (ag _ (by omega) (by omega)), ⟨m, g, hm, h9.fr (ag _ (by omega) (by omega)) (ag _ (by omega) (by omega))⟩, fun w hw => (h10 w hw).fr (ag _ (by omega) (by omega)) (ag _ (by omega) (by omega)), fun w hw => ?_⟩
  by_cases e : w = p
  · subst e
    show RowIs E σ' _ (upN S.2.1.1 w n w) (upN S.2.1.2 w l w)
    rw [upN_eq, upN_eq]
    exact hn
  · show RowIs E σ' _ (upN S.2.1.1 p n w) (upN S.2.1.2 p l w)
    rw [upN_ne e, upN_ne e]
    exact (h11 w hw).fr (ag _ (by omega) (by omega)) (ag _ (by omega) (by omega))
/-- the scratch row of two ears -/
theorem RepC.ears {n : Nat} {g : Nat → Int32} (h : RepC E z S σ) (hr : RowCh σ σ' (z + 62)) (h40 : n ≤ 40) (hn : RowIs E σ' (z + 62) n g) : RepC E z S σ' := by
  obtain ⟨h0, h1, h2, h3, h4, h5, h6, h7, h8, ⟨m, g', hm, k1, f, k2, -⟩, h10, h11⟩ := h
  have ag : ∀ a, a ≠ z + 62 → a ≠ z + 62 + 1 → σ'.1 a = σ.1 a := hr.2
  exact ⟨h0.fr (ag _ (by omega) (by omega)) rfl rfl, h1.fr (ag _ (by omega) (by omega)), h2.fr (ag _ (by omega) (by omega)), h3.fr (ag _ (by omega) (by omega)) (fun a fs e => ag a (ne_k e k1 (by simp)) (ne_k e k2 (by simp))) rfl, h4.fr (ag _ (by omega) (by omega)) (fun a fs e => ag a (ne_k e k1 (by simp)) (ne_k e k2 (by simp))) rfl, h5.fr (ag _ (by omega) (by omega)) rfl, h6.fr (fun a _ _ => ag a (by omega) (by omega)), h7.fr (fun a _ _ _ _ => ag a (by omega) (by omega)), h8.fr (ag _ (by omega) (by omega)) (ag _ (by omega) (by omega)), ⟨n, g, h40, hn⟩, fun w hw => (h10 w hw).fr (ag _ (by omega) (by omega)) (ag _ (by omega) (by omega)), fun w hw => (h11 w hw).fr (ag _ (by omega) (by omega)) (ag _ (by omega) (by omega))⟩
/-- the scratch table of changes -/
theorem RepC.chg (h : RepC E z S σ) (ag : ∀ a, ¬ (z + 8 ≤ a ∧ a < z + 49) → σ'.1 a = σ.1 a) (hn : ∀ i, i < 41 → ∃ g, σ'.1 (z + 8 + i) = some (cI E 41 g)) : RepC E z S σ' := by
  obtain ⟨h0, h1, h2, h3, h4, h5, ⟨a6, ⟨f6, b6, d6⟩, e6⟩, h7, h8, ⟨m, g', hm, h9⟩, h10, h11⟩ := h
  have agk : ∀ (ci : Nat) (a : Nat) (fs : List Value), σ.1 a = some (cO ci fs) → σ'.1 a = σ.1 a := fun ci a fs e => ag a (fun q => by
    obtain ⟨g, eg⟩ := e6 (a - (z + 8)) (by omega)
    rw [show z + 6 + 2 + (a - (z + 8)) = a by omega] at eg
    rw [eg] at e
    cases e)
  exact ⟨h0.fr (ag _ (by omega)) rfl rfl, h1.fr (ag _ (by omega)), h2.fr (ag _ (by omega)), h3.fr (ag _ (by omega)) (fun a fs e => agk 1 a fs e) rfl, h4.fr (ag _ (by omega)) (fun a fs e => agk 3 a fs e) rfl, h5.fr (ag _ (by omega)) rfl, ⟨(ag _ (by omega)).trans a6, ⟨f6, (ag _ (by omega)).trans b6, d6⟩, fun i hi => by
    obtain ⟨g, eg⟩ := hn i hi
    exact ⟨g, by rw [show z + 6 + 2 + i = z + 8 + i by omega]; exact eg⟩⟩, h7.fr (fun a _ _ _ _ => ag a (by omega)), h8.fr (ag _ (by omega)) (ag _ (by omega)), ⟨m, g', hm, h9.fr (ag _ (by omega)) (ag _ (by omega))⟩, fun w hw => (h10 w hw).fr (ag _ (by omega)) (ag _ (by omega)), fun w hw => (h11 w hw).fr (ag _ (by omega)) (ag _ (by omega))⟩
/-- the marks -/
theorem RepC.mrk {x m : Nat} (h : RepC E z S σ) {f : Nat → Int32} (hf : σ.1 (z + 5) = some (cI E 100 f)) (hb : ∀ i, i < 100 → f i = nI (sMk S i)) : RepC E z (setM S x m) (sup σ (z + 5) (cI E 100 (upd f x (nI m)))) := by
  obtain ⟨h0, h1, h2, h3, h4, h5, h6, h7, h8, ⟨m', g, hm, h9⟩, h10, h11⟩ := h
  have ag : ∀ a, a ≠ z + 5 → (sup σ (z + 5) (cI E 100 (upd f x (nI m)))).1 a = σ.1 a := fun a ha => sup_ne ha
  refine ⟨h0.fr (ag _ (by omega)) rfl rfl, h1.fr (ag _ (by omega)), h2.fr (ag _ (by omega)), h3.fr (ag _ (by omega)) (fun a fs e => ag a (ne_k e hf (by simp))) rfl, h4.fr (ag _ (by omega)) (fun a fs e => ag a (ne_k e hf (by simp))) rfl, ⟨_, sup_eq, fun i hi => ?_⟩, h6.fr (fun a _ _ => ag a (by omega)), h7.fr (fun a _ _ _ _ => ag a (by omega)), h8.fr (ag _ (by omega)) (ag _ (by omega)), ⟨m', g, hm, h9.fr (ag _ (by omega)) (ag _ (by omega))⟩, fun w hw => (h10 w hw).fr (ag _ (by omega)) (ag _ (by omega)), fun w hw => (h11 w hw).fr (ag _ (by omega)) (ag _ (by omega))⟩
  show upd f x (nI m) i = nI (upN S.2.2.2.1 x m i)
  unfold upd upN
  by_cases e : i = x
  · rw [if_pos e, if_pos e]
  · rw [if_neg e, if_neg e]
    exact hb i hi
end FR
end
section
/-! the Row's contracts over its things alone (own work) -/
theorem CC.mono {l : Launch} {y : MethodName} {cc : ByteArray} {maxL : Nat} {ret : Option FieldType} {rm : Room} {E : EnvD} {As : List Value} {σ : Sto} {post post' : Option Value → Sto → Prop} (h : CC l y cc maxL ret rm E As σ post) (hp : ∀ r s, post r s → post' r s) : CC l y cc maxL ret rm E As σ post' := by
  unfold CC Met at h ⊢
  refine MetFree.mono h (fun _ _ q => q) (fun _ _ _ _ _ q => q) (fun a s o s' _ q => ?_)
  obtain ⟨⟨⟨r, σ', e1, e2, e3, e4⟩, e5⟩, e6⟩ := q
  exact ⟨⟨⟨r, σ', e1, hp _ _ e2, e3, e4⟩, e5⟩, e6⟩
theorem atV_cong {n : Nat} {f g : Nat → Int32} (h : ∀ i, i < n → f i = g i) (hn : n ≤ 2147483648) (x : Int32) : atV n f x = atV n g x := by
  by_cases hx : inR x n
  · obtain ⟨j, hj, rfl⟩ := hx
    rw [atV_in hj hn, atV_in hj hn, h j hj]
  · rw [atV_out hx, atV_out hx]
section R2
variable {E : EnvD} {σ : Sto} {r n : Nat} {g : Nat → Int32}
theorem RowIs.ne (h : RowIs E σ r n g) : r + 1 ≠ r := by omega
theorem r_at (l : Launch) (h : RowIs E σ r n g) (hn : n ≤ 40) (i : Int32) : CC l yX2_at cX2_at 2 (some .int) rm_X2_at E [.ref r, .int i] σ (fun o s => o = some (.int (atV n g i)) ∧ s = σ) := by
  obtain ⟨h1, f, h2, h3⟩ := h
  have := c_X2_at l E σ h1 h2 hn i
  rwa [atV_cong h3 (by omega)] at this
theorem r_has (l : Launch) (h : RowIs E σ r n g) (hn : n ≤ 40) (i : Int32) : CC l yX2_has cX2_has 2 (some .boolean) rm_X2_has E [.ref r, .int i] σ (fun o s => o = some (.int (bI (inR i n))) ∧ s = σ) := by
  obtain ⟨h1, f, h2, h3⟩ := h
  exact c_X2_has l E σ h1 h2 hn i
theorem r_isFull (l : Launch) (h : RowIs E σ r n g) (hn : n ≤ 40) : CC l yX2_isFull cX2_isFull 1 (some .boolean) rm_X2_isFull E [.ref r] σ (fun o s => o = some (.int (bI (40 ≤ n))) ∧ s = σ) := by
  obtain ⟨h1, f, h2, h3⟩ := h
  exact c_X2_isFull l E σ h1 h2 hn
theorem rowCh_2 {e1 e2 : va_E} : RowCh σ (sup (sup σ (r + 1) e1) r e2) r := ⟨rfl, fun a h1 h2 => (sup_ne h1).trans (sup_ne h2)⟩
theorem rowCh_1 {e2 : va_E} : RowCh σ (sup σ r e2) r := ⟨rfl, fun a h1 h2 => sup_ne h1⟩
theorem rowCh_0 : RowCh σ σ r := ⟨rfl, fun a h1 h2 => rfl⟩
theorem rowIs_2 {m : Nat} {f' g' : Nat → Int32} (hf : ∀ i, i < m → f' i = g' i) : RowIs E (sup (sup σ (r + 1) (cI E 40 f')) r (cO 2 [.ref (r + 1), .int (nI m)])) r m g' :=
  ⟨sup_eq, f', (sup_ne (by omega)).trans sup_eq, hf⟩
theorem r_insert (l : Launch) (h : RowIs E σ r n g) {i : Nat} (x : Int32) (hi : i ≤ n) (hn : n < 40) : CC l yX2_insert cX2_insert 4 none rm_X2_insert E [.ref r, .int (nI i), .int x] σ (fun o s => o = none ∧ RowCh σ s r ∧ RowIs E s r (n + 1) (insF g n i x)) := by
  obtain ⟨h1, f, h2, h3⟩ := h
  refine (c_X2_insert l E σ h1 h2 (by omega) x hi hn).mono ?_
  rintro _ _ ⟨rfl, rfl⟩
  refine ⟨rfl, rowCh_2, rowIs_2 fun q hq => ?_⟩
  unfold insF
  by_cases c1 : q < i
  · rw [if_pos c1, if_pos c1, h3 q (by omega)]
  · rw [if_neg c1, if_neg c1]
    by_cases c2 : q = i
    · rw [if_pos c2, if_pos c2]
    · rw [if_neg c2, if_neg c2, if_pos (by omega), if_pos (by omega), h3 (q - 1) (by omega)]
theorem r_remove (l : Launch) (h : RowIs E σ r n g) (hn : n ≤ 40) {i : Nat} (hi : i < n) : CC l yX2_remove cX2_remove 3 none rm_X2_remove E [.ref r, .int (nI i)] σ (fun o s => o = none ∧ RowCh σ s r ∧ RowIs E s r (n - 1) (remF g n i)) := by
  obtain ⟨h1, f, h2, h3⟩ := h
  refine (c_X2_remove l E σ h1 h2 hn hi).mono ?_
  rintro _ _ ⟨rfl, rfl⟩
  refine ⟨rfl, rowCh_2, rowIs_2 fun q hq => ?_⟩
  unfold remF
  by_cases c1 : i ≤ q ∧ q + 1 < n
  · rw [if_pos c1, if_pos c1, h3 (q + 1) (by omega)]
  · rw [if_neg c1, if_neg c1, h3 q (by omega)]
theorem r_empty (l : Launch) (h : RowIs E σ r n g) (g' : Nat → Int32) : CC l yX2_empty cX2_empty 1 none rm_X2_empty E [.ref r] σ (fun o s => o = none ∧ RowCh σ s r ∧ RowIs E s r 0 g') := by
  obtain ⟨h1, f, h2, h3⟩ := h
  refine (c_X2_empty l E σ h1).mono ?_
  rintro _ _ ⟨rfl, rfl⟩
  exact ⟨rfl, rowCh_1, sup_eq, f, (sup_ne (by omega)).trans h2, fun i hi => absurd hi (Nat.not_lt_zero _)⟩
theorem r_become (l : Launch) {r2 m : Nat} {g2 : Nat → Int32} (h : RowIs E σ r n g) (hn : n ≤ 40) (h' : RowIs E σ r2 m g2) (hm : m ≤ 40) : CC l yX2_become cX2_become 3 none rm_X2_become E [.ref r, .ref r2] σ (fun o s => o = none ∧ RowCh σ s r ∧ RowIs E s r m g2) := by
  obtain ⟨h1, f, h2, h3⟩ := h
  obtain ⟨k1, f2, k2, k3⟩ := h'
  by_cases e : r2 = r
  · subst e
    rw [h1] at k1
    have e2 : n = m := by
      injection k1 with k1
      injection k1 with k1
      injection k1 with _ k1
      injection k1 with _ k1
      injection k1 with k1 _
      injection k1 with k1
      exact nI_inj (by omega) (by omega) k1
    subst e2
    refine (c_X2_become_self l E σ h1 h2 hn).mono ?_
    rintro _ s ⟨rfl, e3⟩
    rw [e3]
    exact ⟨rfl, rowCh_0, h1, f2, k2, k3⟩
  · refine (c_X2_become l E σ h1 h2 hn k1 k2 hm (fun q => e (by omega))).mono ?_
    rintro _ _ ⟨rfl, rfl⟩
    refine ⟨rfl, rowCh_2, rowIs_2 fun q hq => ?_⟩
    unfold becF
    rw [if_pos hq, k3 q hq]
end R2
end
section
/-! bits (own work) -/
def bt (x : Int64) (j : Nat) : Bool := x.toBitVec.getLsbD j
theorem bt_or (x y : Int64) (j : Nat) : bt (x ||| y) j = (bt x j || bt y j) := by
  unfold bt
  rw [Int64.toBitVec_or, BitVec.getLsbD_or]
theorem bt_0 (j : Nat) : bt 0 j = false := by
  unfold bt
  simp
theorem amt_eq {b : Nat} (hb : b < 64) : ((nI b).toInt64 &&& 63) = Int64.ofNat b := by
  have h : ∀ b, b < 64 → ((nI b).toInt64 &&& 63) = Int64.ofNat b := by decide +kernel
  exact h b hb
theorem bt_shl {k j : Nat} (hk : k < 64) (hj : j < 64) : bt ((1 : Int64) <<< ((nI k).toInt64 &&& 63)) j = decide (j = k) := by
  have h : ∀ k, k < 64 → ∀ j, j < 64 → bt ((1 : Int64) <<< ((nI k).toInt64 &&& 63)) j = decide (j = k) := by decide +kernel
  exact h k hk j hj
theorem bt_1 {j : Nat} (hj : j < 64) : bt 1 j = decide (j = 0) := by
  have h : ∀ j, j < 64 → bt 1 j = decide (j = 0) := by decide +kernel
  exact h j hj
theorem shr_bv {b : Nat} (hb : b < 64) : ((Int64.ofNat b).toBitVec.smod 64).toNat = b := by
  have h : ∀ b, b < 64 → ((Int64.ofNat b).toBitVec.smod 64).toNat = b := by decide +kernel
  exact h b hb
theorem has_val (x : Int64) {b : Nat} (hb : b < 64) : (x >>> ((nI b).toInt64 &&& 63)) &&& 1 = if bt x b = true then 1 else 0 := by
  rw [amt_eq hb]
  apply Int64.toBitVec_inj.mp
  apply BitVec.eq_of_getLsbD_eq
  intro i hi
  rw [Int64.toBitVec_and, BitVec.getLsbD_and, Int64.toBitVec_shiftRight, BitVec.sshiftRight', shr_bv hb, BitVec.getLsbD_sshiftRight]
  unfold bt
  cases i with
  | zero =>
    cases hx : x.toBitVec.getLsbD b <;> simp [hx, hb]
  | succ i =>
    cases hx : x.toBitVec.getLsbD b <;> simp [hx]
end
section
/-! leaves: walked by program -/
/-- a condition's machine: the state behind a line -/
def nx (so x y st : Nat) (ln : Int32) : Nat :=
  if so = 1 then (if ln = nI x ∧ st ≤ y then st + 1 else st)
  else if so = 2 then (if st ≠ 0 then st else if ln = nI x then 2 else if ln = nI y then 1 else 0)
  else if so = 3 then ((st ||| (if ln = nI x then 1 else 0)) ||| (if ln = nI y then 2 else 0))
  else if so = 5 then (if st = 2 ∨ (st = 0 ∧ ln = nI x) then 2 else if ln = nI y then 1 else 0)
  else if so = 6 then (if st = 0 then (if ln = nI x then 1 else 0) else if ln = nI y then 2 else st)
  else (if ln = nI x then 1 else st)
/-- broken states -/
def brk (so y st : Nat) : Prop := (so = 0 ∧ st = 1) ∨ (so = 1 ∧ y < st) ∨ (so = 3 ∧ st = 3) ∨ (so = 4 ∧ st = 0) ∨ ((so = 2 ∨ so = 5 ∨ so = 6) ∧ st = 2)
def lastS (so y : Nat) : Nat := if so = 1 then y + 1 else 3
noncomputable def hb2 (l r : Int32) : Int32 := if l = r then l else if r = -1 then l else if l = -1 then r else -1
theorem nI_or (a b : Nat) : nI a ||| nI b = nI (a ||| b) := by
  apply Int32.toBitVec_inj.mp
  apply BitVec.eq_of_toNat_eq
  rw [Int32.toBitVec_or, BitVec.toNat_or]
  simp [nI, Int32.ofNat, Int32.toBitVec]
theorem lc_ne {x : Int64} (h : x = 1) : (if (0 : Int64) < x then (1 : Int32) else if x = 0 then 0 else -1) = nI 1 := by subst h; decide
theorem lc_eq {x : Int64} (h : x = 0) : (if (0 : Int64) < x then (1 : Int32) else if x = 0 then 0 else -1) = nI 0 := by subst h; decide
abbrev rm_X5_hasBit : Room := { frames := 0, cells := 0, slots := 0, locals := 0 }
set_option maxRecDepth 100000 in
set_option maxHeartbeats 4000000 in
theorem c_X5_hasBit (l : Launch) (E : EnvD) (σ : Sto) (x : Int64) {b : Nat} (hb : b < 64) : CC l yX5_hasBit cX5_hasBit 3 (some .boolean) rm_X5_hasBit E [.long x, .int (nI b)] σ (fun o s => o = some (.int (bI (bt x b = true))) ∧ s = σ) := by
  refine cc_of (vs := [_, _, _]) (by decide) (Nat.le_of_ble_eq_true rfl) rfl ?_
  intro X h hr hn
  by_cases hq : bt x b = true
  · skip
    refine g_lload_n h 0 dX5_hasBit_0 rfl rfl ?_
    refine g_iload_n h 2 dX5_hasBit_1 rfl rfl ?_
    refine g_lshr h dX5_hasBit_2 ?_
    refine g_lconst h 1 dX5_hasBit_3 (by decide) ?_
    refine g_land h dX5_hasBit_4 ?_
    refine g_lconst h 0 dX5_hasBit_5 (by decide) ?_
    refine g_lcmp h (nI 1) dX5_hasBit_6 (lc_ne (by rw [has_val x hb, if_pos hq])) ?_
    refine g_if_eqN h 14 dX5_hasBit_7 (by decide) (by decide) (fun c7_1 => absurd c7_1 (by decide)) (fun c7_1 => ?_)
    refine g_iconst h (nI 1) dX5_hasBit_10 (by decide) ?_
    refine g_goto h 15 dX5_hasBit_11 (by decide) ?_
    exact g_zret h hr rfl dX5_hasBit_15 (ret1 hq) (Nat.le_of_ble_eq_true rfl) (Nat.le_of_ble_eq_true rfl)
  · skip
    refine g_lload_n h 0 dX5_hasBit_0 rfl rfl ?_
    refine g_iload_n h 2 dX5_hasBit_1 rfl rfl ?_
    refine g_lshr h dX5_hasBit_2 ?_
    refine g_lconst h 1 dX5_hasBit_3 (by decide) ?_
    refine g_land h dX5_hasBit_4 ?_
    refine g_lconst h 0 dX5_hasBit_5 (by decide) ?_
    refine g_lcmp h (nI 0) dX5_hasBit_6 (lc_eq (by rw [has_val x hb, if_neg hq])) ?_
    refine g_if_eqN h 14 dX5_hasBit_7 (by decide) (by decide) (fun c7_2 => ?_) (fun c7_2 => absurd c7_2 (by decide))
    refine g_iconst h (nI 0) dX5_hasBit_14 (by decide) ?_
    exact g_zret h hr rfl dX5_hasBit_15 (ret0 hq) (Nat.le_of_ble_eq_true rfl) (Nat.le_of_ble_eq_true rfl)
abbrev rm_X5_mixed : Room := { frames := 0, cells := 0, slots := 0, locals := 0 }
set_option maxRecDepth 100000 in
set_option maxHeartbeats 4000000 in
theorem c_X5_mixed (l : Launch) (E : EnvD) (σ : Sto) (x : Int64) (v : Int32) : CC l yX5_mixed cX5_mixed 3 (some .long) rm_X5_mixed E [.long x, .int v] σ (fun o s => o = some (.long (31 * x + v.toInt64)) ∧ s = σ) := by
  refine cc_of (vs := [_, _, _]) (by decide) (Nat.le_of_ble_eq_true rfl) rfl ?_
  intro X h hr hn
  refine g_ldc2 h 31 lc_X5_235 dX5_mixed_0 ?_
  refine g_lload_n h 0 dX5_mixed_3 rfl rfl ?_
  refine g_lmul h dX5_mixed_4 ?_
  refine g_iload_n h 2 dX5_mixed_5 rfl rfl ?_
  refine g_i2l h dX5_mixed_6 ?_
  refine g_ladd h dX5_mixed_7 ?_
  exact g_lret h hr dX5_mixed_8 (⟨rfl, rfl⟩) (Nat.le_of_ble_eq_true rfl) (Nat.le_of_ble_eq_true rfl)
abbrev rm_X5_isQuarrel : Room := { frames := 0, cells := 0, slots := 0, locals := 0 }
set_option maxRecDepth 100000 in
set_option maxHeartbeats 4000000 in
theorem c_X5_isQuarrel (l : Launch) (E : EnvD) (σ : Sto) (x y : Int32) : CC l yX5_isQuarrel cX5_isQuarrel 2 (some .boolean) rm_X5_isQuarrel E [.int x, .int y] σ (fun o s => o = some (.int (bI (¬ x = y ∧ ¬ x = -1 ∧ ¬ y = -1))) ∧ s = σ) := by
  refine cc_of (vs := [_, _]) (by decide) (Nat.le_of_ble_eq_true rfl) rfl ?_
  intro X h hr hn
  refine g_iload_n h 0 dX5_isQuarrel_0 rfl rfl ?_
  refine g_iload_n h 1 dX5_isQuarrel_1 rfl rfl ?_
  refine g_icmp_eq h 19 dX5_isQuarrel_2 (by decide) (fun c2_1 => ?_) (fun c2_1 => ?_)
  · skip
    refine g_iconst h (nI 0) dX5_isQuarrel_19 (by decide) ?_
    exact g_zret h hr rfl dX5_isQuarrel_20 (ret0 (fun q => q.1 c2_1)) (Nat.le_of_ble_eq_true rfl) (Nat.le_of_ble_eq_true rfl)
  · skip
    refine g_iload_n h 0 dX5_isQuarrel_5 rfl rfl ?_
    refine g_iconst h (-1) dX5_isQuarrel_6 (by decide) ?_
    refine g_icmp_eq h 19 dX5_isQuarrel_7 (by decide) (fun c7_2 => ?_) (fun c7_2 => ?_)
    · skip
      refine g_iconst h (nI 0) dX5_isQuarrel_19 (by decide) ?_
      exact g_zret h hr rfl dX5_isQuarrel_20 (ret0 (fun q => q.2.1 c7_2)) (Nat.le_of_ble_eq_true rfl) (Nat.le_of_ble_eq_true rfl)
    · skip
      refine g_iload_n h 1 dX5_isQuarrel_10 rfl rfl ?_
      refine g_iconst h (-1) dX5_isQuarrel_11 (by decide) ?_
      refine g_icmp_eq h 19 dX5_isQuarrel_12 (by decide) (fun c12_3 => ?_) (fun c12_3 => ?_)
      · skip
        refine g_iconst h (nI 0) dX5_isQuarrel_19 (by decide) ?_
        exact g_zret h hr rfl dX5_isQuarrel_20 (ret0 (fun q => q.2.2 c12_3)) (Nat.le_of_ble_eq_true rfl) (Nat.le_of_ble_eq_true rfl)
      · skip
        refine g_iconst h (nI 1) dX5_isQuarrel_15 (by decide) ?_
        refine g_goto h 20 dX5_isQuarrel_16 (by decide) ?_
        exact g_zret h hr rfl dX5_isQuarrel_20 (ret1 ⟨c2_1, c7_2, c12_3⟩) (Nat.le_of_ble_eq_true rfl) (Nat.le_of_ble_eq_true rfl)
abbrev rm_X5_heardByTwo : Room := { frames := 0, cells := 0, slots := 0, locals := 0 }
set_option maxRecDepth 100000 in
set_option maxHeartbeats 4000000 in
theorem c_X5_heardByTwo (l : Launch) (E : EnvD) (σ : Sto) (x y : Int32) : CC l yX5_heardByTwo cX5_heardByTwo 2 (some .int) rm_X5_heardByTwo E [.int x, .int y] σ (fun o s => o = some (.int (hb2 x y)) ∧ s = σ) := by
  refine cc_of (vs := [_, _]) (by decide) (Nat.le_of_ble_eq_true rfl) rfl ?_
  intro X h hr hn
  refine g_iload_n h 0 dX5_heardByTwo_0 rfl rfl ?_
  refine g_iload_n h 1 dX5_heardByTwo_1 rfl rfl ?_
  refine g_icmp_eq h 10 dX5_heardByTwo_2 (by decide) (fun c2_1 => ?_) (fun c2_1 => ?_)
  · skip
    refine g_iload_n h 0 dX5_heardByTwo_10 rfl rfl ?_
    exact g_iret h hr dX5_heardByTwo_11 (retI (by unfold hb2; grind)) (Nat.le_of_ble_eq_true rfl) (Nat.le_of_ble_eq_true rfl)
  · skip
    refine g_iload_n h 1 dX5_heardByTwo_5 rfl rfl ?_
    refine g_iconst h (-1) dX5_heardByTwo_6 (by decide) ?_
    refine g_icmp_ne h 12 dX5_heardByTwo_7 (by decide) (fun c7_2 => ?_) (fun c7_2 => ?_)
    · skip
      refine g_iload_n h 0 dX5_heardByTwo_12 rfl rfl ?_
      refine g_iconst h (-1) dX5_heardByTwo_13 (by decide) ?_
      refine g_icmp_ne h 21 dX5_heardByTwo_14 (by decide) (fun c14_3 => ?_) (fun c14_3 => ?_)
      · skip
        refine g_iconst h (-1) dX5_heardByTwo_21 (by decide) ?_
        exact g_iret h hr dX5_heardByTwo_22 (retI (by unfold hb2; grind)) (Nat.le_of_ble_eq_true rfl) (Nat.le_of_ble_eq_true rfl)
      · skip
        refine g_iload_n h 1 dX5_heardByTwo_17 rfl rfl ?_
        refine g_goto h 22 dX5_heardByTwo_18 (by decide) ?_
        exact g_iret h hr dX5_heardByTwo_22 (retI (by unfold hb2; grind)) (Nat.le_of_ble_eq_true rfl) (Nat.le_of_ble_eq_true rfl)
    · skip
      refine g_iload_n h 0 dX5_heardByTwo_10 rfl rfl ?_
      exact g_iret h hr dX5_heardByTwo_11 (retI (by unfold hb2; grind)) (Nat.le_of_ble_eq_true rfl) (Nat.le_of_ble_eq_true rfl)
abbrev rm_X3_isInForce : Room := { frames := 0, cells := 0, slots := 0, locals := 0 }
set_option maxRecDepth 100000 in
set_option maxHeartbeats 4000000 in
theorem c_X3_isInForce (l : Launch) (E : EnvD) (σ : Sto) {a t m f u : Nat} (h1 : σ.1 a = some (cO 3 [.int (nI t), .int (nI m), .int (nI f), .int (nI u)])) {w d : Nat} (ht : t < 1000) (hf : f < 1000) (hu : u < 1000) (hw : w < 1000) (hd : d < 1000) : CC l yX3_isInForce cX3_isInForce 3 (some .boolean) rm_X3_isInForce E [.ref a, .int (nI w), .int (nI d)] σ (fun o s => o = some (.int (bI (w = t ∧ f ≤ d ∧ d ≤ u))) ∧ s = σ) := by
  refine cc_of (vs := [_, _, _]) (by decide) (Nat.le_of_ble_eq_true rfl) rfl ?_
  intro X h hr hn
  refine g_iload_n h 1 dX3_isInForce_0 rfl rfl ?_
  refine g_aload_n h 0 dX3_isInForce_1 rfl rfl ?_
  refine g_get h 0 fa_X3_7 dX3_isInForce_2 h1 rfl ?_
  refine g_icmp_neN h 28 dX3_isInForce_5 (by decide) (by omega) (by omega) (fun c5_1 => ?_) (fun c5_1 => ?_)
  · skip
    refine g_iconst h (nI 0) dX3_isInForce_28 (by decide) ?_
    exact g_zret h hr rfl dX3_isInForce_29 (ret0 (fun q => by have := c5_1; omega)) (Nat.le_of_ble_eq_true rfl) (Nat.le_of_ble_eq_true rfl)
  · skip
    refine g_iload_n h 2 dX3_isInForce_8 rfl rfl ?_
    refine g_aload_n h 0 dX3_isInForce_9 rfl rfl ?_
    refine g_get h 2 fa_X3_16 dX3_isInForce_10 h1 rfl ?_
    refine g_icmp_ltN h 28 dX3_isInForce_13 (by decide) (by omega) (by omega) (fun c13_2 => ?_) (fun c13_2 => ?_)
    · skip
      refine g_iconst h (nI 0) dX3_isInForce_28 (by decide) ?_
      exact g_zret h hr rfl dX3_isInForce_29 (ret0 (fun q => by have := c13_2; omega)) (Nat.le_of_ble_eq_true rfl) (Nat.le_of_ble_eq_true rfl)
    · skip
      refine g_iload_n h 2 dX3_isInForce_16 rfl rfl ?_
      refine g_aload_n h 0 dX3_isInForce_17 rfl rfl ?_
      refine g_get h 3 fa_X3_19 dX3_isInForce_18 h1 rfl ?_
      refine g_icmp_gtN h 28 dX3_isInForce_21 (by decide) (by omega) (by omega) (fun c21_3 => ?_) (fun c21_3 => ?_)
      · skip
        refine g_iconst h (nI 0) dX3_isInForce_28 (by decide) ?_
        exact g_zret h hr rfl dX3_isInForce_29 (ret0 (fun q => by have := c21_3; omega)) (Nat.le_of_ble_eq_true rfl) (Nat.le_of_ble_eq_true rfl)
      · skip
        refine g_iconst h (nI 1) dX3_isInForce_24 (by decide) ?_
        refine g_goto h 29 dX3_isInForce_25 (by decide) ?_
        exact g_zret h hr rfl dX3_isInForce_29 (ret1 ⟨c5_1, c13_2, c21_3⟩) (Nat.le_of_ble_eq_true rfl) (Nat.le_of_ble_eq_true rfl)
abbrev rm_X3_init : Room := { frames := 1, cells := 0, slots := 0, locals := 16 }
set_option maxRecDepth 100000 in
set_option maxHeartbeats 4000000 in
theorem c_X3_init (l : Launch) (E : EnvD) (σ : Sto) {a : Nat} {b0 b1 b2 b3 : Int32} (t m f u : Int32) (h1 : σ.1 a = some (cO 3 [.int b0, .int b1, .int b2, .int b3])) : CC l yX3_init cX3_init 5 none rm_X3_init E [.ref a, .int t, .int m, .int f, .int u] σ (fun o s => o = none ∧ s = sup σ a (cO 3 [.int t, .int m, .int f, .int u])) := by
  refine cc_of (vs := [_, _, _, _, _]) (by decide) (Nat.le_of_ble_eq_true rfl) rfl ?_
  intro X h hr hn
  refine g_aload_n h 0 dX3_init_0 rfl rfl ?_
  refine g_objInit h oi_X3_1 dX3_init_1 ⟨(Nat.le_of_ble_eq_true rfl), (Nat.le_of_ble_eq_true rfl)⟩ ?_
  refine g_aload_n h 0 dX3_init_4 rfl rfl ?_
  refine g_iload_n h 1 dX3_init_5 rfl rfl ?_
  refine g_putF (fs' := [_, _, _, _]) h hn 0 fp_X3_7 dX3_init_6 h1 (Nat.le_of_ble_eq_true rfl) rfl rfl rfl ?_
  refine g_aload_n h 0 dX3_init_9 rfl rfl ?_
  refine g_iload_n h 2 dX3_init_10 rfl rfl ?_
  refine g_putF (fs' := [_, _, _, _]) h hn 1 fp_X3_13 dX3_init_11 sup_eq (Nat.le_of_ble_eq_true rfl) rfl rfl rfl ?_
  refine g_sto sup_sup ?_
  refine g_aload_n h 0 dX3_init_14 rfl rfl ?_
  refine g_iload_n h 3 dX3_init_15 rfl rfl ?_
  refine g_putF (fs' := [_, _, _, _]) h hn 2 fp_X3_16 dX3_init_16 sup_eq (Nat.le_of_ble_eq_true rfl) rfl rfl rfl ?_
  refine g_sto sup_sup ?_
  refine g_aload_n h 0 dX3_init_19 rfl rfl ?_
  refine g_iload h dX3_init_20 rfl ?_
  refine g_putF (fs' := [_, _, _, _]) h hn 3 fp_X3_19 dX3_init_22 sup_eq (Nat.le_of_ble_eq_true rfl) rfl rfl rfl ?_
  refine g_sto sup_sup ?_
  exact g_vret h hr dX3_init_25 (⟨rfl, rfl⟩) (Nat.le_of_ble_eq_true rfl) (Nat.le_of_ble_eq_true rfl)
abbrev rm_X1_init : Room := { frames := 1, cells := 0, slots := 0, locals := 16 }
set_option maxRecDepth 100000 in
set_option maxHeartbeats 4000000 in
theorem c_X1_init (l : Launch) (E : EnvD) (σ : Sto) {a : Nat} {b0 b1 b2 : Int32} (t m f : Int32) (h1 : σ.1 a = some (cO 1 [.int b0, .int b1, .int b2])) : CC l yX1_init cX1_init 4 none rm_X1_init E [.ref a, .int t, .int m, .int f] σ (fun o s => o = none ∧ s = sup σ a (cO 1 [.int t, .int m, .int f])) := by
  refine cc_of (vs := [_, _, _, _]) (by decide) (Nat.le_of_ble_eq_true rfl) rfl ?_
  intro X h hr hn
  refine g_aload_n h 0 dX1_init_0 rfl rfl ?_
  refine g_objInit h oi_X1_3 dX1_init_1 ⟨(Nat.le_of_ble_eq_true rfl), (Nat.le_of_ble_eq_true rfl)⟩ ?_
  refine g_aload_n h 0 dX1_init_4 rfl rfl ?_
  refine g_iload_n h 1 dX1_init_5 rfl rfl ?_
  refine g_putF (fs' := [_, _, _]) h hn 0 fp_X1_9 dX1_init_6 h1 (Nat.le_of_ble_eq_true rfl) rfl rfl rfl ?_
  refine g_aload_n h 0 dX1_init_9 rfl rfl ?_
  refine g_iload_n h 2 dX1_init_10 rfl rfl ?_
  refine g_putF (fs' := [_, _, _]) h hn 1 fp_X1_15 dX1_init_11 sup_eq (Nat.le_of_ble_eq_true rfl) rfl rfl rfl ?_
  refine g_sto sup_sup ?_
  refine g_aload_n h 0 dX1_init_14 rfl rfl ?_
  refine g_iload_n h 3 dX1_init_15 rfl rfl ?_
  refine g_putF (fs' := [_, _, _]) h hn 2 fp_X1_18 dX1_init_16 sup_eq (Nat.le_of_ble_eq_true rfl) rfl rfl rfl ?_
  refine g_sto sup_sup ?_
  exact g_vret h hr dX1_init_19 (⟨rfl, rfl⟩) (Nat.le_of_ble_eq_true rfl) (Nat.le_of_ble_eq_true rfl)
abbrev rm_X1_lastState : Room := { frames := 0, cells := 0, slots := 0, locals := 0 }
set_option maxRecDepth 100000 in
set_option maxHeartbeats 4000000 in
theorem c_X1_lastState (l : Launch) (E : EnvD) (σ : Sto) {a so x y : Nat} (h1 : σ.1 a = some (cO 1 [.int (nI so), .int (nI x), .int (nI y)])) (hs : so < 7) (hx : x < 100) (hy : y < 100) : CC l yX1_lastState cX1_lastState 1 (some .int) rm_X1_lastState E [.ref a] σ (fun o s => o = some (.int (nI (lastS so y))) ∧ s = σ) := by
  refine cc_of (vs := [_]) (by decide) (Nat.le_of_ble_eq_true rfl) rfl ?_
  intro X h hr hn
  refine g_aload_n h 0 dX1_lastState_0 rfl rfl ?_
  refine g_get h 0 fa_X1_9 dX1_lastState_1 h1 rfl ?_
  refine g_iconst h (nI 1) dX1_lastState_4 (by decide) ?_
  refine g_icmp_neN h 17 dX1_lastState_5 (by decide) (by omega) (by decide) (fun c5_1 => ?_) (fun c5_1 => ?_)
  · skip
    refine g_iconst h (nI 3) dX1_lastState_17 (by decide) ?_
    exact g_iret h hr dX1_lastState_18 (retI (congrArg nI (by unfold lastS; rw [if_neg c5_1]))) (Nat.le_of_ble_eq_true rfl) (Nat.le_of_ble_eq_true rfl)
  · skip
    refine g_aload_n h 0 dX1_lastState_8 rfl rfl ?_
    refine g_get h 2 fa_X1_18 dX1_lastState_9 h1 rfl ?_
    refine g_iconst h (nI 1) dX1_lastState_12 (by decide) ?_
    refine g_iaddN h dX1_lastState_13 ?_
    refine g_goto h 18 dX1_lastState_14 (by decide) ?_
    exact g_iret h hr dX1_lastState_18 (retI (congrArg nI (by unfold lastS; rw [if_pos c5_1]))) (Nat.le_of_ble_eq_true rfl) (Nat.le_of_ble_eq_true rfl)
abbrev rm_X1_next : Room := { frames := 0, cells := 0, slots := 0, locals := 0 }
set_option maxRecDepth 100000 in
set_option maxHeartbeats 4000000 in
theorem c_X1_next (l : Launch) (E : EnvD) (σ : Sto) {a so x y : Nat} (h1 : σ.1 a = some (cO 1 [.int (nI so), .int (nI x), .int (nI y)])) (hs : so < 7) (hx : x < 100) (hy : y < 100) {st : Nat} (h2 : st ≤ 100) (ln : Int32) : CC l yX1_next cX1_next 3 (some .int) rm_X1_next E [.ref a, .int (nI st), .int ln] σ (fun o s => o = some (.int (nI (nx so x y st ln))) ∧ s = σ) := by
  refine cc_of (vs := [_, _, _]) (by decide) (Nat.le_of_ble_eq_true rfl) rfl ?_
  intro X h hr hn
  rcases (show so = 0 ∨ so = 1 ∨ so = 2 ∨ so = 3 ∨ so = 4 ∨ so = 5 ∨ so = 6 by omega) with rfl | rfl | rfl | rfl | rfl | rfl | rfl
  · skip
    refine g_aload_n h 0 dX1_next_0 rfl rfl ?_
    refine g_get h 0 fa_X1_9 dX1_next_1 h1 rfl ?_
    refine g_tabOut h 193 dX1_next_4 (by decide) (by decide) ?_
    refine g_iload_n h 2 dX1_next_193 rfl rfl ?_
    refine g_aload_n h 0 dX1_next_194 rfl rfl ?_
    refine g_get h 1 fa_X1_15 dX1_next_195 h1 rfl ?_
    refine g_icmp_ne h 205 dX1_next_198 (by decide) (fun c198_1 => ?_) (fun c198_1 => ?_)
    · skip
      refine g_iload_n h 1 dX1_next_205 rfl rfl ?_
      exact g_iret h hr dX1_next_206 (retI (congrArg nI (by have hx9 := hx; have hy9 := hy; unfold nx; grind))) (Nat.le_of_ble_eq_true rfl) (Nat.le_of_ble_eq_true rfl)
    · skip
      refine g_iconst h (nI 1) dX1_next_201 (by decide) ?_
      refine g_goto h 206 dX1_next_202 (by decide) ?_
      exact g_iret h hr dX1_next_206 (retI (congrArg nI (by have hx9 := hx; have hy9 := hy; unfold nx; grind))) (Nat.le_of_ble_eq_true rfl) (Nat.le_of_ble_eq_true rfl)
  · skip
    refine g_aload_n h 0 dX1_next_0 rfl rfl ?_
    refine g_get h 0 fa_X1_9 dX1_next_1 h1 rfl ?_
    refine g_tabIn (off := 40) h 44 dX1_next_4 (by decide) (by decide) rfl (by decide) ?_
    refine g_iload_n h 2 dX1_next_44 rfl rfl ?_
    refine g_aload_n h 0 dX1_next_45 rfl rfl ?_
    refine g_get h 1 fa_X1_15 dX1_next_46 h1 rfl ?_
    refine g_icmp_ne h 66 dX1_next_49 (by decide) (fun c49_2 => ?_) (fun c49_2 => ?_)
    · skip
      refine g_iload_n h 1 dX1_next_66 rfl rfl ?_
      exact g_iret h hr dX1_next_67 (retI (congrArg nI (by have hx9 := hx; have hy9 := hy; unfold nx; grind))) (Nat.le_of_ble_eq_true rfl) (Nat.le_of_ble_eq_true rfl)
    · skip
      refine g_iload_n h 1 dX1_next_52 rfl rfl ?_
      refine g_aload_n h 0 dX1_next_53 rfl rfl ?_
      refine g_get h 2 fa_X1_18 dX1_next_54 h1 rfl ?_
      refine g_icmp_gtN h 66 dX1_next_57 (by decide) (by omega) (by omega) (fun c57_3 => ?_) (fun c57_3 => ?_)
      · skip
        refine g_iload_n h 1 dX1_next_66 rfl rfl ?_
        exact g_iret h hr dX1_next_67 (retI (congrArg nI (by have hx9 := hx; have hy9 := hy; unfold nx; grind))) (Nat.le_of_ble_eq_true rfl) (Nat.le_of_ble_eq_true rfl)
      · skip
        refine g_iload_n h 1 dX1_next_60 rfl rfl ?_
        refine g_iconst h (nI 1) dX1_next_61 (by decide) ?_
        refine g_iaddN h dX1_next_62 ?_
        refine g_goto h 67 dX1_next_63 (by decide) ?_
        exact g_iret h hr dX1_next_67 (retI (congrArg nI (by have hx9 := hx; have hy9 := hy; unfold nx; grind))) (Nat.le_of_ble_eq_true rfl) (Nat.le_of_ble_eq_true rfl)
  · skip
    refine g_aload_n h 0 dX1_next_0 rfl rfl ?_
    refine g_get h 0 fa_X1_9 dX1_next_1 h1 rfl ?_
    refine g_tabIn (off := 64) h 68 dX1_next_4 (by decide) (by decide) rfl (by decide) ?_
    refine g_iload_n h 1 dX1_next_68 rfl rfl ?_
    refine g_if_eqN h 74 dX1_next_69 (by decide) (by omega) (fun c69_4 => ?_) (fun c69_4 => ?_)
    · skip
      refine g_iload_n h 2 dX1_next_74 rfl rfl ?_
      refine g_aload_n h 0 dX1_next_75 rfl rfl ?_
      refine g_get h 1 fa_X1_15 dX1_next_76 h1 rfl ?_
      refine g_icmp_ne h 84 dX1_next_79 (by decide) (fun c79_5 => ?_) (fun c79_5 => ?_)
      · skip
        refine g_iload_n h 2 dX1_next_84 rfl rfl ?_
        refine g_aload_n h 0 dX1_next_85 rfl rfl ?_
        refine g_get h 2 fa_X1_18 dX1_next_86 h1 rfl ?_
        refine g_icmp_ne h 96 dX1_next_89 (by decide) (fun c89_6 => ?_) (fun c89_6 => ?_)
        · skip
          refine g_iconst h (nI 0) dX1_next_96 (by decide) ?_
          exact g_iret h hr dX1_next_97 (retI (congrArg nI (by have hx9 := hx; have hy9 := hy; unfold nx; grind))) (Nat.le_of_ble_eq_true rfl) (Nat.le_of_ble_eq_true rfl)
        · skip
          refine g_iconst h (nI 1) dX1_next_92 (by decide) ?_
          refine g_goto h 97 dX1_next_93 (by decide) ?_
          exact g_iret h hr dX1_next_97 (retI (congrArg nI (by have hx9 := hx; have hy9 := hy; unfold nx; grind))) (Nat.le_of_ble_eq_true rfl) (Nat.le_of_ble_eq_true rfl)
      · skip
        refine g_iconst h (nI 2) dX1_next_82 (by decide) ?_
        exact g_iret h hr dX1_next_83 (retI (congrArg nI (by have hx9 := hx; have hy9 := hy; unfold nx; grind))) (Nat.le_of_ble_eq_true rfl) (Nat.le_of_ble_eq_true rfl)
    · skip
      refine g_iload_n h 1 dX1_next_72 rfl rfl ?_
      exact g_iret h hr dX1_next_73 (retI (congrArg nI (by have hx9 := hx; have hy9 := hy; unfold nx; grind))) (Nat.le_of_ble_eq_true rfl) (Nat.le_of_ble_eq_true rfl)
  · skip
    refine g_aload_n h 0 dX1_next_0 rfl rfl ?_
    refine g_get h 0 fa_X1_9 dX1_next_1 h1 rfl ?_
    refine g_tabIn (off := 94) h 98 dX1_next_4 (by decide) (by decide) rfl (by decide) ?_
    refine g_iload_n h 1 dX1_next_98 rfl rfl ?_
    refine g_iload_n h 2 dX1_next_99 rfl rfl ?_
    refine g_aload_n h 0 dX1_next_100 rfl rfl ?_
    refine g_get h 1 fa_X1_15 dX1_next_101 h1 rfl ?_
    refine g_icmp_ne h 111 dX1_next_104 (by decide) (fun c104_7 => ?_) (fun c104_7 => ?_)
    · skip
      refine g_iconst h (nI 0) dX1_next_111 (by decide) ?_
      refine g_ior h dX1_next_112 ?_
      refine g_top (nI_or _ _) ?_
      refine g_iload_n h 2 dX1_next_113 rfl rfl ?_
      refine g_aload_n h 0 dX1_next_114 rfl rfl ?_
      refine g_get h 2 fa_X1_18 dX1_next_115 h1 rfl ?_
      refine g_icmp_ne h 125 dX1_next_118 (by decide) (fun c118_8 => ?_) (fun c118_8 => ?_)
      · skip
        refine g_iconst h (nI 0) dX1_next_125 (by decide) ?_
        refine g_ior h dX1_next_126 ?_
        refine g_top (nI_or _ _) ?_
        exact g_iret h hr dX1_next_127 (retI (congrArg nI (by have hx9 := hx; have hy9 := hy; unfold nx; grind))) (Nat.le_of_ble_eq_true rfl) (Nat.le_of_ble_eq_true rfl)
      · skip
        refine g_iconst h (nI 2) dX1_next_121 (by decide) ?_
        refine g_goto h 126 dX1_next_122 (by decide) ?_
        refine g_ior h dX1_next_126 ?_
        refine g_top (nI_or _ _) ?_
        exact g_iret h hr dX1_next_127 (retI (congrArg nI (by have hx9 := hx; have hy9 := hy; unfold nx; grind))) (Nat.le_of_ble_eq_true rfl) (Nat.le_of_ble_eq_true rfl)
    · skip
      refine g_iconst h (nI 1) dX1_next_107 (by decide) ?_
      refine g_goto h 112 dX1_next_108 (by decide) ?_
      refine g_ior h dX1_next_112 ?_
      refine g_top (nI_or _ _) ?_
      refine g_iload_n h 2 dX1_next_113 rfl rfl ?_
      refine g_aload_n h 0 dX1_next_114 rfl rfl ?_
      refine g_get h 2 fa_X1_18 dX1_next_115 h1 rfl ?_
      refine g_icmp_ne h 125 dX1_next_118 (by decide) (fun c118_9 => ?_) (fun c118_9 => ?_)
      · skip
        refine g_iconst h (nI 0) dX1_next_125 (by decide) ?_
        refine g_ior h dX1_next_126 ?_
        refine g_top (nI_or _ _) ?_
        exact g_iret h hr dX1_next_127 (retI (congrArg nI (by have hx9 := hx; have hy9 := hy; unfold nx; grind))) (Nat.le_of_ble_eq_true rfl) (Nat.le_of_ble_eq_true rfl)
      · skip
        refine g_iconst h (nI 2) dX1_next_121 (by decide) ?_
        refine g_goto h 126 dX1_next_122 (by decide) ?_
        refine g_ior h dX1_next_126 ?_
        refine g_top (nI_or _ _) ?_
        exact g_iret h hr dX1_next_127 (retI (congrArg nI (by have hx9 := hx; have hy9 := hy; unfold nx; grind))) (Nat.le_of_ble_eq_true rfl) (Nat.le_of_ble_eq_true rfl)
  · skip
    refine g_aload_n h 0 dX1_next_0 rfl rfl ?_
    refine g_get h 0 fa_X1_9 dX1_next_1 h1 rfl ?_
    refine g_tabIn (off := 189) h 193 dX1_next_4 (by decide) (by decide) rfl (by decide) ?_
    refine g_iload_n h 2 dX1_next_193 rfl rfl ?_
    refine g_aload_n h 0 dX1_next_194 rfl rfl ?_
    refine g_get h 1 fa_X1_15 dX1_next_195 h1 rfl ?_
    refine g_icmp_ne h 205 dX1_next_198 (by decide) (fun c198_10 => ?_) (fun c198_10 => ?_)
    · skip
      refine g_iload_n h 1 dX1_next_205 rfl rfl ?_
      exact g_iret h hr dX1_next_206 (retI (congrArg nI (by have hx9 := hx; have hy9 := hy; unfold nx; grind))) (Nat.le_of_ble_eq_true rfl) (Nat.le_of_ble_eq_true rfl)
    · skip
      refine g_iconst h (nI 1) dX1_next_201 (by decide) ?_
      refine g_goto h 206 dX1_next_202 (by decide) ?_
      exact g_iret h hr dX1_next_206 (retI (congrArg nI (by have hx9 := hx; have hy9 := hy; unfold nx; grind))) (Nat.le_of_ble_eq_true rfl) (Nat.le_of_ble_eq_true rfl)
  · skip
    refine g_aload_n h 0 dX1_next_0 rfl rfl ?_
    refine g_get h 0 fa_X1_9 dX1_next_1 h1 rfl ?_
    refine g_tabIn (off := 124) h 128 dX1_next_4 (by decide) (by decide) rfl (by decide) ?_
    refine g_iload_n h 1 dX1_next_128 rfl rfl ?_
    refine g_iconst h (nI 2) dX1_next_129 (by decide) ?_
    refine g_icmp_eqN h 145 dX1_next_130 (by decide) (by omega) (by decide) (fun c130_11 => ?_) (fun c130_11 => ?_)
    · skip
      refine g_iconst h (nI 2) dX1_next_145 (by decide) ?_
      exact g_iret h hr dX1_next_146 (retI (congrArg nI (by have hx9 := hx; have hy9 := hy; unfold nx; grind))) (Nat.le_of_ble_eq_true rfl) (Nat.le_of_ble_eq_true rfl)
    · skip
      refine g_iload_n h 1 dX1_next_133 rfl rfl ?_
      refine g_if_neN h 147 dX1_next_134 (by decide) (by omega) (fun c134_12 => ?_) (fun c134_12 => ?_)
      · skip
        refine g_iload_n h 2 dX1_next_147 rfl rfl ?_
        refine g_aload_n h 0 dX1_next_148 rfl rfl ?_
        refine g_get h 2 fa_X1_18 dX1_next_149 h1 rfl ?_
        refine g_icmp_ne h 159 dX1_next_152 (by decide) (fun c152_13 => ?_) (fun c152_13 => ?_)
        · skip
          refine g_iconst h (nI 0) dX1_next_159 (by decide) ?_
          exact g_iret h hr dX1_next_160 (retI (congrArg nI (by have hx9 := hx; have hy9 := hy; unfold nx; grind))) (Nat.le_of_ble_eq_true rfl) (Nat.le_of_ble_eq_true rfl)
        · skip
          refine g_iconst h (nI 1) dX1_next_155 (by decide) ?_
          refine g_goto h 160 dX1_next_156 (by decide) ?_
          exact g_iret h hr dX1_next_160 (retI (congrArg nI (by have hx9 := hx; have hy9 := hy; unfold nx; grind))) (Nat.le_of_ble_eq_true rfl) (Nat.le_of_ble_eq_true rfl)
      · skip
        refine g_iload_n h 2 dX1_next_137 rfl rfl ?_
        refine g_aload_n h 0 dX1_next_138 rfl rfl ?_
        refine g_get h 1 fa_X1_15 dX1_next_139 h1 rfl ?_
        refine g_icmp_ne h 147 dX1_next_142 (by decide) (fun c142_14 => ?_) (fun c142_14 => ?_)
        · skip
          refine g_iload_n h 2 dX1_next_147 rfl rfl ?_
          refine g_aload_n h 0 dX1_next_148 rfl rfl ?_
          refine g_get h 2 fa_X1_18 dX1_next_149 h1 rfl ?_
          refine g_icmp_ne h 159 dX1_next_152 (by decide) (fun c152_15 => ?_) (fun c152_15 => ?_)
          · skip
            refine g_iconst h (nI 0) dX1_next_159 (by decide) ?_
            exact g_iret h hr dX1_next_160 (retI (congrArg nI (by have hx9 := hx; have hy9 := hy; unfold nx; grind))) (Nat.le_of_ble_eq_true rfl) (Nat.le_of_ble_eq_true rfl)
          · skip
            refine g_iconst h (nI 1) dX1_next_155 (by decide) ?_
            refine g_goto h 160 dX1_next_156 (by decide) ?_
            exact g_iret h hr dX1_next_160 (retI (congrArg nI (by have hx9 := hx; have hy9 := hy; unfold nx; grind))) (Nat.le_of_ble_eq_true rfl) (Nat.le_of_ble_eq_true rfl)
        · skip
          refine g_iconst h (nI 2) dX1_next_145 (by decide) ?_
          exact g_iret h hr dX1_next_146 (retI (congrArg nI (by have hx9 := hx; have hy9 := hy; unfold nx; grind))) (Nat.le_of_ble_eq_true rfl) (Nat.le_of_ble_eq_true rfl)
  · skip
    refine g_aload_n h 0 dX1_next_0 rfl rfl ?_
    refine g_get h 0 fa_X1_9 dX1_next_1 h1 rfl ?_
    refine g_tabIn (off := 157) h 161 dX1_next_4 (by decide) (by decide) rfl (by decide) ?_
    refine g_iload_n h 1 dX1_next_161 rfl rfl ?_
    refine g_if_neN h 179 dX1_next_162 (by decide) (by omega) (fun c162_16 => ?_) (fun c162_16 => ?_)
    · skip
      refine g_iload_n h 2 dX1_next_179 rfl rfl ?_
      refine g_aload_n h 0 dX1_next_180 rfl rfl ?_
      refine g_get h 2 fa_X1_18 dX1_next_181 h1 rfl ?_
      refine g_icmp_ne h 191 dX1_next_184 (by decide) (fun c184_17 => ?_) (fun c184_17 => ?_)
      · skip
        refine g_iload_n h 1 dX1_next_191 rfl rfl ?_
        exact g_iret h hr dX1_next_192 (retI (congrArg nI (by have hx9 := hx; have hy9 := hy; unfold nx; grind))) (Nat.le_of_ble_eq_true rfl) (Nat.le_of_ble_eq_true rfl)
      · skip
        refine g_iconst h (nI 2) dX1_next_187 (by decide) ?_
        refine g_goto h 192 dX1_next_188 (by decide) ?_
        exact g_iret h hr dX1_next_192 (retI (congrArg nI (by have hx9 := hx; have hy9 := hy; unfold nx; grind))) (Nat.le_of_ble_eq_true rfl) (Nat.le_of_ble_eq_true rfl)
    · skip
      refine g_iload_n h 2 dX1_next_165 rfl rfl ?_
      refine g_aload_n h 0 dX1_next_166 rfl rfl ?_
      refine g_get h 1 fa_X1_15 dX1_next_167 h1 rfl ?_
      refine g_icmp_ne h 177 dX1_next_170 (by decide) (fun c170_18 => ?_) (fun c170_18 => ?_)
      · skip
        refine g_iconst h (nI 0) dX1_next_177 (by decide) ?_
        exact g_iret h hr dX1_next_178 (retI (congrArg nI (by have hx9 := hx; have hy9 := hy; unfold nx; grind))) (Nat.le_of_ble_eq_true rfl) (Nat.le_of_ble_eq_true rfl)
      · skip
        refine g_iconst h (nI 1) dX1_next_173 (by decide) ?_
        refine g_goto h 178 dX1_next_174 (by decide) ?_
        exact g_iret h hr dX1_next_178 (retI (congrArg nI (by have hx9 := hx; have hy9 := hy; unfold nx; grind))) (Nat.le_of_ble_eq_true rfl) (Nat.le_of_ble_eq_true rfl)
abbrev rm_X1_isBroken : Room := { frames := 0, cells := 0, slots := 0, locals := 0 }
set_option maxRecDepth 100000 in
set_option maxHeartbeats 4000000 in
theorem c_X1_isBroken (l : Launch) (E : EnvD) (σ : Sto) {a so x y : Nat} (h1 : σ.1 a = some (cO 1 [.int (nI so), .int (nI x), .int (nI y)])) (hs : so < 7) (hx : x < 100) (hy : y < 100) {st : Nat} (h2 : st ≤ 100) : CC l yX1_isBroken cX1_isBroken 2 (some .boolean) rm_X1_isBroken E [.ref a, .int (nI st)] σ (fun o s => o = some (.int (bI (brk so y st))) ∧ s = σ) := by
  refine cc_of (vs := [_, _]) (by decide) (Nat.le_of_ble_eq_true rfl) rfl ?_
  intro X h hr hn
  rcases (show so = 0 ∨ so = 1 ∨ so = 2 ∨ so = 3 ∨ so = 4 ∨ so = 5 ∨ so = 6 by omega) with rfl | rfl | rfl | rfl | rfl | rfl | rfl
  · skip
    refine g_aload_n h 0 dX1_isBroken_0 rfl rfl ?_
    refine g_get h 0 fa_X1_9 dX1_isBroken_1 h1 rfl ?_
    refine g_tabIn (off := 36) h 40 dX1_isBroken_4 (by decide) (by decide) rfl (by decide) ?_
    refine g_iload_n h 1 dX1_isBroken_40 rfl rfl ?_
    refine g_iconst h (nI 1) dX1_isBroken_41 (by decide) ?_
    refine g_icmp_neN h 49 dX1_isBroken_42 (by decide) (by omega) (by decide) (fun c42_1 => ?_) (fun c42_1 => ?_)
    · skip
      refine g_iconst h (nI 0) dX1_isBroken_49 (by decide) ?_
      exact g_zret h hr rfl dX1_isBroken_50 (ret0 (by unfold brk; grind)) (Nat.le_of_ble_eq_true rfl) (Nat.le_of_ble_eq_true rfl)
    · skip
      refine g_iconst h (nI 1) dX1_isBroken_45 (by decide) ?_
      refine g_goto h 50 dX1_isBroken_46 (by decide) ?_
      exact g_zret h hr rfl dX1_isBroken_50 (ret1 (by unfold brk; grind)) (Nat.le_of_ble_eq_true rfl) (Nat.le_of_ble_eq_true rfl)
  · skip
    refine g_aload_n h 0 dX1_isBroken_0 rfl rfl ?_
    refine g_get h 0 fa_X1_9 dX1_isBroken_1 h1 rfl ?_
    refine g_tabIn (off := 47) h 51 dX1_isBroken_4 (by decide) (by decide) rfl (by decide) ?_
    refine g_iload_n h 1 dX1_isBroken_51 rfl rfl ?_
    refine g_aload_n h 0 dX1_isBroken_52 rfl rfl ?_
    refine g_get h 2 fa_X1_18 dX1_isBroken_53 h1 rfl ?_
    refine g_icmp_leN h 63 dX1_isBroken_56 (by decide) (by omega) (by omega) (fun c56_2 => ?_) (fun c56_2 => ?_)
    · skip
      refine g_iconst h (nI 0) dX1_isBroken_63 (by decide) ?_
      exact g_zret h hr rfl dX1_isBroken_64 (ret0 (by unfold brk; grind)) (Nat.le_of_ble_eq_true rfl) (Nat.le_of_ble_eq_true rfl)
    · skip
      refine g_iconst h (nI 1) dX1_isBroken_59 (by decide) ?_
      refine g_goto h 64 dX1_isBroken_60 (by decide) ?_
      exact g_zret h hr rfl dX1_isBroken_64 (ret1 (by unfold brk; grind)) (Nat.le_of_ble_eq_true rfl) (Nat.le_of_ble_eq_true rfl)
  · skip
    refine g_aload_n h 0 dX1_isBroken_0 rfl rfl ?_
    refine g_get h 0 fa_X1_9 dX1_isBroken_1 h1 rfl ?_
    refine g_tabIn (off := 82) h 86 dX1_isBroken_4 (by decide) (by decide) rfl (by decide) ?_
    refine g_iload_n h 1 dX1_isBroken_86 rfl rfl ?_
    refine g_iconst h (nI 2) dX1_isBroken_87 (by decide) ?_
    refine g_icmp_neN h 95 dX1_isBroken_88 (by decide) (by omega) (by decide) (fun c88_3 => ?_) (fun c88_3 => ?_)
    · skip
      refine g_iconst h (nI 0) dX1_isBroken_95 (by decide) ?_
      exact g_zret h hr rfl dX1_isBroken_96 (ret0 (by unfold brk; grind)) (Nat.le_of_ble_eq_true rfl) (Nat.le_of_ble_eq_true rfl)
    · skip
      refine g_iconst h (nI 1) dX1_isBroken_91 (by decide) ?_
      refine g_goto h 96 dX1_isBroken_92 (by decide) ?_
      exact g_zret h hr rfl dX1_isBroken_96 (ret1 (by unfold brk; grind)) (Nat.le_of_ble_eq_true rfl) (Nat.le_of_ble_eq_true rfl)
  · skip
    refine g_aload_n h 0 dX1_isBroken_0 rfl rfl ?_
    refine g_get h 0 fa_X1_9 dX1_isBroken_1 h1 rfl ?_
    refine g_tabIn (off := 61) h 65 dX1_isBroken_4 (by decide) (by decide) rfl (by decide) ?_
    refine g_iload_n h 1 dX1_isBroken_65 rfl rfl ?_
    refine g_iconst h (nI 3) dX1_isBroken_66 (by decide) ?_
    refine g_icmp_neN h 74 dX1_isBroken_67 (by decide) (by omega) (by decide) (fun c67_4 => ?_) (fun c67_4 => ?_)
    · skip
      refine g_iconst h (nI 0) dX1_isBroken_74 (by decide) ?_
      exact g_zret h hr rfl dX1_isBroken_75 (ret0 (by unfold brk; grind)) (Nat.le_of_ble_eq_true rfl) (Nat.le_of_ble_eq_true rfl)
    · skip
      refine g_iconst h (nI 1) dX1_isBroken_70 (by decide) ?_
      refine g_goto h 75 dX1_isBroken_71 (by decide) ?_
      exact g_zret h hr rfl dX1_isBroken_75 (ret1 (by unfold brk; grind)) (Nat.le_of_ble_eq_true rfl) (Nat.le_of_ble_eq_true rfl)
  · skip
    refine g_aload_n h 0 dX1_isBroken_0 rfl rfl ?_
    refine g_get h 0 fa_X1_9 dX1_isBroken_1 h1 rfl ?_
    refine g_tabIn (off := 72) h 76 dX1_isBroken_4 (by decide) (by decide) rfl (by decide) ?_
    refine g_iload_n h 1 dX1_isBroken_76 rfl rfl ?_
    refine g_if_neN h 84 dX1_isBroken_77 (by decide) (by omega) (fun c77_5 => ?_) (fun c77_5 => ?_)
    · skip
      refine g_iconst h (nI 0) dX1_isBroken_84 (by decide) ?_
      exact g_zret h hr rfl dX1_isBroken_85 (ret0 (by unfold brk; grind)) (Nat.le_of_ble_eq_true rfl) (Nat.le_of_ble_eq_true rfl)
    · skip
      refine g_iconst h (nI 1) dX1_isBroken_80 (by decide) ?_
      refine g_goto h 85 dX1_isBroken_81 (by decide) ?_
      exact g_zret h hr rfl dX1_isBroken_85 (ret1 (by unfold brk; grind)) (Nat.le_of_ble_eq_true rfl) (Nat.le_of_ble_eq_true rfl)
  · skip
    refine g_aload_n h 0 dX1_isBroken_0 rfl rfl ?_
    refine g_get h 0 fa_X1_9 dX1_isBroken_1 h1 rfl ?_
    refine g_tabOut h 86 dX1_isBroken_4 (by decide) (by decide) ?_
    refine g_iload_n h 1 dX1_isBroken_86 rfl rfl ?_
    refine g_iconst h (nI 2) dX1_isBroken_87 (by decide) ?_
    refine g_icmp_neN h 95 dX1_isBroken_88 (by decide) (by omega) (by decide) (fun c88_6 => ?_) (fun c88_6 => ?_)
    · skip
      refine g_iconst h (nI 0) dX1_isBroken_95 (by decide) ?_
      exact g_zret h hr rfl dX1_isBroken_96 (ret0 (by unfold brk; grind)) (Nat.le_of_ble_eq_true rfl) (Nat.le_of_ble_eq_true rfl)
    · skip
      refine g_iconst h (nI 1) dX1_isBroken_91 (by decide) ?_
      refine g_goto h 96 dX1_isBroken_92 (by decide) ?_
      exact g_zret h hr rfl dX1_isBroken_96 (ret1 (by unfold brk; grind)) (Nat.le_of_ble_eq_true rfl) (Nat.le_of_ble_eq_true rfl)
  · skip
    refine g_aload_n h 0 dX1_isBroken_0 rfl rfl ?_
    refine g_get h 0 fa_X1_9 dX1_isBroken_1 h1 rfl ?_
    refine g_tabOut h 86 dX1_isBroken_4 (by decide) (by decide) ?_
    refine g_iload_n h 1 dX1_isBroken_86 rfl rfl ?_
    refine g_iconst h (nI 2) dX1_isBroken_87 (by decide) ?_
    refine g_icmp_neN h 95 dX1_isBroken_88 (by decide) (by omega) (by decide) (fun c88_7 => ?_) (fun c88_7 => ?_)
    · skip
      refine g_iconst h (nI 0) dX1_isBroken_95 (by decide) ?_
      exact g_zret h hr rfl dX1_isBroken_96 (ret0 (by unfold brk; grind)) (Nat.le_of_ble_eq_true rfl) (Nat.le_of_ble_eq_true rfl)
    · skip
      refine g_iconst h (nI 1) dX1_isBroken_91 (by decide) ?_
      refine g_goto h 96 dX1_isBroken_92 (by decide) ?_
      exact g_zret h hr rfl dX1_isBroken_96 (ret1 (by unfold brk; grind)) (Nat.le_of_ble_eq_true rfl) (Nat.le_of_ble_eq_true rfl)
abbrev rm_X5_rowOf : Room := { frames := 0, cells := 0, slots := 0, locals := 0 }
set_option maxRecDepth 100000 in
set_option maxHeartbeats 4000000 in
theorem c_X5_rowOf_in (l : Launch) (E : EnvD) (σ : Sto) {a m i b : Nat} {f : Nat → Option Nat} (h1 : σ.1 a = some (cQ E 2 m f)) (hm : m < 1000) (hi : i < m) (hf : f i = some b) : CC l yX5_rowOf cX5_rowOf 2 (some (.object "PlayReader$Row")) rm_X5_rowOf E [.ref a, .int (nI i)] σ (fun o s => o = some (.ref b) ∧ s = σ) := by
  refine cc_of (vs := [_, _]) (by decide) (Nat.le_of_ble_eq_true rfl) rfl ?_
  intro X h hr hn
  refine g_iload_n h 1 dX5_rowOf_0 rfl rfl ?_
  refine g_if_ltN h 16 dX5_rowOf_1 (by decide) (by omega) ?_
  refine g_iload_n h 1 dX5_rowOf_4 rfl rfl ?_
  refine g_aload_n h 0 dX5_rowOf_5 rfl rfl ?_
  refine g_alen (v := nI m) h 2 dX5_rowOf_6 rfl h1 rfl ?_
  refine g_icmp_geN h 16 dX5_rowOf_7 (by decide) (by omega) (by omega) (fun c7_2 => absurd c7_2 (by omega)) (fun c7_2 => ?_)
  refine g_aload_n h 0 dX5_rowOf_10 rfl rfl ?_
  refine g_iload_n h 1 dX5_rowOf_11 rfl rfl ?_
  refine g_aald h 2 (v := .ref b) dX5_rowOf_12 rfl rfl h1 (by omega) (by omega) (by rw [hf]; rfl) ?_
  refine g_goto h 17 dX5_rowOf_13 (by decide) ?_
  exact g_aret h hr (Or.inr ⟨_, rfl⟩) dX5_rowOf_17 (⟨rfl, rfl⟩) (Nat.le_of_ble_eq_true rfl) (Nat.le_of_ble_eq_true rfl)
set_option maxRecDepth 100000 in
set_option maxHeartbeats 4000000 in
theorem c_X5_rowOf_out (l : Launch) (E : EnvD) (σ : Sto) {a m : Nat} {f : Nat → Option Nat} (x : Int32) (h1 : σ.1 a = some (cQ E 2 m f)) (hm : m < 1000) (hx : ¬ inR x m) : CC l yX5_rowOf cX5_rowOf 2 (some (.object "PlayReader$Row")) rm_X5_rowOf E [.ref a, .int x] σ (fun o s => o = some .null ∧ s = σ) := by
  refine cc_of (vs := [_, _]) (by decide) (Nat.le_of_ble_eq_true rfl) rfl ?_
  intro X h hr hn
  refine g_iload_n h 1 dX5_rowOf_0 rfl rfl ?_
  refine g_if_lt h 16 dX5_rowOf_1 (by decide) (fun c1_1 => ?_) (fun c1_1 => ?_)
  · skip
    refine g_null h dX5_rowOf_16 ?_
    exact g_aret h hr (Or.inl rfl) dX5_rowOf_17 (⟨rfl, rfl⟩) (Nat.le_of_ble_eq_true rfl) (Nat.le_of_ble_eq_true rfl)
  · skip
    refine g_iload_n h 1 dX5_rowOf_4 rfl rfl ?_
    refine g_aload_n h 0 dX5_rowOf_5 rfl rfl ?_
    refine g_alen (v := nI m) h 2 dX5_rowOf_6 rfl h1 rfl ?_
    refine g_icmp_ge h 16 dX5_rowOf_7 (by decide) (fun c7_2 => ?_) (fun c7_2 => absurd (inR_of c1_1 c7_2 (by omega)) hx)
    refine g_null h dX5_rowOf_16 ?_
    exact g_aret h hr (Or.inl rfl) dX5_rowOf_17 (⟨rfl, rfl⟩) (Nat.le_of_ble_eq_true rfl) (Nat.le_of_ble_eq_true rfl)
abbrev rm_X5_conditionOf : Room := { frames := 0, cells := 0, slots := 0, locals := 0 }
set_option maxRecDepth 100000 in
set_option maxHeartbeats 4000000 in
theorem c_X5_conditionOf_in (l : Launch) (E : EnvD) (σ : Sto) {z : Nat} {S : PSt} {i b : Nat} {f : Nat → Option Nat} (r0 : C0 z S σ) (h1 : σ.1 (z + 3) = some (cQ E 3 12 f)) (hc : sCn S ≤ 12) (hi : i < sCn S) (hf : f i = some b) : CC l yX5_conditionOf cX5_conditionOf 2 (some (.object "PlayReader$Condition")) rm_X5_conditionOf E [.ref z, .int (nI i)] σ (fun o s => o = some (.ref b) ∧ s = σ) := by
  refine cc_of (vs := [_, _]) (by decide) (Nat.le_of_ble_eq_true rfl) rfl ?_
  intro X h hr hn
  refine g_iload_n h 1 dX5_conditionOf_0 rfl rfl ?_
  refine g_if_ltN h 30 dX5_conditionOf_1 (by decide) (by omega) ?_
  refine g_iload_n h 1 dX5_conditionOf_4 rfl rfl ?_
  refine g_aload_n h 0 dX5_conditionOf_5 rfl rfl ?_
  refine g_get h 8 fa_X5_53 dX5_conditionOf_6 r0 rfl ?_
  refine g_icmp_geN h 30 dX5_conditionOf_9 (by decide) (by omega) (by omega) (fun c9_2 => absurd c9_2 (by omega)) (fun c9_2 => ?_)
  refine g_iload_n h 1 dX5_conditionOf_12 rfl rfl ?_
  refine g_aload_n h 0 dX5_conditionOf_13 rfl rfl ?_
  refine g_get h 2 fa_X5_20 dX5_conditionOf_14 r0 rfl ?_
  refine g_alen (v := nI 12) h 3 dX5_conditionOf_17 rfl h1 rfl ?_
  refine g_icmp_geN h 30 dX5_conditionOf_18 (by decide) (by omega) (by decide) (fun c18_3 => absurd c18_3 (by omega)) (fun c18_3 => ?_)
  refine g_aload_n h 0 dX5_conditionOf_21 rfl rfl ?_
  refine g_get h 2 fa_X5_20 dX5_conditionOf_22 r0 rfl ?_
  refine g_iload_n h 1 dX5_conditionOf_25 rfl rfl ?_
  refine g_aald h 3 (v := .ref b) dX5_conditionOf_26 rfl rfl h1 (by omega) (by omega) (by rw [hf]; rfl) ?_
  refine g_goto h 31 dX5_conditionOf_27 (by decide) ?_
  exact g_aret h hr (Or.inr ⟨_, rfl⟩) dX5_conditionOf_31 (⟨rfl, rfl⟩) (Nat.le_of_ble_eq_true rfl) (Nat.le_of_ble_eq_true rfl)
set_option maxRecDepth 100000 in
set_option maxHeartbeats 4000000 in
theorem c_X5_conditionOf_out (l : Launch) (E : EnvD) (σ : Sto) {z : Nat} {S : PSt} (x : Int32) (r0 : C0 z S σ) (hc : sCn S ≤ 12) (hx : ¬ inR x (sCn S)) : CC l yX5_conditionOf cX5_conditionOf 2 (some (.object "PlayReader$Condition")) rm_X5_conditionOf E [.ref z, .int x] σ (fun o s => o = some .null ∧ s = σ) := by
  refine cc_of (vs := [_, _]) (by decide) (Nat.le_of_ble_eq_true rfl) rfl ?_
  intro X h hr hn
  refine g_iload_n h 1 dX5_conditionOf_0 rfl rfl ?_
  refine g_if_lt h 30 dX5_conditionOf_1 (by decide) (fun c1_1 => ?_) (fun c1_1 => ?_)
  · skip
    refine g_null h dX5_conditionOf_30 ?_
    exact g_aret h hr (Or.inl rfl) dX5_conditionOf_31 (⟨rfl, rfl⟩) (Nat.le_of_ble_eq_true rfl) (Nat.le_of_ble_eq_true rfl)
  · skip
    refine g_iload_n h 1 dX5_conditionOf_4 rfl rfl ?_
    refine g_aload_n h 0 dX5_conditionOf_5 rfl rfl ?_
    refine g_get h 8 fa_X5_53 dX5_conditionOf_6 r0 rfl ?_
    refine g_icmp_ge h 30 dX5_conditionOf_9 (by decide) (fun c9_2 => ?_) (fun c9_2 => absurd (inR_of c1_1 c9_2 (by omega)) hx)
    refine g_null h dX5_conditionOf_30 ?_
    exact g_aret h hr (Or.inl rfl) dX5_conditionOf_31 (⟨rfl, rfl⟩) (Nat.le_of_ble_eq_true rfl) (Nat.le_of_ble_eq_true rfl)
abbrev rm_X5_ruleOf : Room := { frames := 0, cells := 0, slots := 0, locals := 0 }
set_option maxRecDepth 100000 in
set_option maxHeartbeats 4000000 in
theorem c_X5_ruleOf_in (l : Launch) (E : EnvD) (σ : Sto) {z : Nat} {S : PSt} {i b : Nat} {f : Nat → Option Nat} (r0 : C0 z S σ) (h1 : σ.1 (z + 4) = some (cQ E 4 20 f)) (hc : sRn S ≤ 20) (hi : i < sRn S) (hf : f i = some b) : CC l yX5_ruleOf cX5_ruleOf 2 (some (.object "PlayReader$Rule")) rm_X5_ruleOf E [.ref z, .int (nI i)] σ (fun o s => o = some (.ref b) ∧ s = σ) := by
  refine cc_of (vs := [_, _]) (by decide) (Nat.le_of_ble_eq_true rfl) rfl ?_
  intro X h hr hn
  refine g_iload_n h 1 dX5_ruleOf_0 rfl rfl ?_
  refine g_if_ltN h 30 dX5_ruleOf_1 (by decide) (by omega) ?_
  refine g_iload_n h 1 dX5_ruleOf_4 rfl rfl ?_
  refine g_aload_n h 0 dX5_ruleOf_5 rfl rfl ?_
  refine g_get h 9 fa_X5_57 dX5_ruleOf_6 r0 rfl ?_
  refine g_icmp_geN h 30 dX5_ruleOf_9 (by decide) (by omega) (by omega) (fun c9_2 => absurd c9_2 (by omega)) (fun c9_2 => ?_)
  refine g_iload_n h 1 dX5_ruleOf_12 rfl rfl ?_
  refine g_aload_n h 0 dX5_ruleOf_13 rfl rfl ?_
  refine g_get h 3 fa_X5_26 dX5_ruleOf_14 r0 rfl ?_
  refine g_alen (v := nI 20) h 4 dX5_ruleOf_17 rfl h1 rfl ?_
  refine g_icmp_geN h 30 dX5_ruleOf_18 (by decide) (by omega) (by decide) (fun c18_3 => absurd c18_3 (by omega)) (fun c18_3 => ?_)
  refine g_aload_n h 0 dX5_ruleOf_21 rfl rfl ?_
  refine g_get h 3 fa_X5_26 dX5_ruleOf_22 r0 rfl ?_
  refine g_iload_n h 1 dX5_ruleOf_25 rfl rfl ?_
  refine g_aald h 4 (v := .ref b) dX5_ruleOf_26 rfl rfl h1 (by omega) (by omega) (by rw [hf]; rfl) ?_
  refine g_goto h 31 dX5_ruleOf_27 (by decide) ?_
  exact g_aret h hr (Or.inr ⟨_, rfl⟩) dX5_ruleOf_31 (⟨rfl, rfl⟩) (Nat.le_of_ble_eq_true rfl) (Nat.le_of_ble_eq_true rfl)
set_option maxRecDepth 100000 in
set_option maxHeartbeats 4000000 in
theorem c_X5_ruleOf_out (l : Launch) (E : EnvD) (σ : Sto) {z : Nat} {S : PSt} (x : Int32) (r0 : C0 z S σ) (hc : sRn S ≤ 20) (hx : ¬ inR x (sRn S)) : CC l yX5_ruleOf cX5_ruleOf 2 (some (.object "PlayReader$Rule")) rm_X5_ruleOf E [.ref z, .int x] σ (fun o s => o = some .null ∧ s = σ) := by
  refine cc_of (vs := [_, _]) (by decide) (Nat.le_of_ble_eq_true rfl) rfl ?_
  intro X h hr hn
  refine g_iload_n h 1 dX5_ruleOf_0 rfl rfl ?_
  refine g_if_lt h 30 dX5_ruleOf_1 (by decide) (fun c1_1 => ?_) (fun c1_1 => ?_)
  · skip
    refine g_null h dX5_ruleOf_30 ?_
    exact g_aret h hr (Or.inl rfl) dX5_ruleOf_31 (⟨rfl, rfl⟩) (Nat.le_of_ble_eq_true rfl) (Nat.le_of_ble_eq_true rfl)
  · skip
    refine g_iload_n h 1 dX5_ruleOf_4 rfl rfl ?_
    refine g_aload_n h 0 dX5_ruleOf_5 rfl rfl ?_
    refine g_get h 9 fa_X5_57 dX5_ruleOf_6 r0 rfl ?_
    refine g_icmp_ge h 30 dX5_ruleOf_9 (by decide) (fun c9_2 => ?_) (fun c9_2 => absurd (inR_of c1_1 c9_2 (by omega)) hx)
    refine g_null h dX5_ruleOf_30 ?_
    exact g_aret h hr (Or.inl rfl) dX5_ruleOf_31 (⟨rfl, rfl⟩) (Nat.le_of_ble_eq_true rfl) (Nat.le_of_ble_eq_true rfl)
end
section
/-! conditions: the machine's sets of states (own work; walks by program) -/
theorem nx_le {so x y st : Nat} {ln : Int32} (h : st ≤ lastS so y) : nx so x y st ln ≤ lastS so y := by
  unfold lastS at *
  by_cases h3 : so = 3
  · subst h3
    have h4 : st ≤ 3 := by simpa using h
    have : st = 0 ∨ st = 1 ∨ st = 2 ∨ st = 3 := by omega
    have e : (if (3 : Nat) = 1 then y + 1 else 3) = 3 := if_neg (by decide)
    have key : ∀ a b s : Nat, (a = 0 ∨ a = 1) → (b = 0 ∨ b = 2) → (s = 0 ∨ s = 1 ∨ s = 2 ∨ s = 3) → (s ||| a) ||| b ≤ 3 := by
      rintro _ _ _ (rfl | rfl) (rfl | rfl) (rfl | rfl | rfl | rfl) <;> decide
    rw [e]
    unfold nx
    rw [if_neg (by decide), if_neg (by decide), if_pos rfl]
    exact key _ _ _ (by split <;> simp) (by split <;> simp) this
  · unfold nx
    grind
theorem lastS_le {so y : Nat} (h1 : so = 1 → y ≤ 40) : lastS so y ≤ 41 := by
  unfold lastS
  grind
theorem lcmp0 {x y : Int64} : (if y < x then (1 : Int32) else if x = y then 0 else -1) = 0 ↔ x = y := by
  by_cases h : x = y
  · subst h
    simp [Int64.lt_irrefl]
  · by_cases h2 : y < x <;> simp [h, h2]
theorem bt_ext {a b : Int64} (h : ∀ j, j < 64 → bt a j = bt b j) : a = b := by
  apply Int64.toBitVec_inj.mp
  apply BitVec.eq_of_getLsbD_eq
  intro i hi
  exact h i hi
/-- how many of the first n hold -/
def cnB (p : Nat → Bool) : Nat → Nat
  | 0 => 0
  | n + 1 => cnB p n + (if p n = true then 1 else 0)
theorem cnB_le (p : Nat → Bool) : ∀ n, cnB p n ≤ n
  | 0 => Nat.le_refl 0
  | n + 1 => by
    have := cnB_le p n
    unfold cnB
    split <;> omega
theorem cnB_full {p : Nat → Bool} : ∀ {n}, n ≤ cnB p n → ∀ j, j < n → p j = true
  | 0, _, j, hj => absurd hj (Nat.not_lt_zero j)
  | n + 1, h, j, hj => by
    have h1 := cnB_le p n
    unfold cnB at h
    by_cases hp : p n = true
    · rw [if_pos hp] at h
      rcases Nat.lt_or_ge j n with q | q
      · exact cnB_full (by omega) j q
      · rw [show j = n by omega]; exact hp
    · rw [if_neg hp] at h
      omega
theorem cnB_mono {p q : Nat → Bool} (h : ∀ j, p j = true → q j = true) : ∀ n, cnB p n ≤ cnB q n
  | 0 => Nat.le_refl 0
  | n + 1 => by
    have := cnB_mono h n
    unfold cnB
    by_cases hp : p n = true
    · rw [if_pos hp, if_pos (h n hp)]; omega
    · rw [if_neg hp]; omega
theorem cnB_lt {p q : Nat → Bool} (h : ∀ j, p j = true → q j = true) : ∀ n j, j < n → p j ≠ true → q j = true → cnB p n < cnB q n
  | 0, j, hj, _, _ => absurd hj (Nat.not_lt_zero j)
  | n + 1, j, hj, h1, h2 => by
    unfold cnB
    rcases Nat.lt_or_ge j n with e | e
    · have := cnB_lt h n j e h1 h2
      by_cases hp : p n = true
      · rw [if_pos hp, if_pos (h n hp)]; omega
      · rw [if_neg hp]; omega
    · have e2 : j = n := by omega
      subst e2
      have := cnB_mono h j
      rw [if_neg h1, if_pos h2]
      omega
/-- the set b of states lies within the machine's states -/
def BL (L : Nat) (b : Int64) : Prop := ∀ j, j < 64 → bt b j = true → j ≤ L
def clo (so x y : Nat) (P : Nat → Prop) : Prop := ∀ s, s ≤ lastS so y → P s → P (nx so x y s (nI x)) ∧ P (nx so x y s (nI y)) ∧ P (nx so x y s (-1))
section KX
variable {X : CX} {E : EnvD} {nL : Nat} {A : Nat → Prop} {Q : State → Prop} {k n pc : Nat} {vs : List (Option Value)}
theorem kk_exl {rest : List Value} {σ1 : Sto} {Pb : Int64 → Prop} (kk : ∀ b, Pb b → G X E nL A Q k n pc vs (.long b :: rest) σ1) : ∀ (r : Option Value) (s : Sto), (∃ b, r = some (.long b) ∧ s = σ1 ∧ Pb b) → G X E nL A Q k n pc vs (r.toList ++ rest) s := by
  rintro _ _ ⟨b, rfl, rfl, hb⟩
  exact kk b hb
end KX
abbrev rm_X1_statesBehindLine : Room := { frames := 1, cells := 0, slots := 0, locals := 22 }
set_option maxRecDepth 100000 in
set_option maxHeartbeats 4000000 in
theorem c_X1_statesBehindLine (l : Launch) (E : EnvD) (σ : Sto) {a so x y : Nat} (h1 : σ.1 a = some (cO 1 [.int (nI so), .int (nI x), .int (nI y)])) (hs : so < 7) (hx : x < 100) (hy : y < 100) (hy1 : so = 1 → y ≤ 40) (S : Int64) (ln : Int32) : CC l yX1_statesBehindLine cX1_statesBehindLine 7 (some .long) rm_X1_statesBehindLine E [.ref a, .long S, .int ln] σ (fun o s => ∃ b, o = some (.long b) ∧ s = σ ∧ (BL (lastS so y) b ∧ ∀ j, j ≤ lastS so y → (bt b j = true ↔ ∃ q, q ≤ lastS so y ∧ bt S q = true ∧ nx so x y q ln = j))) := by
  refine cc_of (vs := [_, _, _, _, _, _, _]) (by decide) (Nat.le_of_ble_eq_true rfl) rfl ?_
  intro X h hr hn
  refine g_lconst h 0 dX1_statesBehindLine_0 (by decide) ?_
  refine g_lstore (vs' := [_, _, _, _, _, _, _]) h dX1_statesBehindLine_1 (Nat.le_of_ble_eq_true rfl) rfl rfl ?_
  refine g_iconst h (nI 0) dX1_statesBehindLine_3 (by decide) ?_
  refine g_istore (vs' := [_, _, _, _, _, _, _]) h dX1_statesBehindLine_4 (Nat.le_of_ble_eq_true rfl) rfl rfl ?_
  have hL := lastS_le hy1
  have L6 : ∀ (m0 : Nat) (i : Nat) (b : Int64), (i ≤ lastS so y + 1) → (∀ j, j < 64 → (bt b j = true ↔ ∃ q, q < i ∧ bt S q = true ∧ nx so x y q ln = j)) → (lastS so y + 1 - i) < m0 → G X E 7 (AD σ) (QF X E σ (fun o s => ∃ b, o = some (.long b) ∧ s = σ ∧ (BL (lastS so y) b ∧ ∀ j, j ≤ lastS so y → (bt b j = true ↔ ∃ q, q ≤ lastS so y ∧ bt S q = true ∧ nx so x y q ln = j))) rm_X1_statesBehindLine) 0 0 6 [some (.ref a), some (.long S), none, some (.int ln), some (.long b), none, some (.int (nI i))] [] σ := by
    intro m0
    induction m0 with
    | zero => intro i b _ _ hm0; exact absurd hm0 (Nat.not_lt_zero _)
    | succ m0 ih =>
      intro i b hi hb hm0
      refine g_iload h dX1_statesBehindLine_6 rfl ?_
      refine g_aload_n h 0 dX1_statesBehindLine_8 rfl rfl ?_
      refine g_callV h [_] (c_X1_lastState (xL X) E _ h1 hs hx hy) cf_X1_25 cv_X1_lastState dX1_statesBehindLine_9 rfl h1 rfl rfl (Nat.le_of_ble_eq_true rfl) ⟨(Nat.le_of_ble_eq_true rfl), (Nat.le_of_ble_eq_true rfl)⟩ ⟨(Nat.le_of_ble_eq_true rfl), (Nat.le_of_ble_eq_true rfl)⟩ ?_
      refine kk_det ?_
      refine g_icmp_gtN h 44 dX1_statesBehindLine_12 (by decide) (by omega) (by omega) (fun c12_1 => ?_) (fun c12_1 => ?_)
      · skip
        refine g_lload h dX1_statesBehindLine_44 rfl ?_
        exact g_lret h hr dX1_statesBehindLine_46 (⟨b, rfl, rfl, fun j hj q => by obtain ⟨q1, q2, q3, q4⟩ := (hb j hj).mp q; rw [← q4]; exact nx_le (by omega), fun j hj => (hb j (by omega)).trans ⟨fun ⟨q, q1, q2, q3⟩ => ⟨q, by omega, q2, q3⟩, fun ⟨q, q1, q2, q3⟩ => ⟨q, by omega, q2, q3⟩⟩⟩) (Nat.le_of_ble_eq_true rfl) (Nat.le_of_ble_eq_true rfl)
      · skip
        refine g_lload_n h 1 dX1_statesBehindLine_15 rfl rfl ?_
        refine g_iload h dX1_statesBehindLine_16 rfl ?_
        refine g_callSN h [] (c_X5_hasBit (xL X) E _ S (b := i) (by omega)) cf_X1_29 h.2.2.2.2.1.2.2.2.1.2.2.2.2.1 cs_X5_hasBit dX1_statesBehindLine_18 rfl rfl (Nat.le_of_ble_eq_true rfl) ⟨(Nat.le_of_ble_eq_true rfl), (Nat.le_of_ble_eq_true rfl)⟩ ⟨(Nat.le_of_ble_eq_true rfl), (Nat.le_of_ble_eq_true rfl)⟩ ?_
        refine kk_det ?_
        refine g_if_eqB h 38 dX1_statesBehindLine_21 (by decide) (fun c21_2 => ?_) (fun c21_2 => ?_)
        · skip
          refine g_iinc (vs' := [_, _, _, _, _, _, _]) h (nI (i + 1)) dX1_statesBehindLine_38 rfl (by first | exact nI_1 _ | rfl) (Nat.le_of_ble_eq_true rfl) rfl rfl ?_
          refine g_goto h 6 dX1_statesBehindLine_41 (by decide) ?_
          refine ih (i + 1) _ (by omega) (fun j hj => ?_) (by omega)
          rw [hb j hj]
          constructor
          · rintro ⟨q, q1, q2, q3⟩
            exact ⟨q, by omega, q2, q3⟩
          · rintro ⟨q, q1, q2, q3⟩
            rcases Nat.lt_or_ge q i with e | e
            · exact ⟨q, e, q2, q3⟩
            · obtain rfl : q = i := by omega
              exact absurd q2 c21_2
        · skip
          refine g_lload h dX1_statesBehindLine_24 rfl ?_
          refine g_lconst h 1 dX1_statesBehindLine_26 (by decide) ?_
          refine g_aload_n h 0 dX1_statesBehindLine_27 rfl rfl ?_
          refine g_iload h dX1_statesBehindLine_28 rfl ?_
          refine g_iload_n h 3 dX1_statesBehindLine_30 rfl rfl ?_
          refine g_callV h [_, _] (c_X1_next (xL X) E _ h1 hs hx hy (st := i) (by omega) ln) cf_X1_54 cv_X1_next dX1_statesBehindLine_31 rfl h1 rfl rfl (Nat.le_of_ble_eq_true rfl) ⟨(Nat.le_of_ble_eq_true rfl), (Nat.le_of_ble_eq_true rfl)⟩ ⟨(Nat.le_of_ble_eq_true rfl), (Nat.le_of_ble_eq_true rfl)⟩ ?_
          refine kk_det ?_
          refine g_lshl h dX1_statesBehindLine_34 ?_
          refine g_lor h dX1_statesBehindLine_35 ?_
          refine g_lstore (vs' := [_, _, _, _, _, _, _]) h dX1_statesBehindLine_36 (Nat.le_of_ble_eq_true rfl) rfl rfl ?_
          refine g_iinc (vs' := [_, _, _, _, _, _, _]) h (nI (i + 1)) dX1_statesBehindLine_38 rfl (by first | exact nI_1 _ | rfl) (Nat.le_of_ble_eq_true rfl) rfl rfl ?_
          refine g_goto h 6 dX1_statesBehindLine_41 (by decide) ?_
          refine ih (i + 1) _ (by omega) (fun j hj => ?_) (by omega)
          have hn9 : nx so x y i ln ≤ lastS so y := nx_le (by omega)
          rw [bt_or, bt_shl (by omega) hj, Bool.or_eq_true, hb j hj, decide_eq_true_eq]
          constructor
          · rintro (⟨q, q1, q2, q3⟩ | q)
            · exact ⟨q, by omega, q2, q3⟩
            · exact ⟨i, by omega, c21_2, q.symm⟩
          · rintro ⟨q, q1, q2, q3⟩
            rcases Nat.lt_or_ge q i with e | e
            · exact Or.inl ⟨q, e, q2, q3⟩
            · obtain rfl : q = i := by omega
              exact Or.inr q3.symm
  exact L6 (lastS so y + 2) 0 0 (by omega) (fun j hj => by rw [bt_0]; exact ⟨fun q => (by cases q), fun ⟨q, q1, _⟩ => absurd q1 (Nat.not_lt_zero _)⟩) (by omega)
abbrev rm_X1_statesBehindGap : Room := { frames := 1, cells := 0, slots := 0, locals := 22 }
set_option maxRecDepth 100000 in
set_option maxHeartbeats 4000000 in
theorem c_X1_statesBehindGap (l : Launch) (E : EnvD) (σ : Sto) {a so x y : Nat} (h1 : σ.1 a = some (cO 1 [.int (nI so), .int (nI x), .int (nI y)])) (hs : so < 7) (hx : x < 100) (hy : y < 100) (hy1 : so = 1 → y ≤ 40) (S : Int64) (hS : BL (lastS so y) S) : CC l yX1_statesBehindGap cX1_statesBehindGap 9 (some .long) rm_X1_statesBehindGap E [.ref a, .long S] σ (fun o s => ∃ b, o = some (.long b) ∧ s = σ ∧ (BL (lastS so y) b ∧ (∀ j, j < 64 → bt S j = true → bt b j = true) ∧ clo so x y (fun j => bt b j = true) ∧ ∀ P : Nat → Prop, (∀ j, j ≤ lastS so y → bt S j = true → P j) → clo so x y P → ∀ j, j ≤ lastS so y → bt b j = true → P j)) := by
  refine cc_of (vs := [_, _, _, _, _, _, _, _, _]) (by decide) (Nat.le_of_ble_eq_true rfl) rfl ?_
  intro X h hr hn
  refine g_lload_n h 1 dX1_statesBehindGap_0 rfl rfl ?_
  refine g_lstore_n (vs' := [_, _, _, _, _, _, _, _, _]) h 3 dX1_statesBehindGap_1 rfl (Nat.le_of_ble_eq_true rfl) rfl rfl ?_
  refine g_iconst h (nI 0) dX1_statesBehindGap_2 (by decide) ?_
  refine g_istore (vs' := [_, _, _, _, _, _, _, _, _]) h dX1_statesBehindGap_3 (Nat.le_of_ble_eq_true rfl) rfl rfl ?_
  have hL := lastS_le hy1
  refine g_few (vs' := [some (.ref a), some (.long S), none, some (.long S), none, some (.int (nI 0)), none, none, none]) ⟨Or.inr rfl, Or.inr rfl, Or.inr rfl, Or.inr rfl, Or.inr rfl, Or.inr rfl, Or.inl rfl, Or.inl rfl, Or.inl rfl, trivial⟩ ?_
  have L5 : ∀ (m0 : Nat) (i : Nat) (b : Int64), (i ≤ cnB (fun j => decide (j < 64) && bt b j) (lastS so y + 1)) → (BL (lastS so y) b) → (∀ j, j < 64 → bt S j = true → bt b j = true) → (∀ P : Nat → Prop, (∀ j, j ≤ lastS so y → bt S j = true → P j) → clo so x y P → ∀ j, j ≤ lastS so y → bt b j = true → P j) → (lastS so y + 2 - i) < m0 → G X E 9 (AD σ) (QF X E σ (fun o s => ∃ b, o = some (.long b) ∧ s = σ ∧ (BL (lastS so y) b ∧ (∀ j, j < 64 → bt S j = true → bt b j = true) ∧ clo so x y (fun j => bt b j = true) ∧ ∀ P : Nat → Prop, (∀ j, j ≤ lastS so y → bt S j = true → P j) → clo so x y P → ∀ j, j ≤ lastS so y → bt b j = true → P j)) rm_X1_statesBehindGap) 0 0 5 [some (.ref a), some (.long S), none, some (.long b), none, some (.int (nI i)), none, none, none] [] σ := by
    intro m0
    induction m0 with
    | zero => intro i b _ _ _ _ hm0; exact absurd hm0 (Nat.not_lt_zero _)
    | succ m0 ih =>
      intro i b hc hb1 hb2 hb5 hm0
      have hcle := cnB_le (fun j => decide (j < 64) && bt b j) (lastS so y + 1)
      refine g_iload h dX1_statesBehindGap_5 rfl ?_
      refine g_aload_n h 0 dX1_statesBehindGap_7 rfl rfl ?_
      refine g_callV h [_] (c_X1_lastState (xL X) E _ h1 hs hx hy) cf_X1_25 cv_X1_lastState dX1_statesBehindGap_8 rfl h1 rfl rfl (Nat.le_of_ble_eq_true rfl) ⟨(Nat.le_of_ble_eq_true rfl), (Nat.le_of_ble_eq_true rfl)⟩ ⟨(Nat.le_of_ble_eq_true rfl), (Nat.le_of_ble_eq_true rfl)⟩ ?_
      refine kk_det ?_
      refine g_icmp_gtN h 102 dX1_statesBehindGap_11 (by decide) (by omega) (by omega) (fun c11_1 => ?_) (fun c11_1 => ?_)
      · skip
        have hfull := cnB_full (p := fun j => decide (j < 64) && bt b j) (n := lastS so y + 1) (by omega)
        have hcl : clo so x y (fun j => bt b j = true) := fun s hs2 _ => by
          have hh : ∀ j, j ≤ lastS so y → bt b j = true := fun j hj => by have := hfull j (by omega); simp only [Bool.and_eq_true] at this; exact this.2
          exact ⟨hh _ (nx_le hs2), hh _ (nx_le hs2), hh _ (nx_le hs2)⟩
        refine g_lload_n h 3 dX1_statesBehindGap_102 rfl rfl ?_
        exact g_lret h hr dX1_statesBehindGap_103 (⟨b, rfl, rfl, hb1, hb2, hcl, hb5⟩) (Nat.le_of_ble_eq_true rfl) (Nat.le_of_ble_eq_true rfl)
      · skip
        refine g_lload_n h 3 dX1_statesBehindGap_14 rfl rfl ?_
        refine g_lstore (vs' := [_, _, _, _, _, _, _, _, _]) h dX1_statesBehindGap_15 (Nat.le_of_ble_eq_true rfl) rfl rfl ?_
        refine g_iconst h (nI 0) dX1_statesBehindGap_17 (by decide) ?_
        refine g_istore (vs' := [_, _, _, _, _, _, _, _, _]) h dX1_statesBehindGap_18 (Nat.le_of_ble_eq_true rfl) rfl rfl ?_
        have L20 : ∀ (m0 : Nat) (u : Nat) (b2 : Int64), (u ≤ lastS so y + 1) → (BL (lastS so y) b2) → (∀ j, j < 64 → bt b j = true → bt b2 j = true) → (∀ v, v < u → bt b v = true → bt b2 (nx so x y v (nI x)) = true ∧ bt b2 (nx so x y v (nI y)) = true ∧ bt b2 (nx so x y v (-1)) = true) → (∀ P : Nat → Prop, (∀ j, j ≤ lastS so y → bt S j = true → P j) → clo so x y P → ∀ j, j ≤ lastS so y → bt b2 j = true → P j) → (lastS so y + 1 - u) < m0 → G X E 9 (AD σ) (QF X E σ (fun o s => ∃ b, o = some (.long b) ∧ s = σ ∧ (BL (lastS so y) b ∧ (∀ j, j < 64 → bt S j = true → bt b j = true) ∧ clo so x y (fun j => bt b j = true) ∧ ∀ P : Nat → Prop, (∀ j, j ≤ lastS so y → bt S j = true → P j) → clo so x y P → ∀ j, j ≤ lastS so y → bt b j = true → P j)) rm_X1_statesBehindGap) 0 0 20 [some (.ref a), some (.long S), none, some (.long b2), none, some (.int (nI i)), some (.long b), none, some (.int (nI u))] [] σ := by
          intro m0
          induction m0 with
          | zero => intro u b2 _ _ _ _ _ hm0; exact absurd hm0 (Nat.not_lt_zero _)
          | succ m0 ih2 =>
            intro u b2 hu g1 g2 g3 g5 hm0
            refine g_iload h dX1_statesBehindGap_20 rfl ?_
            refine g_aload_n h 0 dX1_statesBehindGap_22 rfl rfl ?_
            refine g_callV h [_] (c_X1_lastState (xL X) E _ h1 hs hx hy) cf_X1_25 cv_X1_lastState dX1_statesBehindGap_23 rfl h1 rfl rfl (Nat.le_of_ble_eq_true rfl) ⟨(Nat.le_of_ble_eq_true rfl), (Nat.le_of_ble_eq_true rfl)⟩ ⟨(Nat.le_of_ble_eq_true rfl), (Nat.le_of_ble_eq_true rfl)⟩ ?_
            refine kk_det ?_
            refine g_icmp_gtN h 86 dX1_statesBehindGap_26 (by decide) (by omega) (by omega) (fun c26_2 => ?_) (fun c26_2 => ?_)
            · skip
              refine g_lload_n h 3 dX1_statesBehindGap_86 rfl rfl ?_
              refine g_lload h dX1_statesBehindGap_87 rfl ?_
              refine g_lcmp h (if b < b2 then 1 else if b2 = b then 0 else -1) dX1_statesBehindGap_89 (rfl) ?_
              refine g_if_ne h 96 dX1_statesBehindGap_90 (by decide) (fun c90_3 => ?_) (fun c90_3 => ?_)
              · skip
                refine g_iinc (vs' := [_, _, _, _, _, _, _, _, _]) h (nI (i + 1)) dX1_statesBehindGap_96 rfl (by first | exact nI_1 _ | rfl) (Nat.le_of_ble_eq_true rfl) rfl rfl ?_
                refine g_goto h 5 dX1_statesBehindGap_99 (by decide) ?_
                refine g_few (vs' := [some (.ref a), some (.long S), none, some (.long b2), none, some (.int (nI (i + 1))), none, none, none]) ⟨Or.inr rfl, Or.inr rfl, Or.inr rfl, Or.inr rfl, Or.inr rfl, Or.inr rfl, Or.inl rfl, Or.inl rfl, Or.inl rfl, trivial⟩ ?_
                refine ih (i + 1) b2 ?_ g1 (fun j hj q => g2 j hj (hb2 j hj q)) (g5) (by omega)
                have hne : b2 ≠ b := fun q => c90_3 (by rw [lcmp0]; exact q)
                have hex : ∃ j, j < 64 ∧ bt b j ≠ true ∧ bt b2 j = true := by
                  refine Classical.byContradiction fun q => hne (bt_ext fun j hj => ?_)
                  cases h8 : bt b j with
                  | true => exact g2 j hj h8
                  | false =>
                    cases h9 : bt b2 j with
                    | false => rfl
                    | true => exact absurd ⟨j, hj, by rw [h8]; decide, h9⟩ q
                obtain ⟨j, hj1, hj2, hj3⟩ := hex
                have hj4 := g1 j hj1 hj3
                have := cnB_lt (p := fun j => decide (j < 64) && bt b j) (q := fun j => decide (j < 64) && bt b2 j) (fun j q => by simp only [Bool.and_eq_true, decide_eq_true_eq] at q ⊢; exact ⟨q.1, g2 j q.1 q.2⟩) (lastS so y + 1) j (by omega) (by simp [hj1, hj2]) (by simp [hj1, hj3])
                omega
              · skip
                refine g_goto h 102 dX1_statesBehindGap_93 (by decide) ?_
                refine g_lload_n h 3 dX1_statesBehindGap_102 rfl rfl ?_
                exact g_lret h hr dX1_statesBehindGap_103 (⟨b2, rfl, rfl, g1, fun j hj q => g2 j hj (hb2 j hj q), by have e9 := lcmp0.mp c90_3; subst e9; exact fun v hv q => g3 v (by omega) q, g5⟩) (Nat.le_of_ble_eq_true rfl) (Nat.le_of_ble_eq_true rfl)
            · skip
              refine g_lload_n h 3 dX1_statesBehindGap_29 rfl rfl ?_
              refine g_iload h dX1_statesBehindGap_30 rfl ?_
              refine g_callSN h [] (c_X5_hasBit (xL X) E _ b2 (b := u) (by omega)) cf_X1_29 h.2.2.2.2.1.2.2.2.1.2.2.2.2.1 cs_X5_hasBit dX1_statesBehindGap_32 rfl rfl (Nat.le_of_ble_eq_true rfl) ⟨(Nat.le_of_ble_eq_true rfl), (Nat.le_of_ble_eq_true rfl)⟩ ⟨(Nat.le_of_ble_eq_true rfl), (Nat.le_of_ble_eq_true rfl)⟩ ?_
              refine kk_det ?_
              refine g_if_eqB h 80 dX1_statesBehindGap_35 (by decide) (fun c35_4 => ?_) (fun c35_4 => ?_)
              · skip
                refine g_iinc (vs' := [_, _, _, _, _, _, _, _, _]) h (nI (u + 1)) dX1_statesBehindGap_80 rfl (by first | exact nI_1 _ | rfl) (Nat.le_of_ble_eq_true rfl) rfl rfl ?_
                refine g_goto h 20 dX1_statesBehindGap_83 (by decide) ?_
                refine ih2 (u + 1) _ (by omega) g1 g2 ?_ g5 (by omega)
                intro v hv q
                rcases Nat.lt_or_ge v u with e | e
                · exact g3 v e q
                · obtain rfl : v = u := by omega
                  exact absurd (g2 v (by omega) q) c35_4
              · skip
                refine g_lload_n h 3 dX1_statesBehindGap_38 rfl rfl ?_
                refine g_lconst h 1 dX1_statesBehindGap_39 (by decide) ?_
                refine g_aload_n h 0 dX1_statesBehindGap_40 rfl rfl ?_
                refine g_iload h dX1_statesBehindGap_41 rfl ?_
                refine g_aload_n h 0 dX1_statesBehindGap_43 rfl rfl ?_
                refine g_get h 1 fa_X1_15 dX1_statesBehindGap_44 h1 rfl ?_
                refine g_callV h [_, _] (c_X1_next (xL X) E _ h1 hs hx hy (st := u) (by omega) (nI x)) cf_X1_54 cv_X1_next dX1_statesBehindGap_47 rfl h1 rfl rfl (Nat.le_of_ble_eq_true rfl) ⟨(Nat.le_of_ble_eq_true rfl), (Nat.le_of_ble_eq_true rfl)⟩ ⟨(Nat.le_of_ble_eq_true rfl), (Nat.le_of_ble_eq_true rfl)⟩ ?_
                refine kk_det ?_
                refine g_lshl h dX1_statesBehindGap_50 ?_
                refine g_lor h dX1_statesBehindGap_51 ?_
                refine g_lstore_n (vs' := [_, _, _, _, _, _, _, _, _]) h 3 dX1_statesBehindGap_52 rfl (Nat.le_of_ble_eq_true rfl) rfl rfl ?_
                refine g_lload_n h 3 dX1_statesBehindGap_53 rfl rfl ?_
                refine g_lconst h 1 dX1_statesBehindGap_54 (by decide) ?_
                refine g_aload_n h 0 dX1_statesBehindGap_55 rfl rfl ?_
                refine g_iload h dX1_statesBehindGap_56 rfl ?_
                refine g_aload_n h 0 dX1_statesBehindGap_58 rfl rfl ?_
                refine g_get h 2 fa_X1_18 dX1_statesBehindGap_59 h1 rfl ?_
                refine g_callV h [_, _] (c_X1_next (xL X) E _ h1 hs hx hy (st := u) (by omega) (nI y)) cf_X1_54 cv_X1_next dX1_statesBehindGap_62 rfl h1 rfl rfl (Nat.le_of_ble_eq_true rfl) ⟨(Nat.le_of_ble_eq_true rfl), (Nat.le_of_ble_eq_true rfl)⟩ ⟨(Nat.le_of_ble_eq_true rfl), (Nat.le_of_ble_eq_true rfl)⟩ ?_
                refine kk_det ?_
                refine g_lshl h dX1_statesBehindGap_65 ?_
                refine g_lor h dX1_statesBehindGap_66 ?_
                refine g_lstore_n (vs' := [_, _, _, _, _, _, _, _, _]) h 3 dX1_statesBehindGap_67 rfl (Nat.le_of_ble_eq_true rfl) rfl rfl ?_
                refine g_lload_n h 3 dX1_statesBehindGap_68 rfl rfl ?_
                refine g_lconst h 1 dX1_statesBehindGap_69 (by decide) ?_
                refine g_aload_n h 0 dX1_statesBehindGap_70 rfl rfl ?_
                refine g_iload h dX1_statesBehindGap_71 rfl ?_
                refine g_iconst h (-1) dX1_statesBehindGap_73 (by decide) ?_
                refine g_callV h [_, _] (c_X1_next (xL X) E _ h1 hs hx hy (st := u) (by omega) (-1)) cf_X1_54 cv_X1_next dX1_statesBehindGap_74 rfl h1 rfl rfl (Nat.le_of_ble_eq_true rfl) ⟨(Nat.le_of_ble_eq_true rfl), (Nat.le_of_ble_eq_true rfl)⟩ ⟨(Nat.le_of_ble_eq_true rfl), (Nat.le_of_ble_eq_true rfl)⟩ ?_
                refine kk_det ?_
                refine g_lshl h dX1_statesBehindGap_77 ?_
                refine g_lor h dX1_statesBehindGap_78 ?_
                refine g_lstore_n (vs' := [_, _, _, _, _, _, _, _, _]) h 3 dX1_statesBehindGap_79 rfl (Nat.le_of_ble_eq_true rfl) rfl rfl ?_
                refine g_iinc (vs' := [_, _, _, _, _, _, _, _, _]) h (nI (u + 1)) dX1_statesBehindGap_80 rfl (by first | exact nI_1 _ | rfl) (Nat.le_of_ble_eq_true rfl) rfl rfl ?_
                refine g_goto h 20 dX1_statesBehindGap_83 (by decide) ?_
                have k1 : nx so x y u (nI x) ≤ lastS so y := nx_le (by omega)
                have k2 : nx so x y u (nI y) ≤ lastS so y := nx_le (by omega)
                have k3 : nx so x y u (-1) ≤ lastS so y := nx_le (by omega)
                refine ih2 (u + 1) _ (by omega) ?_ ?_ ?_ ?_ (by omega)
                · intro j hj q
                  simp only [bt_or, Bool.or_eq_true] at q
                  rcases q with ((q | q) | q) | q
                  · exact g1 j hj q
                  · rw [bt_shl (by omega) hj, decide_eq_true_eq] at q; rw [q]; exact nx_le (by omega)
                  · rw [bt_shl (by omega) hj, decide_eq_true_eq] at q; rw [q]; exact nx_le (by omega)
                  · rw [bt_shl (by omega) hj, decide_eq_true_eq] at q; rw [q]; exact nx_le (by omega)
                · intro j hj q
                  simp only [bt_or, Bool.or_eq_true]
                  exact Or.inl (Or.inl (Or.inl (g2 j hj q)))
                · intro v hv q
                  have k1 : nx so x y v (nI x) ≤ lastS so y := nx_le (by omega)
                  have k2 : nx so x y v (nI y) ≤ lastS so y := nx_le (by omega)
                  have k3 : nx so x y v (-1) ≤ lastS so y := nx_le (by omega)
                  simp only [bt_or, Bool.or_eq_true]
                  rcases Nat.lt_or_ge v u with e | e
                  · obtain ⟨w1, w2, w3⟩ := g3 v e q
                    exact ⟨Or.inl (Or.inl (Or.inl w1)), Or.inl (Or.inl (Or.inl w2)), Or.inl (Or.inl (Or.inl w3))⟩
                  · obtain rfl : v = u := by omega
                    refine ⟨Or.inl (Or.inl (Or.inr ?_)), Or.inl (Or.inr ?_), Or.inr ?_⟩
                    · rw [bt_shl (by omega) (by omega)]; simp
                    · rw [bt_shl (by omega) (by omega)]; simp
                    · rw [bt_shl (by omega) (by omega)]; simp
                · intro P q1 q2 j hj q
                  simp only [bt_or, Bool.or_eq_true] at q
                  have hu := g5 P q1 q2 u (by omega) c35_4
                  obtain ⟨w1, w2, w3⟩ := q2 u (by omega) hu
                  have k1 : nx so x y u (nI x) ≤ lastS so y := nx_le (by omega)
                  have k2 : nx so x y u (nI y) ≤ lastS so y := nx_le (by omega)
                  have k3 : nx so x y u (-1) ≤ lastS so y := nx_le (by omega)
                  rcases q with ((q | q) | q) | q
                  · exact g5 P q1 q2 j hj q
                  · rw [bt_shl (by omega) (by omega), decide_eq_true_eq] at q; rw [q]; exact w1
                  · rw [bt_shl (by omega) (by omega), decide_eq_true_eq] at q; rw [q]; exact w2
                  · rw [bt_shl (by omega) (by omega), decide_eq_true_eq] at q; rw [q]; exact w3
        exact L20 (lastS so y + 2) 0 b (by omega) hb1 (fun _ _ q => q) (fun v hv => absurd hv (Nat.not_lt_zero _)) hb5 (by omega)
  exact L5 (lastS so y + 3) 0 S (Nat.zero_le _) hS (fun _ _ q => q) (fun P q1 _ j hj q2 => q1 j hj q2) (by omega)
end
section
/-! a condition's judgement as numbers over what was heard (own work) -/
def mN (c : Nat) (h : Nat → Int32) : Nat → Nat
  | 0 => 0
  | n + 1 => mN c h n + (if h n = nI c then 1 else 0)
def gp (h : Nat → Int32) : Nat → Prop
  | 0 => False
  | n + 1 => gp h n ∨ h n = -1
def gaY (y : Nat) (h : Nat → Int32) : Nat → Prop
  | 0 => False
  | n + 1 => h n = -1 ∨ (h n ≠ nI y ∧ gaY y h n)
def ahd (h : Nat → Int32) (n : Nat) : Int32 := if 0 < n then h (n - 1) else -2
def hel (so x y : Nat) (h : Nat → Int32) : Nat → Prop
  | 0 => True
  | n + 1 => hel so x y h n ∧ (h n = nI x → (so = 2 → x ≠ y ∧ (0 < mN y h n ∨ gp h n)) ∧ (so = 5 → x ≠ y ∧ (ahd h n = nI y ∨ ahd h n = -1)))
def bar (so x y : Nat) (h : Nat → Int32) : Nat → Prop
  | 0 => True
  | n + 1 => bar so x y h n ∧ (h n = nI y → so = 6 → mN x h n = 0) ∧ (h n = nI x → so = 5 → ahd h n = nI y)
def opn (x y : Nat) (h : Nat → Int32) : Nat → Prop
  | 0 => False
  | n + 1 => opn x y h n ∨ ((h n = -1 ∨ h n = nI x) ∧ mN y h n = 0)
def FS (so x y : Nat) (h : Nat → Int32) (n s : Nat) : Prop :=
  (so = 0 ∨ so = 4) ∧ ((s = 0 ∧ mN x h n = 0) ∨ (s = 1 ∧ (0 < mN x h n ∨ gp h n))) ∨
  so = 1 ∧ (min (mN x h n) (y + 1) ≤ s ∧ s ≤ y + 1 ∧ (gp h n ∨ s = min (mN x h n) (y + 1))) ∨
  so = 2 ∧ ((s = 0 ∧ mN x h n = 0 ∧ mN y h n = 0) ∨ (s = 1 ∧ x ≠ y ∧ hel so x y h n ∧ (0 < mN y h n ∨ gp h n)) ∨ (s = 2 ∧ opn x y h n)) ∨
  so = 3 ∧ ((s = 0 ∧ mN x h n = 0 ∧ mN y h n = 0) ∨ (s = 1 ∧ x ≠ y ∧ mN y h n = 0 ∧ (0 < mN x h n ∨ gp h n)) ∨ (s = 2 ∧ x ≠ y ∧ mN x h n = 0 ∧ (0 < mN y h n ∨ gp h n)) ∨ (s = 3 ∧ (0 < mN x h n ∨ gp h n) ∧ (0 < mN y h n ∨ gp h n))) ∨
  so = 5 ∧ ((s = 0 ∧ hel so x y h n ∧ ahd h n ≠ nI y) ∨ (s = 1 ∧ x ≠ y ∧ hel so x y h n ∧ (ahd h n = nI y ∨ ahd h n = -1)) ∨ (s = 2 ∧ (gp h n ∨ ¬ bar so x y h n))) ∨
  so = 6 ∧ ((s = 0 ∧ mN x h n = 0) ∨ (s = 1 ∧ ((0 < mN x h n ∧ bar so x y h n) ∨ (mN x h n = 0 ∧ gaY y h n))) ∨ (s = 2 ∧ (gp h n ∨ ¬ bar so x y h n)))
section AX
variable {x y : Nat} {h : Nat → Int32}
theorem a_mx_hel {so : Nat} : ∀ {n}, mN x h n = 0 → hel so x y h n
  | 0, _ => trivial
  | n + 1, e => by
    have ih := @a_mx_hel so n
    unfold mN at e
    unfold hel
    by_cases c : h n = nI x
    · rw [if_pos c] at e; omega
    · exact ⟨ih (by omega), fun q => absurd q c⟩
theorem a_hel2 : ∀ {n}, hel 2 x y h n → mN y h n = 0 → ¬ gp h n → mN x h n = 0
  | 0, _, _, _ => rfl
  | n + 1, e, e1, e2 => by
    have ih := @a_hel2 n
    unfold mN at e1 ⊢
    unfold hel at e
    unfold gp at e2
    grind
theorem a_opn : ∀ {n}, 0 < mN x h n → mN y h n = 0 → opn x y h n
  | 0, e, _ => by unfold mN at e; omega
  | n + 1, e, e1 => by
    have ih := @a_opn n
    unfold mN at e e1
    unfold opn
    grind
theorem a_ahd : ∀ {n}, ahd h n = nI y → y < 100 → 0 < mN y h n
  | 0, e, hy => by
    unfold ahd at e
    rw [if_neg (by omega)] at e
    exfalso
    have : ∀ y, y < 100 → (-2 : Int32) ≠ nI y := by decide +kernel
    exact this y hy e
  | n + 1, e, _ => by
    unfold ahd at e
    rw [if_pos (by omega), Nat.add_sub_cancel] at e
    unfold mN
    rw [if_pos e]
    omega
theorem a_hel5 : ∀ {n}, hel 5 x x h n → mN x h n = 0
  | 0, _ => rfl
  | n + 1, e => by
    have ih := @a_hel5 n
    unfold hel at e
    unfold mN
    grind
theorem a_hel2x : ∀ {n}, hel 2 x x h n → mN x h n = 0
  | 0, _ => rfl
  | n + 1, e => by
    have ih := @a_hel2x n
    unfold hel at e
    unfold mN
    grind
theorem a_barx (hx : x < 100) : ∀ {n}, bar 5 x x h n → mN x h n = 0
  | 0, _ => rfl
  | n + 1, e => by
    have ih := @a_barx hx n
    have ha := @a_ahd x h n
    unfold bar at e
    unfold mN
    grind
theorem a_bar5 (hx : x < 100) : ∀ {n}, bar 5 x y h n → hel 5 x y h n
  | 0, _ => trivial
  | n + 1, e => by
    by_cases q : x = y
    · subst q
      exact a_mx_hel (a_barx hx e)
    · have ih := @a_bar5 hx n
      unfold bar at e
      unfold hel
      grind
theorem a_bar6 : ∀ {n}, mN x h n = 0 → bar 6 x y h n
  | 0, _ => trivial
  | n + 1, e => by
    have ih := @a_bar6 n
    unfold mN at e
    unfold bar
    grind
theorem a_gaY : ∀ {n}, gaY y h n → gp h n
  | 0, e => e
  | n + 1, e => by
    have ih := @a_gaY n
    unfold gaY at e
    unfold gp
    grind
end AX
theorem mN_s {c n : Nat} {h : Nat → Int32} : mN c h (n + 1) = mN c h n + (if h n = nI c then 1 else 0) := rfl
theorem gp_s {n : Nat} {h : Nat → Int32} : gp h (n + 1) = (gp h n ∨ h n = -1) := rfl
theorem gaY_s {y n : Nat} {h : Nat → Int32} : gaY y h (n + 1) = (h n = -1 ∨ (h n ≠ nI y ∧ gaY y h n)) := rfl
theorem hel_s {so x y n : Nat} {h : Nat → Int32} : hel so x y h (n + 1) = (hel so x y h n ∧ (h n = nI x → (so = 2 → x ≠ y ∧ (0 < mN y h n ∨ gp h n)) ∧ (so = 5 → x ≠ y ∧ (ahd h n = nI y ∨ ahd h n = -1)))) := rfl
theorem bar_s {so x y n : Nat} {h : Nat → Int32} : bar so x y h (n + 1) = (bar so x y h n ∧ (h n = nI y → so = 6 → mN x h n = 0) ∧ (h n = nI x → so = 5 → ahd h n = nI y)) := rfl
theorem opn_s {x y n : Nat} {h : Nat → Int32} : opn x y h (n + 1) = (opn x y h n ∨ ((h n = -1 ∨ h n = nI x) ∧ mN y h n = 0)) := rfl
theorem ex4 {L : Nat} (hL : L = 3) {P : Nat → Prop} : (∃ q, q ≤ L ∧ P q) ↔ (P 0 ∨ P 1 ∨ P 2 ∨ P 3) := by
  subst hL
  constructor
  · rintro ⟨q, h, p⟩
    rcases (show q = 0 ∨ q = 1 ∨ q = 2 ∨ q = 3 by omega) with rfl | rfl | rfl | rfl
    · exact Or.inl p
    · exact Or.inr (Or.inl p)
    · exact Or.inr (Or.inr (Or.inl p))
    · exact Or.inr (Or.inr (Or.inr p))
  · rintro (p | p | p | p)
    · exact ⟨0, by omega, p⟩
    · exact ⟨1, by omega, p⟩
    · exact ⟨2, by omega, p⟩
    · exact ⟨3, by omega, p⟩
theorem FS_line {so x y n : Nat} {h : Nat → Int32} (hs : so < 7) (hx : x < 100) (hy : y < 100) (hl : h n ≠ -1) : ∀ j, j ≤ lastS so y → ((∃ q, q ≤ lastS so y ∧ FS so x y h n q ∧ nx so x y q (h n) = j) ↔ FS so x y h (n + 1) j) := by
  intro j hj
  have inj : nI x = nI y ↔ x = y := nI_eq (by omega) (by omega)
  have e1 : ahd h (n + 1) = h n := by unfold ahd; rw [if_pos (by omega), Nat.add_sub_cancel]
  rcases (show so = 0 ∨ so = 1 ∨ so = 2 ∨ so = 3 ∨ so = 4 ∨ so = 5 ∨ so = 6 by omega) with rfl | rfl | rfl | rfl | rfl | rfl | rfl
  · refine (ex4 (show lastS 0 y = 3 from rfl)).trans ?_
    have hj3 : j ≤ 3 := hj
    simp only [FS, nx, mN_s, gp_s]
    grind
  · have hL : lastS 1 y = y + 1 := rfl
    rw [hL] at hj ⊢
    simp only [FS, nx, mN_s, gp_s, hl, or_false]
    by_cases c : h n = nI x
    · simp only [if_pos c, c, true_and, if_true]
      constructor
      · rintro ⟨q, hq, hf, e⟩
        grind
      · intro hf
        by_cases g : gp h n
        · by_cases e : j = y + 1
          · refine ⟨y + 1, by omega, ?_, ?_⟩ <;> grind
          · refine ⟨j - 1, by omega, ?_, ?_⟩ <;> grind
        · refine ⟨min (mN x h n) (y + 1), by omega, ?_, ?_⟩ <;> grind
    · simp only [if_neg c, c, false_and, if_false, Nat.add_zero]
      constructor
      · rintro ⟨q, hq, hf, e⟩
        grind
      · intro hf
        exact ⟨j, hj, by grind, by grind⟩
  · refine (ex4 (show lastS 2 y = 3 from rfl)).trans ?_
    have hj3 : j ≤ 3 := hj
    have k1 := @a_hel2 x y h n
    have k2 := @a_mx_hel x y h 2 n
    have k3 := @a_opn x y h n
    have k4 : x = y → mN x h n = mN y h n := fun e => by rw [e]
    simp only [FS, nx, mN_s, gp_s, hel_s, opn_s]
    grind
  · refine (ex4 (show lastS 3 y = 3 from rfl)).trans ?_
    have hj3 : j ≤ 3 := hj
    have k4 : x = y → mN x h n = mN y h n := fun e => by rw [e]
    by_cases c1 : h n = nI x <;> by_cases c2 : h n = nI y
    · simp only [FS, nx, mN_s, gp_s, if_pos c1, if_pos c2, Nat.reduceOr, hl]
      grind
    · simp only [FS, nx, mN_s, gp_s, if_pos c1, if_neg c2, Nat.reduceOr, hl]
      grind
    · simp only [FS, nx, mN_s, gp_s, if_neg c1, if_pos c2, Nat.reduceOr, hl]
      grind
    · simp only [FS, nx, mN_s, gp_s, if_neg c1, if_neg c2, Nat.reduceOr, hl]
      grind
  · refine (ex4 (show lastS 4 y = 3 from rfl)).trans ?_
    have hj3 : j ≤ 3 := hj
    simp only [FS, nx, mN_s, gp_s]
    grind
  · refine (ex4 (show lastS 5 y = 3 from rfl)).trans ?_
    have hj3 : j ≤ 3 := hj
    have k1 := @a_bar5 x y h hx n
    have k2 := @a_mx_hel x y h 5 n
    have k3 : x = y → hel 5 x y h n → mN x h n = 0 := fun e q => by subst e; exact a_hel5 q
    have k5 : x = y → bar 5 x y h n → mN x h n = 0 := fun e q => by subst e; exact a_barx hx q
    have k4 : x = y → mN x h n = mN y h n := fun e => by rw [e]
    have k6 := @a_ahd y h n
    simp only [FS, nx, e1, mN_s, gp_s, hel_s, bar_s]
    grind
  · refine (ex4 (show lastS 6 y = 3 from rfl)).trans ?_
    have hj3 : j ≤ 3 := hj
    have k1 := @a_bar6 x y h n
    have k2 := @a_gaY y h n
    have k4 : x = y → mN x h n = mN y h n := fun e => by rw [e]
    simp only [FS, nx, mN_s, gp_s, bar_s, gaY_s]
    grind

theorem clo3 {so x y : Nat} (hL : lastS so y = 3) {P : Nat → Prop} (h : ∀ s, s ≤ 3 → P s → P (nx so x y s (nI x)) ∧ P (nx so x y s (nI y)) ∧ P (nx so x y s (-1))) : clo so x y P := fun s hs => h s (by omega)
/-- what a gap makes of the states -/
theorem FS_gap {so x y n : Nat} {h : Nat → Int32} (hs : so < 7) (hx : x < 100) (hy : y < 100) (hl : h n = -1) {Bb : Nat → Prop} (h1 : ∀ j, j ≤ lastS so y → FS so x y h n j → Bb j) (h2 : clo so x y Bb) (h3 : ∀ P : Nat → Prop, (∀ j, j ≤ lastS so y → FS so x y h n j → P j) → clo so x y P → ∀ j, j ≤ lastS so y → Bb j → P j) : ∀ j, j ≤ lastS so y → (Bb j ↔ FS so x y h (n + 1) j) := by
  have inj : nI x = nI y ↔ x = y := nI_eq (by omega) (by omega)
  have m1 : ∀ c, c < 100 → (-1 : Int32) ≠ nI c := by decide +kernel
  have m2 := m1 x hx
  have m3 := m1 y hy
  have e1 : ahd h (n + 1) = h n := by unfold ahd; rw [if_pos (by omega), Nat.add_sub_cancel]
  have n1 : ¬ h n = nI x := fun e => m2 (hl ▸ e)
  have n2 : ¬ h n = nI y := fun e => m3 (hl ▸ e)
  have inj2 : nI y = nI x ↔ y = x := nI_eq (by omega) (by omega)
  intro j hj
  rcases (show so = 0 ∨ so = 1 ∨ so = 2 ∨ so = 3 ∨ so = 4 ∨ so = 5 ∨ so = 6 by omega) with rfl | rfl | rfl | rfl | rfl | rfl | rfl
  · have hj3 : j ≤ 3 := hj
    constructor
    · refine h3 _ ?_ (clo3 rfl ?_) j hj
      · intro s hs9
        have hs3 : s ≤ 3 := hs9
        simp only [FS, e1, hl, mN_s, gp_s, if_neg n1, if_neg n2]
        grind
      · intro s hs9
        simp only [FS, nx, e1, hl, mN_s, gp_s, if_neg n1, if_neg n2]
        grind
    · have b0 := h2 0 (Nat.zero_le _)
      have b1 := h2 1 (show 1 ≤ 3 by omega)
      have b2 := h2 2 (show 2 ≤ 3 by omega)
      have c0 := h1 0 (Nat.zero_le _)
      have c1 := h1 1 (show 1 ≤ 3 by omega)
      have c2 := h1 2 (show 2 ≤ 3 by omega)
      have c3 := h1 3 (show 3 ≤ 3 by omega)
      simp only [FS, nx, e1, hl, mN_s, gp_s, if_neg n1, if_neg n2] at b0 b1 b2 c0 c1 c2 c3 ⊢
      grind
  · have hL : lastS 1 y = y + 1 := rfl
    have hst : ∀ q, q ≤ y → nx 1 x y q (nI x) = q + 1 := fun q hq => by simp [nx, hq]
    constructor
    · refine h3 _ ?_ ?_ j hj
      · intro s hs9
        simp only [FS, hl, mN_s, gp_s, if_neg n1]
        grind
      · intro s hs9
        rw [hL] at hs9
        simp only [FS, nx, hl, mN_s, gp_s, if_neg n1]
        grind
    · intro hf
      have hup : ∀ q, q ≤ y → Bb q → Bb (q + 1) := fun q hq hb => by
        have := (h2 q (by rw [hL]; omega) hb).1
        rwa [hst q hq] at this
      have hmin : Bb (min (mN x h n) (y + 1)) := h1 _ (by rw [hL]; omega) (by simp only [FS]; grind)
      have hall : ∀ d, min (mN x h n) (y + 1) + d ≤ y + 1 → Bb (min (mN x h n) (y + 1) + d) := by
        intro d
        induction d with
        | zero => intro _; exact hmin
        | succ d ih => intro hd; exact hup (min (mN x h n) (y + 1) + d) (by omega) (ih (by omega))
      have hge : min (mN x h n) (y + 1) ≤ j := by
        simp only [FS, hl, mN_s, gp_s, if_neg n1] at hf
        grind
      have := hall (j - min (mN x h n) (y + 1)) (by omega)
      rwa [show min (mN x h n) (y + 1) + (j - min (mN x h n) (y + 1)) = j by omega] at this
  · have hj3 : j ≤ 3 := hj
    have k1 := @a_hel2 x y h n
    have k2 := @a_mx_hel x y h 2 n
    have k3 := @a_opn x y h n
    have k5 : x = y → hel 2 x y h n → mN x h n = 0 := fun e q => by subst e; exact a_hel2x q
    have k4 : x = y → mN x h n = mN y h n := fun e => by rw [e]
    constructor
    · refine h3 _ ?_ (clo3 rfl ?_) j hj
      · intro s hs9
        have hs3 : s ≤ 3 := hs9
        simp only [FS, e1, hl, mN_s, gp_s, hel_s, opn_s, if_neg n1, if_neg n2]
        grind
      · intro s hs9
        simp only [FS, nx, e1, hl, mN_s, gp_s, hel_s, opn_s, if_neg n1, if_neg n2]
        grind
    · have b0 := h2 0 (Nat.zero_le _)
      have b1 := h2 1 (show 1 ≤ 3 by omega)
      have b2 := h2 2 (show 2 ≤ 3 by omega)
      have c0 := h1 0 (Nat.zero_le _)
      have c1 := h1 1 (show 1 ≤ 3 by omega)
      have c2 := h1 2 (show 2 ≤ 3 by omega)
      have c3 := h1 3 (show 3 ≤ 3 by omega)
      simp only [FS, nx, e1, hl, mN_s, gp_s, hel_s, opn_s, if_neg n1, if_neg n2] at b0 b1 b2 c0 c1 c2 c3 ⊢
      grind
  · have hj3 : j ≤ 3 := hj
    have k4 : x = y → mN x h n = mN y h n := fun e => by rw [e]
    constructor
    · refine h3 _ ?_ (clo3 rfl ?_) j hj
      · intro s hs9
        have hs3 : s ≤ 3 := hs9
        simp only [FS, e1, hl, mN_s, gp_s, if_neg n1, if_neg n2]
        grind
      · intro s hs9
        simp only [FS, nx, e1, hl, mN_s, gp_s, if_neg n1, if_neg n2]
        rcases (show s = 0 ∨ s = 1 ∨ s = 2 ∨ s = 3 by omega) with rfl | rfl | rfl | rfl <;> (by_cases q : x = y <;> simp [q, inj, inj2, m2, m3] <;> grind)
    · have b0 := h2 0 (Nat.zero_le _)
      have b1 := h2 1 (show 1 ≤ 3 by omega)
      have b2 := h2 2 (show 2 ≤ 3 by omega)
      have c0 := h1 0 (Nat.zero_le _)
      have c1 := h1 1 (show 1 ≤ 3 by omega)
      have c2 := h1 2 (show 2 ≤ 3 by omega)
      have c3 := h1 3 (show 3 ≤ 3 by omega)
      simp only [FS, nx, e1, hl, mN_s, gp_s, if_neg n1, if_neg n2] at b0 b1 b2 c0 c1 c2 c3 ⊢
      grind
  · have hj3 : j ≤ 3 := hj
    constructor
    · refine h3 _ ?_ (clo3 rfl ?_) j hj
      · intro s hs9
        have hs3 : s ≤ 3 := hs9
        simp only [FS, e1, hl, mN_s, gp_s, if_neg n1, if_neg n2]
        grind
      · intro s hs9
        simp only [FS, nx, e1, hl, mN_s, gp_s, if_neg n1, if_neg n2]
        grind
    · have b0 := h2 0 (Nat.zero_le _)
      have b1 := h2 1 (show 1 ≤ 3 by omega)
      have b2 := h2 2 (show 2 ≤ 3 by omega)
      have c0 := h1 0 (Nat.zero_le _)
      have c1 := h1 1 (show 1 ≤ 3 by omega)
      have c2 := h1 2 (show 2 ≤ 3 by omega)
      have c3 := h1 3 (show 3 ≤ 3 by omega)
      simp only [FS, nx, e1, hl, mN_s, gp_s, if_neg n1, if_neg n2] at b0 b1 b2 c0 c1 c2 c3 ⊢
      grind
  · have hj3 : j ≤ 3 := hj
    have k1 := @a_bar5 x y h hx n
    have k2 := @a_mx_hel x y h 5 n
    have k3 : x = y → hel 5 x y h n → mN x h n = 0 := fun e q => by subst e; exact a_hel5 q
    have k5 : x = y → bar 5 x y h n → mN x h n = 0 := fun e q => by subst e; exact a_barx hx q
    have k4 : x = y → mN x h n = mN y h n := fun e => by rw [e]
    have k6 := @a_ahd y h n
    constructor
    · refine h3 _ ?_ (clo3 rfl ?_) j hj
      · intro s hs9
        have hs3 : s ≤ 3 := hs9
        simp only [FS, e1, hl, mN_s, gp_s, hel_s, bar_s, if_neg n1, if_neg n2]
        grind
      · intro s hs9
        simp only [FS, nx, e1, hl, mN_s, gp_s, hel_s, bar_s, if_neg n1, if_neg n2]
        grind
    · have b0 := h2 0 (Nat.zero_le _)
      have b1 := h2 1 (show 1 ≤ 3 by omega)
      have b2 := h2 2 (show 2 ≤ 3 by omega)
      have c0 := h1 0 (Nat.zero_le _)
      have c1 := h1 1 (show 1 ≤ 3 by omega)
      have c2 := h1 2 (show 2 ≤ 3 by omega)
      have c3 := h1 3 (show 3 ≤ 3 by omega)
      simp only [FS, nx, e1, hl, mN_s, gp_s, hel_s, bar_s, if_neg n1, if_neg n2] at b0 b1 b2 c0 c1 c2 c3 ⊢
      grind
  · have hj3 : j ≤ 3 := hj
    have k1 := @a_bar6 x y h n
    have k2 := @a_gaY y h n
    have k4 : x = y → mN x h n = mN y h n := fun e => by rw [e]
    constructor
    · refine h3 _ ?_ (clo3 rfl ?_) j hj
      · intro s hs9
        have hs3 : s ≤ 3 := hs9
        simp only [FS, e1, hl, mN_s, gp_s, bar_s, gaY_s, if_neg n1, if_neg n2]
        grind
      · intro s hs9
        simp only [FS, nx, e1, hl, mN_s, gp_s, bar_s, gaY_s, if_neg n1, if_neg n2]
        grind
    · have b0 := h2 0 (Nat.zero_le _)
      have b1 := h2 1 (show 1 ≤ 3 by omega)
      have b2 := h2 2 (show 2 ≤ 3 by omega)
      have c0 := h1 0 (Nat.zero_le _)
      have c1 := h1 1 (show 1 ≤ 3 by omega)
      have c2 := h1 2 (show 2 ≤ 3 by omega)
      have c3 := h1 3 (show 3 ≤ 3 by omega)
      simp only [FS, nx, e1, hl, mN_s, gp_s, bar_s, gaY_s, if_neg n1, if_neg n2] at b0 b1 b2 c0 c1 c2 c3 ⊢
      grind
end
section
/-! a condition judges a row (own work; walks by program) -/
def canK (so x y : Nat) (h : Nat → Int32) (n : Nat) : Prop := (so = 0 ∧ mN x h n = 0) ∨ (so = 1 ∧ mN x h n ≤ y) ∨ (so = 2 ∧ hel so x y h n) ∨ (so = 3 ∧ (mN x h n = 0 ∨ mN y h n = 0)) ∨ (so = 4 ∧ (0 < mN x h n ∨ gp h n)) ∨ (so = 5 ∧ hel so x y h n) ∨ (so = 6 ∧ bar so x y h n)
def canB (so x y : Nat) (h : Nat → Int32) (n : Nat) : Prop := (so = 0 ∧ (gp h n ∨ 0 < mN x h n)) ∨ (so = 1 ∧ (gp h n ∨ y < mN x h n)) ∨ (so = 2 ∧ opn x y h n) ∨ (so = 3 ∧ (gp h n ∨ ¬ (mN x h n = 0 ∨ mN y h n = 0))) ∨ (so = 4 ∧ mN x h n = 0) ∨ ((so = 5 ∨ so = 6) ∧ (gp h n ∨ ¬ bar so x y h n))
noncomputable def jdV (so x y : Nat) (h : Nat → Int32) (n : Nat) : Nat := cif (canB so x y h n) (cif (canK so x y h n) 1 2) 0
theorem jdV_0 {so x y n : Nat} {h : Nat → Int32} (b : ¬ canB so x y h n) : jdV so x y h n = 0 := cif_f b
theorem jdV_1 {so x y n : Nat} {h : Nat → Int32} (b : canB so x y h n) (k : canK so x y h n) : jdV so x y h n = 1 := by unfold jdV; rw [cif_t b, cif_t k]
theorem jdV_2 {so x y n : Nat} {h : Nat → Int32} (b : canB so x y h n) (k : ¬ canK so x y h n) : jdV so x y h n = 2 := by unfold jdV; rw [cif_t b, cif_f k]
theorem FS_0 {so x y j : Nat} {h : Nat → Int32} (hs : so < 7) (hy : y < 100) (hj : j ≤ lastS so y) : FS so x y h 0 j ↔ j = 0 := by
  have m : ∀ y, y < 100 → (-2 : Int32) ≠ nI y := by decide +kernel
  have m1 := m y hy
  have e : ahd h 0 = -2 := rfl
  rcases (show so = 0 ∨ so = 1 ∨ so = 2 ∨ so = 3 ∨ so = 4 ∨ so = 5 ∨ so = 6 by omega) with rfl | rfl | rfl | rfl | rfl | rfl | rfl <;> simp [FS, mN, gp, hel, opn, bar, gaY, e, m1]
  omega
theorem FS_B {so x y n : Nat} {h : Nat → Int32} (hs : so < 7) (hx : x < 100) : (∃ q, q ≤ lastS so y ∧ FS so x y h n q ∧ brk so y q) ↔ canB so x y h n := by
  rcases (show so = 0 ∨ so = 1 ∨ so = 2 ∨ so = 3 ∨ so = 4 ∨ so = 5 ∨ so = 6 by omega) with rfl | rfl | rfl | rfl | rfl | rfl | rfl
  · refine (ex4 (show lastS 0 y = 3 from rfl)).trans ?_
    simp only [FS, brk, canB]
    grind
  · have hL : lastS 1 y = y + 1 := rfl
    simp only [FS, brk, canB]
    constructor
    · rintro ⟨q, h1, h2, h3⟩
      grind
    · intro h1
      refine ⟨y + 1, by omega, ?_, ?_⟩ <;> grind
  · refine (ex4 (show lastS 2 y = 3 from rfl)).trans ?_
    simp only [FS, brk, canB]
    grind
  · refine (ex4 (show lastS 3 y = 3 from rfl)).trans ?_
    simp only [FS, brk, canB]
    grind
  · refine (ex4 (show lastS 4 y = 3 from rfl)).trans ?_
    simp only [FS, brk, canB]
    grind
  · refine (ex4 (show lastS 5 y = 3 from rfl)).trans ?_
    simp only [FS, brk, canB]
    grind
  · refine (ex4 (show lastS 6 y = 3 from rfl)).trans ?_
    simp only [FS, brk, canB]
    grind
theorem FS_K {so x y n : Nat} {h : Nat → Int32} (hs : so < 7) (hx : x < 100) : (∃ q, q ≤ lastS so y ∧ FS so x y h n q ∧ ¬ brk so y q) ↔ canK so x y h n := by
  have k4 : x = y → mN x h n = mN y h n := fun e => by rw [e]
  rcases (show so = 0 ∨ so = 1 ∨ so = 2 ∨ so = 3 ∨ so = 4 ∨ so = 5 ∨ so = 6 by omega) with rfl | rfl | rfl | rfl | rfl | rfl | rfl
  · refine (ex4 (show lastS 0 y = 3 from rfl)).trans ?_
    simp only [FS, brk, canK]
    grind
  · have hL : lastS 1 y = y + 1 := rfl
    simp only [FS, brk, canK]
    constructor
    · rintro ⟨q, h1, h2, h3⟩
      grind
    · intro h1
      refine ⟨min (mN x h n) (y + 1), by omega, ?_, ?_⟩ <;> grind
  · refine (ex4 (show lastS 2 y = 3 from rfl)).trans ?_
    have k1 := @a_hel2 x y h n
    have k2 := @a_mx_hel x y h 2 n
    have k5 : x = y → hel 2 x y h n → mN x h n = 0 := fun e q => by subst e; exact a_hel2x q
    simp only [FS, brk, canK]
    grind
  · refine (ex4 (show lastS 3 y = 3 from rfl)).trans ?_
    simp only [FS, brk, canK]
    grind
  · refine (ex4 (show lastS 4 y = 3 from rfl)).trans ?_
    simp only [FS, brk, canK]
    grind
  · refine (ex4 (show lastS 5 y = 3 from rfl)).trans ?_
    have k3 : x = y → hel 5 x y h n → mN x h n = 0 := fun e q => by subst e; exact a_hel5 q
    have k6 := @a_ahd y h n
    have k2 := @a_mx_hel x y h 5 n
    simp only [FS, brk, canK]
    grind
  · refine (ex4 (show lastS 6 y = 3 from rfl)).trans ?_
    have k1 := @a_bar6 x y h n
    simp only [FS, brk, canK]
    grind
theorem ex_no {i : Nat} {P : Nat → Prop} (h : ¬ P i) : (∃ q, q < i ∧ P q) ↔ ∃ q, q < i + 1 ∧ P q :=
  ⟨fun ⟨q, q1, q2⟩ => ⟨q, by omega, q2⟩, fun ⟨q, q1, q2⟩ => ⟨q, by
    rcases Nat.lt_or_ge q i with e | e
    · exact e
    · exact absurd ((show q = i by omega) ▸ q2) h, q2⟩⟩
theorem bI_ne {P : Prop} {B : Int32} (hB : B = bI P) (h : ¬ B = 0) : P := Classical.byContradiction fun q => h (hB.trans (bI_f q))
theorem bI_eq {P : Prop} {B : Int32} (hB : B = bI P) (h : B = 0) : ¬ P := fun q => by rw [hB, bI_t q] at h; exact absurd h (by decide)
abbrev rm_X1_statesBehind : Room := { frames := 2, cells := 0, slots := 0, locals := 50 }
set_option maxRecDepth 100000 in
set_option maxHeartbeats 4000000 in
theorem c_X1_statesBehind (l : Launch) (E : EnvD) (σ : Sto) {a so x y : Nat} (h1 : σ.1 a = some (cO 1 [.int (nI so), .int (nI x), .int (nI y)])) (hs : so < 7) (hx : x < 100) (hy : y < 100) (hy1 : so = 1 → y ≤ 40) {r n : Nat} {g : Nat → Int32} (hr2 : RowIs E σ r n g) (hn40 : n ≤ 40) : CC l yX1_statesBehind cX1_statesBehind 6 (some .long) rm_X1_statesBehind E [.ref a, .ref r] σ (fun o s => ∃ b, o = some (.long b) ∧ s = σ ∧ (BL (lastS so y) b ∧ ∀ j, j ≤ lastS so y → (bt b j = true ↔ FS so x y g n j))) := by
  refine cc_of (vs := [_, _, _, _, _, _]) (by decide) (Nat.le_of_ble_eq_true rfl) rfl ?_
  intro X h hr hn
  refine g_lconst h 1 dX1_statesBehind_0 (by decide) ?_
  refine g_lstore_n (vs' := [_, _, _, _, _, _]) h 2 dX1_statesBehind_1 rfl (Nat.le_of_ble_eq_true rfl) rfl rfl ?_
  refine g_iconst h (nI 0) dX1_statesBehind_2 (by decide) ?_
  refine g_istore (vs' := [_, _, _, _, _, _]) h dX1_statesBehind_3 (Nat.le_of_ble_eq_true rfl) rfl rfl ?_
  have hL := lastS_le hy1
  have L5 : ∀ (m0 : Nat) (i : Nat) (b : Int64), (i ≤ n) → (BL (lastS so y) b) → (∀ j, j ≤ lastS so y → (bt b j = true ↔ FS so x y g i j)) → (n - i) < m0 → G X E 6 (AD σ) (QF X E σ (fun o s => ∃ b, o = some (.long b) ∧ s = σ ∧ (BL (lastS so y) b ∧ ∀ j, j ≤ lastS so y → (bt b j = true ↔ FS so x y g n j))) rm_X1_statesBehind) 0 0 5 [some (.ref a), some (.ref r), some (.long b), none, some (.int (nI i)), none] [] σ := by
    intro m0
    induction m0 with
    | zero => intro i b _ _ _ hm0; exact absurd hm0 (Nat.not_lt_zero _)
    | succ m0 ih =>
      intro i b hi hb1 hb2 hm0
      refine g_iload h dX1_statesBehind_5 rfl ?_
      refine g_aload_n h 1 dX1_statesBehind_7 rfl rfl ?_
      refine g_get h 1 fa_X1_37 dX1_statesBehind_8 hr2.1 rfl ?_
      refine g_icmp_geN h 50 dX1_statesBehind_11 (by decide) (by omega) (by omega) (fun c11_1 => ?_) (fun c11_1 => ?_)
      · skip
        obtain rfl : n = i := by omega
        refine g_lload_n h 2 dX1_statesBehind_50 rfl rfl ?_
        exact g_lret h hr dX1_statesBehind_51 (⟨b, rfl, rfl, hb1, hb2⟩) (Nat.le_of_ble_eq_true rfl) (Nat.le_of_ble_eq_true rfl)
      · skip
        refine g_aload_n h 1 dX1_statesBehind_14 rfl rfl ?_
        refine g_iload h dX1_statesBehind_15 rfl ?_
        refine g_callV h [] (r_at (xL X) hr2 hn40 (nI i)) cf_X1_42 cv_X2_at dX1_statesBehind_17 rfl hr2.1 rfl rfl (Nat.le_of_ble_eq_true rfl) ⟨(Nat.le_of_ble_eq_true rfl), (Nat.le_of_ble_eq_true rfl)⟩ ⟨(Nat.le_of_ble_eq_true rfl), (Nat.le_of_ble_eq_true rfl)⟩ ?_
        refine kk_det ?_
        refine g_top (atV_in (by omega) (by omega)) ?_
        refine g_istore (vs' := [_, _, _, _, _, _]) h dX1_statesBehind_20 (Nat.le_of_ble_eq_true rfl) rfl rfl ?_
        refine g_iload h dX1_statesBehind_22 rfl ?_
        refine g_iconst h (-1) dX1_statesBehind_24 (by decide) ?_
        refine g_icmp_ne h 36 dX1_statesBehind_25 (by decide) (fun c25_2 => ?_) (fun c25_2 => ?_)
        · skip
          refine g_aload_n h 0 dX1_statesBehind_36 rfl rfl ?_
          refine g_lload_n h 2 dX1_statesBehind_37 rfl rfl ?_
          refine g_iload h dX1_statesBehind_38 rfl ?_
          refine g_callV h [] (c_X1_statesBehindLine (xL X) E _ h1 hs hx hy hy1 b (g i)) cf_X1_50 cv_X1_statesBehindLine dX1_statesBehind_40 rfl h1 rfl rfl (Nat.le_of_ble_eq_true rfl) ⟨(Nat.le_of_ble_eq_true rfl), (Nat.le_of_ble_eq_true rfl)⟩ ⟨(Nat.le_of_ble_eq_true rfl), (Nat.le_of_ble_eq_true rfl)⟩ ?_
          refine kk_exl (fun b2 hb3 => ?_)
          refine g_lstore_n (vs' := [_, _, _, _, _, _]) h 2 dX1_statesBehind_43 rfl (Nat.le_of_ble_eq_true rfl) rfl rfl ?_
          refine g_iinc (vs' := [_, _, _, _, _, _]) h (nI (i + 1)) dX1_statesBehind_44 rfl (by first | exact nI_1 _ | rfl) (Nat.le_of_ble_eq_true rfl) rfl rfl ?_
          refine g_goto h 5 dX1_statesBehind_47 (by decide) ?_
          refine g_few (vs' := [some (.ref a), some (.ref r), some (.long b2), none, some (.int (nI (i + 1))), none]) ⟨Or.inr rfl, Or.inr rfl, Or.inr rfl, Or.inr rfl, Or.inr rfl, Or.inl rfl, trivial⟩ ?_
          obtain ⟨k1, k2⟩ := hb3
          refine ih (i + 1) b2 (by omega) k1 ?_ (by omega)
          intro j hj
          rw [k2 j hj, ← FS_line hs hx hy c25_2 j hj]
          constructor
          · rintro ⟨q, q1, q2, q3⟩
            exact ⟨q, q1, (hb2 q q1).mp q2, q3⟩
          · rintro ⟨q, q1, q2, q3⟩
            exact ⟨q, q1, (hb2 q q1).mpr q2, q3⟩
        · skip
          refine g_aload_n h 0 dX1_statesBehind_28 rfl rfl ?_
          refine g_lload_n h 2 dX1_statesBehind_29 rfl rfl ?_
          refine g_callV h [] (c_X1_statesBehindGap (xL X) E _ h1 hs hx hy hy1 b hb1) cf_X1_46 cv_X1_statesBehindGap dX1_statesBehind_30 rfl h1 rfl rfl (Nat.le_of_ble_eq_true rfl) ⟨(Nat.le_of_ble_eq_true rfl), (Nat.le_of_ble_eq_true rfl)⟩ ⟨(Nat.le_of_ble_eq_true rfl), (Nat.le_of_ble_eq_true rfl)⟩ ?_
          refine kk_exl (fun b2 hb3 => ?_)
          refine g_goto h 43 dX1_statesBehind_33 (by decide) ?_
          refine g_lstore_n (vs' := [_, _, _, _, _, _]) h 2 dX1_statesBehind_43 rfl (Nat.le_of_ble_eq_true rfl) rfl rfl ?_
          refine g_iinc (vs' := [_, _, _, _, _, _]) h (nI (i + 1)) dX1_statesBehind_44 rfl (by first | exact nI_1 _ | rfl) (Nat.le_of_ble_eq_true rfl) rfl rfl ?_
          refine g_goto h 5 dX1_statesBehind_47 (by decide) ?_
          refine g_few (vs' := [some (.ref a), some (.ref r), some (.long b2), none, some (.int (nI (i + 1))), none]) ⟨Or.inr rfl, Or.inr rfl, Or.inr rfl, Or.inr rfl, Or.inr rfl, Or.inl rfl, trivial⟩ ?_
          obtain ⟨k1, k2, k3, k4⟩ := hb3
          refine ih (i + 1) b2 (by omega) k1 ?_ (by omega)
          exact FS_gap hs hx hy c25_2 (fun j hj q => k2 j (by omega) ((hb2 j hj).mpr q)) k3 (fun P q1 q2 => k4 P (fun j hj q => q1 j hj ((hb2 j hj).mp q)) q2)
  exact L5 (n + 1) 0 1 (by omega) (fun j hj q => by rw [bt_1 hj, decide_eq_true_eq] at q; omega) (fun j hj => by rw [bt_1 (by omega), decide_eq_true_eq, FS_0 hs hy hj]) (by omega)
abbrev rm_X1_judgement : Room := { frames := 3, cells := 0, slots := 0, locals := 75 }
set_option maxRecDepth 100000 in
set_option maxHeartbeats 4000000 in
theorem c_X1_judgement (l : Launch) (E : EnvD) (σ : Sto) {a so x y : Nat} (h1 : σ.1 a = some (cO 1 [.int (nI so), .int (nI x), .int (nI y)])) (hs : so < 7) (hx : x < 100) (hy : y < 100) (hy1 : so = 1 → y ≤ 40) {r n : Nat} {g : Nat → Int32} (hr2 : RowIs E σ r n g) (hn40 : n ≤ 40) : CC l yX1_judgement cX1_judgement 7 (some .int) rm_X1_judgement E [.ref a, .ref r] σ (fun o s => o = some (.int (nI (jdV so x y g n))) ∧ s = σ) := by
  refine cc_of (vs := [_, _, _, _, _, _, _]) (by decide) (Nat.le_of_ble_eq_true rfl) rfl ?_
  intro X h hr hn
  refine g_aload_n h 0 dX1_judgement_0 rfl rfl ?_
  refine g_aload_n h 1 dX1_judgement_1 rfl rfl ?_
  refine g_callV h [] (c_X1_statesBehind (xL X) E _ h1 hs hx hy hy1 hr2 hn40) cf_X1_21 cv_X1_statesBehind dX1_judgement_2 rfl h1 rfl rfl (Nat.le_of_ble_eq_true rfl) ⟨(Nat.le_of_ble_eq_true rfl), (Nat.le_of_ble_eq_true rfl)⟩ ⟨(Nat.le_of_ble_eq_true rfl), (Nat.le_of_ble_eq_true rfl)⟩ ?_
  refine kk_exl (fun b hb3 => ?_)
  obtain ⟨hb1, hb2⟩ := hb3
  refine g_lstore_n (vs' := [_, _, _, _, _, _, _]) h 2 dX1_judgement_5 rfl (Nat.le_of_ble_eq_true rfl) rfl rfl ?_
  refine g_iconst h (nI 0) dX1_judgement_6 (by decide) ?_
  refine g_istore (vs' := [_, _, _, _, _, _, _]) h dX1_judgement_7 (Nat.le_of_ble_eq_true rfl) rfl rfl ?_
  refine g_iconst h (nI 0) dX1_judgement_9 (by decide) ?_
  refine g_istore (vs' := [_, _, _, _, _, _, _]) h dX1_judgement_10 (Nat.le_of_ble_eq_true rfl) rfl rfl ?_
  refine g_iconst h (nI 0) dX1_judgement_12 (by decide) ?_
  refine g_istore (vs' := [_, _, _, _, _, _, _]) h dX1_judgement_13 (Nat.le_of_ble_eq_true rfl) rfl rfl ?_
  have hL := lastS_le hy1
  have L15 : ∀ (m0 : Nat) (i : Nat) (K : Int32) (B : Int32), (i ≤ lastS so y + 1) → (K = bI (∃ q, q < i ∧ bt b q = true ∧ ¬ brk so y q)) → (B = bI (∃ q, q < i ∧ bt b q = true ∧ brk so y q)) → (lastS so y + 1 - i) < m0 → G X E 7 (AD σ) (QF X E σ (fun o s => o = some (.int (nI (jdV so x y g n))) ∧ s = σ) rm_X1_judgement) 0 0 15 [some (.ref a), some (.ref r), some (.long b), none, some (.int K), some (.int B), some (.int (nI i))] [] σ := by
    intro m0
    induction m0 with
    | zero => intro i K B _ _ _ hm0; exact absurd hm0 (Nat.not_lt_zero _)
    | succ m0 ih =>
      intro i K B hi hK hB hm0
      refine g_iload h dX1_judgement_15 rfl ?_
      refine g_aload_n h 0 dX1_judgement_17 rfl rfl ?_
      refine g_callV h [_] (c_X1_lastState (xL X) E _ h1 hs hx hy) cf_X1_25 cv_X1_lastState dX1_judgement_18 rfl h1 rfl rfl (Nat.le_of_ble_eq_true rfl) ⟨(Nat.le_of_ble_eq_true rfl), (Nat.le_of_ble_eq_true rfl)⟩ ⟨(Nat.le_of_ble_eq_true rfl), (Nat.le_of_ble_eq_true rfl)⟩ ?_
      refine kk_det ?_
      refine g_icmp_gtN h 57 dX1_judgement_21 (by decide) (by omega) (by omega) (fun c21_1 => ?_) (fun c21_1 => ?_)
      · skip
        have eB : (∃ q, q < i ∧ bt b q = true ∧ brk so y q) ↔ canB so x y g n := (Iff.intro (fun ⟨q, q1, q2, q3⟩ => ⟨q, by omega, (hb2 q (by omega)).mp q2, q3⟩) (fun ⟨q, q1, q2, q3⟩ => ⟨q, by omega, (hb2 q q1).mpr q2, q3⟩)).trans (FS_B hs hx)
        have eK : (∃ q, q < i ∧ bt b q = true ∧ ¬ brk so y q) ↔ canK so x y g n := (Iff.intro (fun ⟨q, q1, q2, q3⟩ => ⟨q, by omega, (hb2 q (by omega)).mp q2, q3⟩) (fun ⟨q, q1, q2, q3⟩ => ⟨q, by omega, (hb2 q q1).mpr q2, q3⟩)).trans (FS_K hs hx)
        refine g_iload h dX1_judgement_57 rfl ?_
        refine g_if_ne h 64 dX1_judgement_59 (by decide) (fun c59_2 => ?_) (fun c59_2 => ?_)
        · skip
          refine g_iload h dX1_judgement_64 rfl ?_
          refine g_if_eq h 73 dX1_judgement_66 (by decide) (fun c66_3 => ?_) (fun c66_3 => ?_)
          · skip
            refine g_iconst h (nI 2) dX1_judgement_73 (by decide) ?_
            exact g_iret h hr dX1_judgement_74 (retI (congrArg nI (jdV_2 (eB.mp (bI_ne hB c59_2)) (fun q => bI_eq hK c66_3 (eK.mpr q))).symm)) (Nat.le_of_ble_eq_true rfl) (Nat.le_of_ble_eq_true rfl)
          · skip
            refine g_iconst h (nI 1) dX1_judgement_69 (by decide) ?_
            refine g_goto h 74 dX1_judgement_70 (by decide) ?_
            exact g_iret h hr dX1_judgement_74 (retI (congrArg nI (jdV_1 (eB.mp (bI_ne hB c59_2)) (eK.mp (bI_ne hK c66_3))).symm)) (Nat.le_of_ble_eq_true rfl) (Nat.le_of_ble_eq_true rfl)
        · skip
          refine g_iconst h (nI 0) dX1_judgement_62 (by decide) ?_
          exact g_iret h hr dX1_judgement_63 (retI (congrArg nI (jdV_0 (fun q => bI_eq hB c59_2 (eB.mpr q))).symm)) (Nat.le_of_ble_eq_true rfl) (Nat.le_of_ble_eq_true rfl)
      · skip
        refine g_lload_n h 2 dX1_judgement_24 rfl rfl ?_
        refine g_iload h dX1_judgement_25 rfl ?_
        refine g_callSN h [] (c_X5_hasBit (xL X) E _ b (b := i) (by omega)) cf_X1_29 h.2.2.2.2.1.2.2.2.1.2.2.2.2.1 cs_X5_hasBit dX1_judgement_27 rfl rfl (Nat.le_of_ble_eq_true rfl) ⟨(Nat.le_of_ble_eq_true rfl), (Nat.le_of_ble_eq_true rfl)⟩ ⟨(Nat.le_of_ble_eq_true rfl), (Nat.le_of_ble_eq_true rfl)⟩ ?_
        refine kk_det ?_
        refine g_if_eqB h 51 dX1_judgement_30 (by decide) (fun c30_4 => ?_) (fun c30_4 => ?_)
        · skip
          refine g_iinc (vs' := [_, _, _, _, _, _, _]) h (nI (i + 1)) dX1_judgement_51 rfl (by first | exact nI_1 _ | rfl) (Nat.le_of_ble_eq_true rfl) rfl rfl ?_
          refine g_goto h 15 dX1_judgement_54 (by decide) ?_
          refine ih (i + 1) (K) (B) (by omega) ?_ ?_ (by omega)
          · rw [hK]; exact bI_iff (ex_no (fun p => absurd p.1 c30_4))
          · rw [hB]; exact bI_iff (ex_no (fun p => absurd p.1 c30_4))
        · skip
          refine g_aload_n h 0 dX1_judgement_33 rfl rfl ?_
          refine g_iload h dX1_judgement_34 rfl ?_
          refine g_callV h [] (c_X1_isBroken (xL X) E _ h1 hs hx hy (st := i) (by omega)) cf_X1_33 cv_X1_isBroken dX1_judgement_36 rfl h1 rfl rfl (Nat.le_of_ble_eq_true rfl) ⟨(Nat.le_of_ble_eq_true rfl), (Nat.le_of_ble_eq_true rfl)⟩ ⟨(Nat.le_of_ble_eq_true rfl), (Nat.le_of_ble_eq_true rfl)⟩ ?_
          refine kk_det ?_
          refine g_if_eqB h 48 dX1_judgement_39 (by decide) (fun c39_5 => ?_) (fun c39_5 => ?_)
          · skip
            refine g_iconst h (nI 1) dX1_judgement_48 (by decide) ?_
            refine g_istore (vs' := [_, _, _, _, _, _, _]) h dX1_judgement_49 (Nat.le_of_ble_eq_true rfl) rfl rfl ?_
            refine g_iinc (vs' := [_, _, _, _, _, _, _]) h (nI (i + 1)) dX1_judgement_51 rfl (by first | exact nI_1 _ | rfl) (Nat.le_of_ble_eq_true rfl) rfl rfl ?_
            refine g_goto h 15 dX1_judgement_54 (by decide) ?_
            refine ih (i + 1) (nI 1) (B) (by omega) ?_ ?_ (by omega)
            · exact (bI_t ⟨i, by omega, c30_4, c39_5⟩).symm
            · rw [hB]; exact bI_iff (ex_no (fun p => absurd p.2 c39_5))
          · skip
            refine g_iconst h (nI 1) dX1_judgement_42 (by decide) ?_
            refine g_istore (vs' := [_, _, _, _, _, _, _]) h dX1_judgement_43 (Nat.le_of_ble_eq_true rfl) rfl rfl ?_
            refine g_goto h 51 dX1_judgement_45 (by decide) ?_
            refine g_iinc (vs' := [_, _, _, _, _, _, _]) h (nI (i + 1)) dX1_judgement_51 rfl (by first | exact nI_1 _ | rfl) (Nat.le_of_ble_eq_true rfl) rfl rfl ?_
            refine g_goto h 15 dX1_judgement_54 (by decide) ?_
            refine ih (i + 1) (K) (nI 1) (by omega) ?_ ?_ (by omega)
            · rw [hK]; exact bI_iff (ex_no (fun p => absurd c39_5 p.2))
            · exact (bI_t ⟨i, by omega, c30_4, c39_5⟩).symm
  exact L15 (lastS so y + 2) 0 0 0 (by omega) (bI_f (fun ⟨q, q1, _⟩ => absurd q1 (Nat.not_lt_zero _))).symm (bI_f (fun ⟨q, q1, _⟩ => absurd q1 (Nat.not_lt_zero _))).symm (by omega)
abbrev rm_X5_judgementOf : Room := { frames := 4, cells := 0, slots := 0, locals := 101 }
set_option maxRecDepth 100000 in
set_option maxHeartbeats 4000000 in
theorem c_X5_judgementOf (l : Launch) (E : EnvD) (σ : Sto) {a so x y : Nat} (h1 : σ.1 a = some (cO 1 [.int (nI so), .int (nI x), .int (nI y)])) (hs : so < 7) (hx : x < 100) (hy : y < 100) (hy1 : so = 1 → y ≤ 40) {r n : Nat} {g : Nat → Int32} (hr2 : RowIs E σ r n g) (hn40 : n ≤ 40) : CC l yX5_judgementOf cX5_judgementOf 2 (some .int) rm_X5_judgementOf E [.ref r, .ref a] σ (fun o s => o = some (.int (nI (jdV so x y g n))) ∧ s = σ) := by
  refine cc_of (vs := [_, _]) (by decide) (Nat.le_of_ble_eq_true rfl) rfl ?_
  intro X h hr hn
  refine g_aload_n h 1 dX5_judgementOf_0 rfl rfl ?_
  refine g_ifnonnull h 8 dX5_judgementOf_1 (by decide) ?_
  refine g_aload_n h 1 dX5_judgementOf_8 rfl rfl ?_
  refine g_aload_n h 0 dX5_judgementOf_9 rfl rfl ?_
  refine g_callV h [] (c_X1_judgement (xL X) E _ h1 hs hx hy hy1 hr2 hn40) cf_X5_212 cv_X1_judgement dX5_judgementOf_10 rfl h1 rfl rfl (Nat.le_of_ble_eq_true rfl) ⟨(Nat.le_of_ble_eq_true rfl), (Nat.le_of_ble_eq_true rfl)⟩ ⟨(Nat.le_of_ble_eq_true rfl), (Nat.le_of_ble_eq_true rfl)⟩ ?_
  refine kk_det ?_
  exact g_iret h hr dX5_judgementOf_13 (⟨rfl, rfl⟩) (Nat.le_of_ble_eq_true rfl) (Nat.le_of_ble_eq_true rfl)
end
section
/-! the changes of two rows (own work; walks by program) -/
def ed (l k : Nat → Int32) (n m i j : Nat) : Nat :=
  if h : i < n ∧ j < m then (if l i = k j then ed l k n m (i + 1) (j + 1) else 1 + min (ed l k n m (i + 1) j) (ed l k n m i (j + 1)))
  else (if i < n then n - i else m - j)
termination_by (n - i) + (m - j)
decreasing_by all_goals omega
theorem ed_eq {l k : Nat → Int32} {n m i j : Nat} (hi : i < n) (hj : j < m) (h : l i = k j) : ed l k n m i j = ed l k n m (i + 1) (j + 1) := by
  rw [ed, dif_pos ⟨hi, hj⟩, if_pos h]
theorem ed_ne {l k : Nat → Int32} {n m i j : Nat} (hi : i < n) (hj : j < m) (h : ¬ l i = k j) : ed l k n m i j = 1 + min (ed l k n m (i + 1) j) (ed l k n m i (j + 1)) := by
  rw [ed, dif_pos ⟨hi, hj⟩, if_neg h]
theorem ed_o1 {l k : Nat → Int32} {n m i j : Nat} (hi : n ≤ i) : ed l k n m i j = m - j := by
  rw [ed, dif_neg (by omega), if_neg (by omega)]
theorem ed_o2 {l k : Nat → Int32} {n m i j : Nat} (hi : i < n) (hj : m ≤ j) : ed l k n m i j = n - i := by
  rw [ed, dif_neg (by omega), if_pos hi]
theorem ed_le (l k : Nat → Int32) (n m i j : Nat) : ed l k n m i j ≤ (n - i) + (m - j) := by
  fun_induction ed l k n m i j <;> omega
def way (l k : Nat → Int32) (n m i j : Nat) : Nat :=
  if i < n ∧ j < m ∧ l i = k j then 0 else if i < n ∧ ed l k n m (i + 1) j + 1 = ed l k n m i j then 1 else 2
def pth (l k : Nat → Int32) (n m : Nat) : Nat → Nat → Nat → Nat → Int32
  | 0, _, _, _ => -1
  | f + 1, t, i, j => if i < n ∨ j < m then (if t = 0 then nI (way l k n m i j) else pth l k n m f (t - 1) (if way l k n m i j = 2 then i else i + 1) (if way l k n m i j = 1 then j else j + 1)) else -1
/-- Step x of the changes -/
noncomputable def stpV (l k : Nat → Int32) (n m : Nat) (x : Int32) : Int32 := cif (inR x (n + m)) (pth l k n m (n + m) x.toNatClampNeg 0 0) (-1)
theorem way_le {l k : Nat → Int32} {n m i j : Nat} : way l k n m i j ≤ 2 := by
  unfold way
  grind
theorem way_i {l k : Nat → Int32} {n m i j : Nat} (h : i < n ∨ j < m) (hw : way l k n m i j ≠ 2) : i < n := by
  unfold way at hw
  grind
theorem way_j {l k : Nat → Int32} {n m i j : Nat} (h : i < n ∨ j < m) (hw : way l k n m i j ≠ 1) : j < m := by
  by_cases hj : j < m
  · exact hj
  · have hi : i < n := by omega
    have e1 : ed l k n m i j = n - i := ed_o2 hi (by omega)
    have e2 : ed l k n m (i + 1) j = n - (i + 1) := by
      rw [ed, dif_neg (by omega)]
      by_cases h2 : i + 1 < n
      · rw [if_pos h2]
      · rw [if_neg h2]; omega
    exact absurd (by unfold way; rw [if_neg (by omega), if_pos ⟨hi, by omega⟩]) hw
/-- the table at c + 2: what P lists holds D -/
def TB (E : EnvD) (c : Nat) (s : Sto) (P : Nat → Nat → Prop) (D : Nat → Nat → Nat) : Prop := ∀ i, i < 41 → ∃ g, s.1 (c + 2 + i) = some (cI E 41 g) ∧ ∀ j, j < 41 → P i j → g j = nI (D i j)
theorem TB.put {E : EnvD} {c i j v : Nat} {s : Sto} {P : Nat → Nat → Prop} {D : Nat → Nat → Nat} {g : Nat → Int32} (h : TB E c s P D) (hi : i < 41) (hj : j < 41) (hg : s.1 (c + 2 + i) = some (cI E 41 g)) (hgp : ∀ j, j < 41 → P i j → g j = nI (D i j)) (hv : v = D i j) {P' : Nat → Nat → Prop} (hP : ∀ a b, P' a b → P a b ∨ (a = i ∧ b = j)) : TB E c (sup s (c + 2 + i) (cI E 41 (upd g j (nI v)))) P' D := by
  intro a ha
  by_cases e : a = i
  · subst e
    refine ⟨_, sup_eq, fun b hb hp => ?_⟩
    unfold upd
    by_cases e2 : b = j
    · subst e2
      rw [if_pos rfl, hv]
    · rw [if_neg e2]
      rcases hP a b hp with q | q
      · exact hgp b hb q
      · exact absurd q.2 e2
  · obtain ⟨g', q1, q2⟩ := h a ha
    refine ⟨g', (sup_ne (by omega)).trans q1, fun b hb hp => ?_⟩
    rcases hP a b hp with q | q
    · exact q2 b hb q
    · exact absurd q.1 e
theorem min_nI {a b : Nat} (ha : a < 2147483648) (hb : b < 2147483648) : (if nI b < nI a then nI b else nI a) = nI (min a b) := by
  by_cases h : b < a
  · rw [if_pos ((nI_ltI hb ha).mpr h), Nat.min_eq_right (by omega)]
  · rw [if_neg (fun q => h ((nI_ltI hb ha).mp q)), Nat.min_eq_left (by omega)]
theorem max_nI {a b : Nat} (ha : a < 2147483648) (hb : b < 2147483648) : (if nI a < nI b then nI b else nI a) = nI (max a b) := by
  by_cases h : a < b
  · rw [if_pos ((nI_ltI ha hb).mpr h), Nat.max_eq_right (by omega)]
  · rw [if_neg (fun q => h ((nI_ltI ha hb).mp q)), Nat.max_eq_left (by omega)]
abbrev rm_X0_leftFrom : Room := { frames := 0, cells := 0, slots := 0, locals := 0 }
set_option maxRecDepth 100000 in
set_option maxHeartbeats 4000000 in
theorem c_X0_leftFrom (lau : Launch) (E : EnvD) (σ : Sto) {c : Nat} {f : Nat → Option Nat} (h0 : σ.1 c = some (cO 0 [.ref (c + 1)])) (h1 : σ.1 (c + 1) = some (cQ E 5 41 f)) (hf : ∀ i, i < 41 → f i = some (c + 2 + i)) {i j v : Nat} {g : Nat → Int32} (h3 : σ.1 (c + 2 + i) = some (cI E 41 g)) (h4 : g j = nI v) (hi : i ≤ 40) (hj : j ≤ 40) : CC lau yX0_leftFrom cX0_leftFrom 3 (some .int) rm_X0_leftFrom E [.ref c, .int (nI i), .int (nI j)] σ (fun o s => o = some (.int (nI v)) ∧ s = σ) := by
  refine cc_of (vs := [_, _, _]) (by decide) (Nat.le_of_ble_eq_true rfl) rfl ?_
  intro X h hr hn
  refine g_iload_n h 1 dX0_leftFrom_0 rfl rfl ?_
  refine g_if_ltN h 31 dX0_leftFrom_1 (by decide) (by omega) ?_
  refine g_iload_n h 1 dX0_leftFrom_4 rfl rfl ?_
  refine g_bipush h (nI 40) dX0_leftFrom_5 (by decide) ?_
  refine g_icmp_gtN h 31 dX0_leftFrom_7 (by decide) (by omega) (by decide) (fun c7_2 => absurd c7_2 (by omega)) (fun c7_2 => ?_)
  refine g_iload_n h 2 dX0_leftFrom_10 rfl rfl ?_
  refine g_if_ltN h 31 dX0_leftFrom_11 (by decide) (by omega) ?_
  refine g_iload_n h 2 dX0_leftFrom_14 rfl rfl ?_
  refine g_bipush h (nI 40) dX0_leftFrom_15 (by decide) ?_
  refine g_icmp_gtN h 31 dX0_leftFrom_17 (by decide) (by omega) (by decide) (fun c17_4 => absurd c17_4 (by omega)) (fun c17_4 => ?_)
  refine g_aload_n h 0 dX0_leftFrom_20 rfl rfl ?_
  refine g_get h 0 fa_X0_11 dX0_leftFrom_21 h0 rfl ?_
  refine g_iload_n h 1 dX0_leftFrom_24 rfl rfl ?_
  refine g_aald h 5 (v := .ref (c + 2 + i)) dX0_leftFrom_25 rfl rfl h1 (by omega) (by omega) (by rw [hf _ (by omega)]; rfl) ?_
  refine g_iload_n h 2 dX0_leftFrom_26 rfl rfl ?_
  refine g_iald h dX0_leftFrom_27 h3 (by omega) (by omega) ?_
  refine g_top (y := nI v) (h4) ?_
  refine g_goto h 32 dX0_leftFrom_28 (by decide) ?_
  exact g_iret h hr dX0_leftFrom_32 (⟨rfl, rfl⟩) (Nat.le_of_ble_eq_true rfl) (Nat.le_of_ble_eq_true rfl)
abbrev rm_X0_difference : Room := { frames := 1, cells := 0, slots := 0, locals := 22 }
set_option maxRecDepth 100000 in
set_option maxHeartbeats 4000000 in
theorem c_X0_difference (lau : Launch) (E : EnvD) (σ : Sto) {c : Nat} {f : Nat → Option Nat} (h0 : σ.1 c = some (cO 0 [.ref (c + 1)])) (h1 : σ.1 (c + 1) = some (cQ E 5 41 f)) (hf : ∀ i, i < 41 → f i = some (c + 2 + i)) {v : Nat} {g : Nat → Int32} (h3 : σ.1 (c + 2 + 0) = some (cI E 41 g)) (h4 : g 0 = nI v) : CC lau yX0_difference cX0_difference 1 (some .int) rm_X0_difference E [.ref c] σ (fun o s => o = some (.int (nI v)) ∧ s = σ) := by
  refine cc_of (vs := [_]) (by decide) (Nat.le_of_ble_eq_true rfl) rfl ?_
  intro X h hr hn
  refine g_aload_n h 0 dX0_difference_0 rfl rfl ?_
  refine g_iconst h (nI 0) dX0_difference_1 (by decide) ?_
  refine g_iconst h (nI 0) dX0_difference_2 (by decide) ?_
  refine g_callV h [] (c_X0_leftFrom (xL X) E _ h0 h1 hf (i := 0) (j := 0) (v := v) h3 h4 (by omega) (by omega)) cf_X0_26 cv_X0_leftFrom dX0_difference_3 rfl h0 rfl rfl (Nat.le_of_ble_eq_true rfl) ⟨(Nat.le_of_ble_eq_true rfl), (Nat.le_of_ble_eq_true rfl)⟩ ⟨(Nat.le_of_ble_eq_true rfl), (Nat.le_of_ble_eq_true rfl)⟩ ?_
  refine kk_det ?_
  exact g_iret h hr dX0_difference_6 (⟨rfl, rfl⟩) (Nat.le_of_ble_eq_true rfl) (Nat.le_of_ble_eq_true rfl)
abbrev rm_X0_differenceFrom : Room := { frames := 2, cells := 0, slots := 0, locals := 42 }
set_option maxRecDepth 100000 in
set_option maxHeartbeats 4000000 in
theorem c_X0_differenceFrom (lau : Launch) (E : EnvD) (σ : Sto) {c : Nat} {f : Nat → Option Nat} (h0 : σ.1 c = some (cO 0 [.ref (c + 1)])) (h1 : σ.1 (c + 1) = some (cQ E 5 41 f)) (hf : ∀ i, i < 41 → f i = some (c + 2 + i)) {r1 r2 n m : Nat} {l k : Nat → Int32} (hr1 : RowIs E σ r1 n l) (hr2 : RowIs E σ r2 m k) (hn40 : n ≤ 40) (hm40 : m ≤ 40) {i j : Nat} {Pd : Nat → Nat → Prop} (hi : i ≤ n) (hj : j ≤ m) (hT : TB E c σ Pd (ed l k n m)) (hP : ∀ a b, (a = i + 1 ∧ a ≤ n ∧ b ≤ m) ∨ (a = i ∧ b = j + 1 ∧ b ≤ m) → Pd a b) : CC lau yX0_differenceFrom cX0_differenceFrom 5 (some .int) rm_X0_differenceFrom E [.ref c, .ref r1, .int (nI i), .ref r2, .int (nI j)] σ (fun o s => o = some (.int (nI (ed l k n m i j))) ∧ s = σ) := by
  refine cc_of (vs := [_, _, _, _, _]) (by decide) (Nat.le_of_ble_eq_true rfl) rfl ?_
  intro X h hr hn
  refine g_aload_n h 1 dX0_differenceFrom_0 rfl rfl ?_
  refine g_iload_n h 2 dX0_differenceFrom_1 rfl rfl ?_
  refine g_callV h [] (r_has (xL X) hr1 hn40 (nI i)) cf_X0_30 cv_X2_has dX0_differenceFrom_2 rfl hr1.1 rfl rfl (Nat.le_of_ble_eq_true rfl) ⟨(Nat.le_of_ble_eq_true rfl), (Nat.le_of_ble_eq_true rfl)⟩ ⟨(Nat.le_of_ble_eq_true rfl), (Nat.le_of_ble_eq_true rfl)⟩ ?_
  refine kk_det ?_
  refine g_top (bI_iff (inR_nI (by omega) (by omega))) ?_
  refine g_if_neB h 16 dX0_differenceFrom_5 (by decide) (fun c5_1 => ?_) (fun c5_1 => ?_)
  · skip
    refine g_aload_n h 3 dX0_differenceFrom_16 rfl rfl ?_
    refine g_iload h dX0_differenceFrom_17 rfl ?_
    refine g_callV h [] (r_has (xL X) hr2 hm40 (nI j)) cf_X0_30 cv_X2_has dX0_differenceFrom_19 rfl hr2.1 rfl rfl (Nat.le_of_ble_eq_true rfl) ⟨(Nat.le_of_ble_eq_true rfl), (Nat.le_of_ble_eq_true rfl)⟩ ⟨(Nat.le_of_ble_eq_true rfl), (Nat.le_of_ble_eq_true rfl)⟩ ?_
    refine kk_det ?_
    refine g_top (bI_iff (inR_nI (by omega) (by omega))) ?_
    refine g_if_neB h 32 dX0_differenceFrom_22 (by decide) (fun c22_2 => ?_) (fun c22_2 => ?_)
    · skip
      refine g_aload_n h 1 dX0_differenceFrom_32 rfl rfl ?_
      refine g_iload_n h 2 dX0_differenceFrom_33 rfl rfl ?_
      refine g_callV h [] (r_at (xL X) hr1 hn40 (nI i)) cf_X0_34 cv_X2_at dX0_differenceFrom_34 rfl hr1.1 rfl rfl (Nat.le_of_ble_eq_true rfl) ⟨(Nat.le_of_ble_eq_true rfl), (Nat.le_of_ble_eq_true rfl)⟩ ⟨(Nat.le_of_ble_eq_true rfl), (Nat.le_of_ble_eq_true rfl)⟩ ?_
      refine kk_det ?_
      refine g_top (atV_in (by omega) (by omega)) ?_
      refine g_aload_n h 3 dX0_differenceFrom_37 rfl rfl ?_
      refine g_iload h dX0_differenceFrom_38 rfl ?_
      refine g_callV h [_] (r_at (xL X) hr2 hm40 (nI j)) cf_X0_34 cv_X2_at dX0_differenceFrom_40 rfl hr2.1 rfl rfl (Nat.le_of_ble_eq_true rfl) ⟨(Nat.le_of_ble_eq_true rfl), (Nat.le_of_ble_eq_true rfl)⟩ ⟨(Nat.le_of_ble_eq_true rfl), (Nat.le_of_ble_eq_true rfl)⟩ ?_
      refine kk_det ?_
      refine g_top (atV_in (by omega) (by omega)) ?_
      refine g_icmp_ne h 58 dX0_differenceFrom_43 (by decide) (fun c43_3 => ?_) (fun c43_3 => ?_)
      · skip
        refine g_iconst h (nI 1) dX0_differenceFrom_58 (by decide) ?_
        refine g_aload_n h 0 dX0_differenceFrom_59 rfl rfl ?_
        refine g_iload_n h 2 dX0_differenceFrom_60 rfl rfl ?_
        refine g_iconst h (nI 1) dX0_differenceFrom_61 (by decide) ?_
        refine g_iaddN h dX0_differenceFrom_62 ?_
        refine g_iload h dX0_differenceFrom_63 rfl ?_
        obtain ⟨gg, q1, q2⟩ := hT (i + 1) (by omega)
        refine g_callV h [_] (c_X0_leftFrom (xL X) E _ h0 h1 hf (i := i + 1) (j := j) (v := ed l k n m (i + 1) j) q1 (q2 _ (by omega) (by first | omega | (unfold Pd; omega) | exact hP _ _ (by omega))) (by omega) (by omega)) cf_X0_26 cv_X0_leftFrom dX0_differenceFrom_65 rfl h0 rfl rfl (Nat.le_of_ble_eq_true rfl) ⟨(Nat.le_of_ble_eq_true rfl), (Nat.le_of_ble_eq_true rfl)⟩ ⟨(Nat.le_of_ble_eq_true rfl), (Nat.le_of_ble_eq_true rfl)⟩ ?_
        refine kk_det ?_
        refine g_aload_n h 0 dX0_differenceFrom_68 rfl rfl ?_
        refine g_iload_n h 2 dX0_differenceFrom_69 rfl rfl ?_
        refine g_iload h dX0_differenceFrom_70 rfl ?_
        refine g_iconst h (nI 1) dX0_differenceFrom_72 (by decide) ?_
        refine g_iaddN h dX0_differenceFrom_73 ?_
        obtain ⟨gg, q1, q2⟩ := hT (i) (by omega)
        refine g_callV h [_, _] (c_X0_leftFrom (xL X) E _ h0 h1 hf (i := i) (j := j + 1) (v := ed l k n m i (j + 1)) q1 (q2 _ (by omega) (by first | omega | (unfold Pd; omega) | exact hP _ _ (by omega))) (by omega) (by omega)) cf_X0_26 cv_X0_leftFrom dX0_differenceFrom_74 rfl h0 rfl rfl (Nat.le_of_ble_eq_true rfl) ⟨(Nat.le_of_ble_eq_true rfl), (Nat.le_of_ble_eq_true rfl)⟩ ⟨(Nat.le_of_ble_eq_true rfl), (Nat.le_of_ble_eq_true rfl)⟩ ?_
        refine kk_det ?_
        refine g_min h mm_X0_38 dX0_differenceFrom_77 ⟨(Nat.le_of_ble_eq_true rfl), (Nat.le_of_ble_eq_true rfl)⟩ (Nat.le_of_ble_eq_true rfl) (Nat.le_of_ble_eq_true rfl) ?_
        have z1 := ed_le l k n m (i + 1) j
        have z2 := ed_le l k n m i (j + 1)
        refine g_top (min_nI (by omega) (by omega)) ?_
        refine g_iaddN h dX0_differenceFrom_80 ?_
        exact g_iret h hr dX0_differenceFrom_81 (retI (congrArg nI (ed_ne (by omega) (by omega) c43_3).symm)) (Nat.le_of_ble_eq_true rfl) (Nat.le_of_ble_eq_true rfl)
      · skip
        refine g_aload_n h 0 dX0_differenceFrom_46 rfl rfl ?_
        refine g_iload_n h 2 dX0_differenceFrom_47 rfl rfl ?_
        refine g_iconst h (nI 1) dX0_differenceFrom_48 (by decide) ?_
        refine g_iaddN h dX0_differenceFrom_49 ?_
        refine g_iload h dX0_differenceFrom_50 rfl ?_
        refine g_iconst h (nI 1) dX0_differenceFrom_52 (by decide) ?_
        refine g_iaddN h dX0_differenceFrom_53 ?_
        obtain ⟨gg, q1, q2⟩ := hT (i + 1) (by omega)
        refine g_callV h [] (c_X0_leftFrom (xL X) E _ h0 h1 hf (i := i + 1) (j := j + 1) (v := ed l k n m (i + 1) (j + 1)) q1 (q2 _ (by omega) (by first | omega | (unfold Pd; omega) | exact hP _ _ (by omega))) (by omega) (by omega)) cf_X0_26 cv_X0_leftFrom dX0_differenceFrom_54 rfl h0 rfl rfl (Nat.le_of_ble_eq_true rfl) ⟨(Nat.le_of_ble_eq_true rfl), (Nat.le_of_ble_eq_true rfl)⟩ ⟨(Nat.le_of_ble_eq_true rfl), (Nat.le_of_ble_eq_true rfl)⟩ ?_
        refine kk_det ?_
        exact g_iret h hr dX0_differenceFrom_57 (retI (congrArg nI (ed_eq (by omega) (by omega) c43_3).symm)) (Nat.le_of_ble_eq_true rfl) (Nat.le_of_ble_eq_true rfl)
    · skip
      refine g_aload_n h 1 dX0_differenceFrom_25 rfl rfl ?_
      refine g_get h 1 fa_X0_16 dX0_differenceFrom_26 hr1.1 rfl ?_
      refine g_iload_n h 2 dX0_differenceFrom_29 rfl rfl ?_
      refine g_isubN h dX0_differenceFrom_30 (by omega) ?_
      exact g_iret h hr dX0_differenceFrom_31 (retI (congrArg nI (ed_o2 (by omega) (by omega)).symm)) (Nat.le_of_ble_eq_true rfl) (Nat.le_of_ble_eq_true rfl)
  · skip
    refine g_aload_n h 3 dX0_differenceFrom_8 rfl rfl ?_
    refine g_get h 1 fa_X0_16 dX0_differenceFrom_9 hr2.1 rfl ?_
    refine g_iload h dX0_differenceFrom_12 rfl ?_
    refine g_isubN h dX0_differenceFrom_14 (by omega) ?_
    exact g_iret h hr dX0_differenceFrom_15 (retI (congrArg nI (ed_o1 (by omega)).symm)) (Nat.le_of_ble_eq_true rfl) (Nat.le_of_ble_eq_true rfl)
abbrev rm_X0_stepFrom : Room := { frames := 2, cells := 0, slots := 0, locals := 42 }
set_option maxRecDepth 100000 in
set_option maxHeartbeats 4000000 in
theorem c_X0_stepFrom (lau : Launch) (E : EnvD) (σ : Sto) {c : Nat} {f : Nat → Option Nat} (h0 : σ.1 c = some (cO 0 [.ref (c + 1)])) (h1 : σ.1 (c + 1) = some (cQ E 5 41 f)) (hf : ∀ i, i < 41 → f i = some (c + 2 + i)) {r1 r2 n m : Nat} {l k : Nat → Int32} (hr1 : RowIs E σ r1 n l) (hr2 : RowIs E σ r2 m k) (hn40 : n ≤ 40) (hm40 : m ≤ 40) {i j : Nat} (hi : i ≤ n) (hj : j ≤ m) (hT : TB E c σ (fun a b => a ≤ n ∧ b ≤ m) (ed l k n m)) : CC lau yX0_stepFrom cX0_stepFrom 6 (some .int) rm_X0_stepFrom E [.ref c, .ref r1, .int (nI i), .ref r2, .int (nI j)] σ (fun o s => o = some (.int (nI (way l k n m i j))) ∧ s = σ) := by
  refine cc_of (vs := [_, _, _, _, _, _]) (by decide) (Nat.le_of_ble_eq_true rfl) rfl ?_
  intro X h hr hn
  refine g_aload_n h 1 dX0_stepFrom_0 rfl rfl ?_
  refine g_iload_n h 2 dX0_stepFrom_1 rfl rfl ?_
  refine g_callV h [] (r_has (xL X) hr1 hn40 (nI i)) cf_X0_30 cv_X2_has dX0_stepFrom_2 rfl hr1.1 rfl rfl (Nat.le_of_ble_eq_true rfl) ⟨(Nat.le_of_ble_eq_true rfl), (Nat.le_of_ble_eq_true rfl)⟩ ⟨(Nat.le_of_ble_eq_true rfl), (Nat.le_of_ble_eq_true rfl)⟩ ?_
  refine kk_det ?_
  refine g_top (bI_iff (inR_nI (by omega) (by omega))) ?_
  refine g_if_eqB h 33 dX0_stepFrom_5 (by decide) (fun c5_1 => ?_) (fun c5_1 => ?_)
  · skip
    refine g_aload_n h 1 dX0_stepFrom_33 rfl rfl ?_
    refine g_iload_n h 2 dX0_stepFrom_34 rfl rfl ?_
    refine g_callV h [] (r_has (xL X) hr1 hn40 (nI i)) cf_X0_30 cv_X2_has dX0_stepFrom_35 rfl hr1.1 rfl rfl (Nat.le_of_ble_eq_true rfl) ⟨(Nat.le_of_ble_eq_true rfl), (Nat.le_of_ble_eq_true rfl)⟩ ⟨(Nat.le_of_ble_eq_true rfl), (Nat.le_of_ble_eq_true rfl)⟩ ?_
    refine kk_det ?_
    refine g_top (bI_iff (inR_nI (by omega) (by omega))) ?_
    refine g_if_eqB h 66 dX0_stepFrom_38 (by decide) (fun c38_2 => ?_) (fun c38_2 => ?_)
    · skip
      refine g_iconst h (nI 0) dX0_stepFrom_66 (by decide) ?_
      refine g_istore (vs' := [_, _, _, _, _, _]) h dX0_stepFrom_67 (Nat.le_of_ble_eq_true rfl) rfl rfl ?_
      refine g_iload h dX0_stepFrom_69 rfl ?_
      refine g_if_eqN h 78 dX0_stepFrom_71 (by decide) (by decide) (fun c71_3 => ?_) (fun c71_3 => absurd c71_3 (by omega))
      refine g_iconst h (nI 2) dX0_stepFrom_78 (by decide) ?_
      exact g_iret h hr dX0_stepFrom_79 (retI (congrArg nI (by unfold way; grind))) (Nat.le_of_ble_eq_true rfl) (Nat.le_of_ble_eq_true rfl)
    · skip
      refine g_aload_n h 0 dX0_stepFrom_41 rfl rfl ?_
      refine g_iload_n h 2 dX0_stepFrom_42 rfl rfl ?_
      refine g_iconst h (nI 1) dX0_stepFrom_43 (by decide) ?_
      refine g_iaddN h dX0_stepFrom_44 ?_
      refine g_iload h dX0_stepFrom_45 rfl ?_
      obtain ⟨gg, q1, q2⟩ := hT (i + 1) (by omega)
      refine g_callV h [] (c_X0_leftFrom (xL X) E _ h0 h1 hf (i := i + 1) (j := j) (v := ed l k n m (i + 1) j) q1 (q2 _ (by omega) (by first | omega | (unfold Pd; omega) | exact hP _ _ (by omega))) (by omega) (by omega)) cf_X0_26 cv_X0_leftFrom dX0_stepFrom_47 rfl h0 rfl rfl (Nat.le_of_ble_eq_true rfl) ⟨(Nat.le_of_ble_eq_true rfl), (Nat.le_of_ble_eq_true rfl)⟩ ⟨(Nat.le_of_ble_eq_true rfl), (Nat.le_of_ble_eq_true rfl)⟩ ?_
      refine kk_det ?_
      refine g_iconst h (nI 1) dX0_stepFrom_50 (by decide) ?_
      refine g_iaddN h dX0_stepFrom_51 ?_
      refine g_aload_n h 0 dX0_stepFrom_52 rfl rfl ?_
      refine g_iload_n h 2 dX0_stepFrom_53 rfl rfl ?_
      refine g_iload h dX0_stepFrom_54 rfl ?_
      obtain ⟨gg, q1, q2⟩ := hT (i) (by omega)
      refine g_callV h [_] (c_X0_leftFrom (xL X) E _ h0 h1 hf (i := i) (j := j) (v := ed l k n m i j) q1 (q2 _ (by omega) (by first | omega | (unfold Pd; omega) | exact hP _ _ (by omega))) (by omega) (by omega)) cf_X0_26 cv_X0_leftFrom dX0_stepFrom_56 rfl h0 rfl rfl (Nat.le_of_ble_eq_true rfl) ⟨(Nat.le_of_ble_eq_true rfl), (Nat.le_of_ble_eq_true rfl)⟩ ⟨(Nat.le_of_ble_eq_true rfl), (Nat.le_of_ble_eq_true rfl)⟩ ?_
      refine kk_det ?_
      refine g_icmp_neN h 66 dX0_stepFrom_59 (by decide) (by have := ed_le l k n m (i + 1) j; have := ed_le l k n m i j; omega) (by have := ed_le l k n m (i + 1) j; have := ed_le l k n m i j; omega) (fun c59_4 => ?_) (fun c59_4 => ?_)
      · skip
        refine g_iconst h (nI 0) dX0_stepFrom_66 (by decide) ?_
        refine g_istore (vs' := [_, _, _, _, _, _]) h dX0_stepFrom_67 (Nat.le_of_ble_eq_true rfl) rfl rfl ?_
        refine g_iload h dX0_stepFrom_69 rfl ?_
        refine g_if_eqN h 78 dX0_stepFrom_71 (by decide) (by decide) (fun c71_5 => ?_) (fun c71_5 => absurd c71_5 (by omega))
        refine g_iconst h (nI 2) dX0_stepFrom_78 (by decide) ?_
        exact g_iret h hr dX0_stepFrom_79 (retI (congrArg nI (by unfold way; grind))) (Nat.le_of_ble_eq_true rfl) (Nat.le_of_ble_eq_true rfl)
      · skip
        refine g_iconst h (nI 1) dX0_stepFrom_62 (by decide) ?_
        refine g_goto h 67 dX0_stepFrom_63 (by decide) ?_
        refine g_istore (vs' := [_, _, _, _, _, _]) h dX0_stepFrom_67 (Nat.le_of_ble_eq_true rfl) rfl rfl ?_
        refine g_iload h dX0_stepFrom_69 rfl ?_
        refine g_if_eqN h 78 dX0_stepFrom_71 (by decide) (by decide) (fun c71_6 => absurd c71_6 (by omega)) (fun c71_6 => ?_)
        refine g_iconst h (nI 1) dX0_stepFrom_74 (by decide) ?_
        refine g_goto h 79 dX0_stepFrom_75 (by decide) ?_
        exact g_iret h hr dX0_stepFrom_79 (retI (congrArg nI (by unfold way; grind))) (Nat.le_of_ble_eq_true rfl) (Nat.le_of_ble_eq_true rfl)
  · skip
    refine g_aload_n h 3 dX0_stepFrom_8 rfl rfl ?_
    refine g_iload h dX0_stepFrom_9 rfl ?_
    refine g_callV h [] (r_has (xL X) hr2 hm40 (nI j)) cf_X0_30 cv_X2_has dX0_stepFrom_11 rfl hr2.1 rfl rfl (Nat.le_of_ble_eq_true rfl) ⟨(Nat.le_of_ble_eq_true rfl), (Nat.le_of_ble_eq_true rfl)⟩ ⟨(Nat.le_of_ble_eq_true rfl), (Nat.le_of_ble_eq_true rfl)⟩ ?_
    refine kk_det ?_
    refine g_top (bI_iff (inR_nI (by omega) (by omega))) ?_
    refine g_if_eqB h 33 dX0_stepFrom_14 (by decide) (fun c14_7 => ?_) (fun c14_7 => ?_)
    · skip
      refine g_aload_n h 1 dX0_stepFrom_33 rfl rfl ?_
      refine g_iload_n h 2 dX0_stepFrom_34 rfl rfl ?_
      refine g_callV h [] (r_has (xL X) hr1 hn40 (nI i)) cf_X0_30 cv_X2_has dX0_stepFrom_35 rfl hr1.1 rfl rfl (Nat.le_of_ble_eq_true rfl) ⟨(Nat.le_of_ble_eq_true rfl), (Nat.le_of_ble_eq_true rfl)⟩ ⟨(Nat.le_of_ble_eq_true rfl), (Nat.le_of_ble_eq_true rfl)⟩ ?_
      refine kk_det ?_
      refine g_top (bI_iff (inR_nI (by omega) (by omega))) ?_
      refine g_if_eqB h 66 dX0_stepFrom_38 (by decide) (fun c38_8 => ?_) (fun c38_8 => ?_)
      · skip
        refine g_iconst h (nI 0) dX0_stepFrom_66 (by decide) ?_
        refine g_istore (vs' := [_, _, _, _, _, _]) h dX0_stepFrom_67 (Nat.le_of_ble_eq_true rfl) rfl rfl ?_
        refine g_iload h dX0_stepFrom_69 rfl ?_
        refine g_if_eqN h 78 dX0_stepFrom_71 (by decide) (by decide) (fun c71_9 => ?_) (fun c71_9 => absurd c71_9 (by omega))
        refine g_iconst h (nI 2) dX0_stepFrom_78 (by decide) ?_
        exact g_iret h hr dX0_stepFrom_79 (retI (congrArg nI (by unfold way; grind))) (Nat.le_of_ble_eq_true rfl) (Nat.le_of_ble_eq_true rfl)
      · skip
        refine g_aload_n h 0 dX0_stepFrom_41 rfl rfl ?_
        refine g_iload_n h 2 dX0_stepFrom_42 rfl rfl ?_
        refine g_iconst h (nI 1) dX0_stepFrom_43 (by decide) ?_
        refine g_iaddN h dX0_stepFrom_44 ?_
        refine g_iload h dX0_stepFrom_45 rfl ?_
        obtain ⟨gg, q1, q2⟩ := hT (i + 1) (by omega)
        refine g_callV h [] (c_X0_leftFrom (xL X) E _ h0 h1 hf (i := i + 1) (j := j) (v := ed l k n m (i + 1) j) q1 (q2 _ (by omega) (by first | omega | (unfold Pd; omega) | exact hP _ _ (by omega))) (by omega) (by omega)) cf_X0_26 cv_X0_leftFrom dX0_stepFrom_47 rfl h0 rfl rfl (Nat.le_of_ble_eq_true rfl) ⟨(Nat.le_of_ble_eq_true rfl), (Nat.le_of_ble_eq_true rfl)⟩ ⟨(Nat.le_of_ble_eq_true rfl), (Nat.le_of_ble_eq_true rfl)⟩ ?_
        refine kk_det ?_
        refine g_iconst h (nI 1) dX0_stepFrom_50 (by decide) ?_
        refine g_iaddN h dX0_stepFrom_51 ?_
        refine g_aload_n h 0 dX0_stepFrom_52 rfl rfl ?_
        refine g_iload_n h 2 dX0_stepFrom_53 rfl rfl ?_
        refine g_iload h dX0_stepFrom_54 rfl ?_
        obtain ⟨gg, q1, q2⟩ := hT (i) (by omega)
        refine g_callV h [_] (c_X0_leftFrom (xL X) E _ h0 h1 hf (i := i) (j := j) (v := ed l k n m i j) q1 (q2 _ (by omega) (by first | omega | (unfold Pd; omega) | exact hP _ _ (by omega))) (by omega) (by omega)) cf_X0_26 cv_X0_leftFrom dX0_stepFrom_56 rfl h0 rfl rfl (Nat.le_of_ble_eq_true rfl) ⟨(Nat.le_of_ble_eq_true rfl), (Nat.le_of_ble_eq_true rfl)⟩ ⟨(Nat.le_of_ble_eq_true rfl), (Nat.le_of_ble_eq_true rfl)⟩ ?_
        refine kk_det ?_
        refine g_icmp_neN h 66 dX0_stepFrom_59 (by decide) (by have := ed_le l k n m (i + 1) j; have := ed_le l k n m i j; omega) (by have := ed_le l k n m (i + 1) j; have := ed_le l k n m i j; omega) (fun c59_10 => ?_) (fun c59_10 => ?_)
        · skip
          refine g_iconst h (nI 0) dX0_stepFrom_66 (by decide) ?_
          refine g_istore (vs' := [_, _, _, _, _, _]) h dX0_stepFrom_67 (Nat.le_of_ble_eq_true rfl) rfl rfl ?_
          refine g_iload h dX0_stepFrom_69 rfl ?_
          refine g_if_eqN h 78 dX0_stepFrom_71 (by decide) (by decide) (fun c71_11 => ?_) (fun c71_11 => absurd c71_11 (by omega))
          refine g_iconst h (nI 2) dX0_stepFrom_78 (by decide) ?_
          exact g_iret h hr dX0_stepFrom_79 (retI (congrArg nI (by unfold way; grind))) (Nat.le_of_ble_eq_true rfl) (Nat.le_of_ble_eq_true rfl)
        · skip
          refine g_iconst h (nI 1) dX0_stepFrom_62 (by decide) ?_
          refine g_goto h 67 dX0_stepFrom_63 (by decide) ?_
          refine g_istore (vs' := [_, _, _, _, _, _]) h dX0_stepFrom_67 (Nat.le_of_ble_eq_true rfl) rfl rfl ?_
          refine g_iload h dX0_stepFrom_69 rfl ?_
          refine g_if_eqN h 78 dX0_stepFrom_71 (by decide) (by decide) (fun c71_12 => absurd c71_12 (by omega)) (fun c71_12 => ?_)
          refine g_iconst h (nI 1) dX0_stepFrom_74 (by decide) ?_
          refine g_goto h 79 dX0_stepFrom_75 (by decide) ?_
          exact g_iret h hr dX0_stepFrom_79 (retI (congrArg nI (by unfold way; grind))) (Nat.le_of_ble_eq_true rfl) (Nat.le_of_ble_eq_true rfl)
    · skip
      refine g_aload_n h 1 dX0_stepFrom_17 rfl rfl ?_
      refine g_iload_n h 2 dX0_stepFrom_18 rfl rfl ?_
      refine g_callV h [] (r_at (xL X) hr1 hn40 (nI i)) cf_X0_34 cv_X2_at dX0_stepFrom_19 rfl hr1.1 rfl rfl (Nat.le_of_ble_eq_true rfl) ⟨(Nat.le_of_ble_eq_true rfl), (Nat.le_of_ble_eq_true rfl)⟩ ⟨(Nat.le_of_ble_eq_true rfl), (Nat.le_of_ble_eq_true rfl)⟩ ?_
      refine kk_det ?_
      refine g_top (atV_in (by omega) (by omega)) ?_
      refine g_aload_n h 3 dX0_stepFrom_22 rfl rfl ?_
      refine g_iload h dX0_stepFrom_23 rfl ?_
      refine g_callV h [_] (r_at (xL X) hr2 hm40 (nI j)) cf_X0_34 cv_X2_at dX0_stepFrom_25 rfl hr2.1 rfl rfl (Nat.le_of_ble_eq_true rfl) ⟨(Nat.le_of_ble_eq_true rfl), (Nat.le_of_ble_eq_true rfl)⟩ ⟨(Nat.le_of_ble_eq_true rfl), (Nat.le_of_ble_eq_true rfl)⟩ ?_
      refine kk_det ?_
      refine g_top (atV_in (by omega) (by omega)) ?_
      refine g_icmp_ne h 33 dX0_stepFrom_28 (by decide) (fun c28_13 => ?_) (fun c28_13 => ?_)
      · skip
        refine g_aload_n h 1 dX0_stepFrom_33 rfl rfl ?_
        refine g_iload_n h 2 dX0_stepFrom_34 rfl rfl ?_
        refine g_callV h [] (r_has (xL X) hr1 hn40 (nI i)) cf_X0_30 cv_X2_has dX0_stepFrom_35 rfl hr1.1 rfl rfl (Nat.le_of_ble_eq_true rfl) ⟨(Nat.le_of_ble_eq_true rfl), (Nat.le_of_ble_eq_true rfl)⟩ ⟨(Nat.le_of_ble_eq_true rfl), (Nat.le_of_ble_eq_true rfl)⟩ ?_
        refine kk_det ?_
        refine g_top (bI_iff (inR_nI (by omega) (by omega))) ?_
        refine g_if_eqB h 66 dX0_stepFrom_38 (by decide) (fun c38_14 => ?_) (fun c38_14 => ?_)
        · skip
          refine g_iconst h (nI 0) dX0_stepFrom_66 (by decide) ?_
          refine g_istore (vs' := [_, _, _, _, _, _]) h dX0_stepFrom_67 (Nat.le_of_ble_eq_true rfl) rfl rfl ?_
          refine g_iload h dX0_stepFrom_69 rfl ?_
          refine g_if_eqN h 78 dX0_stepFrom_71 (by decide) (by decide) (fun c71_15 => ?_) (fun c71_15 => absurd c71_15 (by omega))
          refine g_iconst h (nI 2) dX0_stepFrom_78 (by decide) ?_
          exact g_iret h hr dX0_stepFrom_79 (retI (congrArg nI (by unfold way; grind))) (Nat.le_of_ble_eq_true rfl) (Nat.le_of_ble_eq_true rfl)
        · skip
          refine g_aload_n h 0 dX0_stepFrom_41 rfl rfl ?_
          refine g_iload_n h 2 dX0_stepFrom_42 rfl rfl ?_
          refine g_iconst h (nI 1) dX0_stepFrom_43 (by decide) ?_
          refine g_iaddN h dX0_stepFrom_44 ?_
          refine g_iload h dX0_stepFrom_45 rfl ?_
          obtain ⟨gg, q1, q2⟩ := hT (i + 1) (by omega)
          refine g_callV h [] (c_X0_leftFrom (xL X) E _ h0 h1 hf (i := i + 1) (j := j) (v := ed l k n m (i + 1) j) q1 (q2 _ (by omega) (by first | omega | (unfold Pd; omega) | exact hP _ _ (by omega))) (by omega) (by omega)) cf_X0_26 cv_X0_leftFrom dX0_stepFrom_47 rfl h0 rfl rfl (Nat.le_of_ble_eq_true rfl) ⟨(Nat.le_of_ble_eq_true rfl), (Nat.le_of_ble_eq_true rfl)⟩ ⟨(Nat.le_of_ble_eq_true rfl), (Nat.le_of_ble_eq_true rfl)⟩ ?_
          refine kk_det ?_
          refine g_iconst h (nI 1) dX0_stepFrom_50 (by decide) ?_
          refine g_iaddN h dX0_stepFrom_51 ?_
          refine g_aload_n h 0 dX0_stepFrom_52 rfl rfl ?_
          refine g_iload_n h 2 dX0_stepFrom_53 rfl rfl ?_
          refine g_iload h dX0_stepFrom_54 rfl ?_
          obtain ⟨gg, q1, q2⟩ := hT (i) (by omega)
          refine g_callV h [_] (c_X0_leftFrom (xL X) E _ h0 h1 hf (i := i) (j := j) (v := ed l k n m i j) q1 (q2 _ (by omega) (by first | omega | (unfold Pd; omega) | exact hP _ _ (by omega))) (by omega) (by omega)) cf_X0_26 cv_X0_leftFrom dX0_stepFrom_56 rfl h0 rfl rfl (Nat.le_of_ble_eq_true rfl) ⟨(Nat.le_of_ble_eq_true rfl), (Nat.le_of_ble_eq_true rfl)⟩ ⟨(Nat.le_of_ble_eq_true rfl), (Nat.le_of_ble_eq_true rfl)⟩ ?_
          refine kk_det ?_
          refine g_icmp_neN h 66 dX0_stepFrom_59 (by decide) (by have := ed_le l k n m (i + 1) j; have := ed_le l k n m i j; omega) (by have := ed_le l k n m (i + 1) j; have := ed_le l k n m i j; omega) (fun c59_16 => ?_) (fun c59_16 => ?_)
          · skip
            refine g_iconst h (nI 0) dX0_stepFrom_66 (by decide) ?_
            refine g_istore (vs' := [_, _, _, _, _, _]) h dX0_stepFrom_67 (Nat.le_of_ble_eq_true rfl) rfl rfl ?_
            refine g_iload h dX0_stepFrom_69 rfl ?_
            refine g_if_eqN h 78 dX0_stepFrom_71 (by decide) (by decide) (fun c71_17 => ?_) (fun c71_17 => absurd c71_17 (by omega))
            refine g_iconst h (nI 2) dX0_stepFrom_78 (by decide) ?_
            exact g_iret h hr dX0_stepFrom_79 (retI (congrArg nI (by unfold way; grind))) (Nat.le_of_ble_eq_true rfl) (Nat.le_of_ble_eq_true rfl)
          · skip
            refine g_iconst h (nI 1) dX0_stepFrom_62 (by decide) ?_
            refine g_goto h 67 dX0_stepFrom_63 (by decide) ?_
            refine g_istore (vs' := [_, _, _, _, _, _]) h dX0_stepFrom_67 (Nat.le_of_ble_eq_true rfl) rfl rfl ?_
            refine g_iload h dX0_stepFrom_69 rfl ?_
            refine g_if_eqN h 78 dX0_stepFrom_71 (by decide) (by decide) (fun c71_18 => absurd c71_18 (by omega)) (fun c71_18 => ?_)
            refine g_iconst h (nI 1) dX0_stepFrom_74 (by decide) ?_
            refine g_goto h 79 dX0_stepFrom_75 (by decide) ?_
            exact g_iret h hr dX0_stepFrom_79 (retI (congrArg nI (by unfold way; grind))) (Nat.le_of_ble_eq_true rfl) (Nat.le_of_ble_eq_true rfl)
      · skip
        refine g_iconst h (nI 0) dX0_stepFrom_31 (by decide) ?_
        exact g_iret h hr dX0_stepFrom_32 (retI (congrArg nI (by unfold way; grind))) (Nat.le_of_ble_eq_true rfl) (Nat.le_of_ble_eq_true rfl)
abbrev rm_X0_stepAt : Room := { frames := 3, cells := 0, slots := 0, locals := 67 }
set_option maxRecDepth 100000 in
set_option maxHeartbeats 4000000 in
theorem c_X0_stepAt (lau : Launch) (E : EnvD) (σ : Sto) {c : Nat} {f : Nat → Option Nat} (h0 : σ.1 c = some (cO 0 [.ref (c + 1)])) (h1 : σ.1 (c + 1) = some (cQ E 5 41 f)) (hf : ∀ i, i < 41 → f i = some (c + 2 + i)) {r1 r2 n m : Nat} {l k : Nat → Int32} (hr1 : RowIs E σ r1 n l) (hr2 : RowIs E σ r2 m k) (hn40 : n ≤ 40) (hm40 : m ≤ 40) {t : Nat} (ht : t < n + m) (hT : TB E c σ (fun a b => a ≤ n ∧ b ≤ m) (ed l k n m)) : CC lau yX0_stepAt cX0_stepAt 8 (some .int) rm_X0_stepAt E [.ref c, .ref r1, .ref r2, .int (nI t)] σ (fun o s => o = some (.int (pth l k n m (n + m) t 0 0)) ∧ s = σ) := by
  refine cc_of (vs := [_, _, _, _, _, _, _, _]) (by decide) (Nat.le_of_ble_eq_true rfl) rfl ?_
  intro X h hr hn
  refine g_iconst h (nI 0) dX0_stepAt_0 (by decide) ?_
  refine g_istore (vs' := [_, _, _, _, _, _, _, _]) h dX0_stepAt_1 (Nat.le_of_ble_eq_true rfl) rfl rfl ?_
  refine g_iconst h (nI 0) dX0_stepAt_3 (by decide) ?_
  refine g_istore (vs' := [_, _, _, _, _, _, _, _]) h dX0_stepAt_4 (Nat.le_of_ble_eq_true rfl) rfl rfl ?_
  refine g_iconst h (nI 0) dX0_stepAt_6 (by decide) ?_
  refine g_istore (vs' := [_, _, _, _, _, _, _, _]) h dX0_stepAt_7 (Nat.le_of_ble_eq_true rfl) rfl rfl ?_
  have L9 : ∀ (m0 : Nat) (i : Nat) (j : Nat) (q : Nat), (i ≤ n) → (j ≤ m) → (q ≤ t) → (pth l k n m (n + m - q) (t - q) i j = pth l k n m (n + m) t 0 0) → (n + m - q) < m0 → G X E 8 (AD σ) (QF X E σ (fun o s => o = some (.int (pth l k n m (n + m) t 0 0)) ∧ s = σ) rm_X0_stepAt) 0 0 9 [some (.ref c), some (.ref r1), some (.ref r2), some (.int (nI t)), some (.int (nI i)), some (.int (nI j)), some (.int (nI q)), none] [] σ := by
    intro m0
    induction m0 with
    | zero => intro i j q _ _ _ _ hm0; exact absurd hm0 (Nat.not_lt_zero _)
    | succ m0 ih =>
      intro i j q hi hj hq hR hm0
      refine g_iload h dX0_stepAt_9 rfl ?_
      refine g_aload_n h 1 dX0_stepAt_11 rfl rfl ?_
      refine g_get h 1 fa_X0_16 dX0_stepAt_12 hr1.1 rfl ?_
      refine g_aload_n h 2 dX0_stepAt_15 rfl rfl ?_
      refine g_get h 1 fa_X0_16 dX0_stepAt_16 hr2.1 rfl ?_
      refine g_iaddN h dX0_stepAt_19 ?_
      refine g_icmp_geN h 86 dX0_stepAt_20 (by decide) (by omega) (by omega) (fun c20_1 => absurd c20_1 (by omega)) (fun c20_1 => ?_)
      refine g_aload_n h 1 dX0_stepAt_23 rfl rfl ?_
      refine g_iload h dX0_stepAt_24 rfl ?_
      refine g_callV h [] (r_has (xL X) hr1 hn40 (nI i)) cf_X0_30 cv_X2_has dX0_stepAt_26 rfl hr1.1 rfl rfl (Nat.le_of_ble_eq_true rfl) ⟨(Nat.le_of_ble_eq_true rfl), (Nat.le_of_ble_eq_true rfl)⟩ ⟨(Nat.le_of_ble_eq_true rfl), (Nat.le_of_ble_eq_true rfl)⟩ ?_
      refine kk_det ?_
      refine g_top (bI_iff (inR_nI (by omega) (by omega))) ?_
      refine g_if_neB h 41 dX0_stepAt_29 (by decide) (fun c29_2 => ?_) (fun c29_2 => ?_)
      · skip
        refine g_aload_n h 0 dX0_stepAt_41 rfl rfl ?_
        refine g_aload_n h 1 dX0_stepAt_42 rfl rfl ?_
        refine g_iload h dX0_stepAt_43 rfl ?_
        refine g_aload_n h 2 dX0_stepAt_45 rfl rfl ?_
        refine g_iload h dX0_stepAt_46 rfl ?_
        refine g_callV h [] (c_X0_stepFrom (xL X) E _ h0 h1 hf hr1 hr2 hn40 hm40 (i := i) (j := j) (by omega) (by omega) hT) cf_X0_43 cv_X0_stepFrom dX0_stepAt_48 rfl h0 rfl rfl (Nat.le_of_ble_eq_true rfl) ⟨(Nat.le_of_ble_eq_true rfl), (Nat.le_of_ble_eq_true rfl)⟩ ⟨(Nat.le_of_ble_eq_true rfl), (Nat.le_of_ble_eq_true rfl)⟩ ?_
        refine kk_det ?_
        have hw2 := @way_le l k n m i j
        refine g_istore (vs' := [_, _, _, _, _, _, _, _]) h dX0_stepAt_51 (Nat.le_of_ble_eq_true rfl) rfl rfl ?_
        refine g_iload h dX0_stepAt_53 rfl ?_
        refine g_iload_n h 3 dX0_stepAt_55 rfl rfl ?_
        refine g_icmp_neN h 62 dX0_stepAt_56 (by decide) (by omega) (by omega) (fun c56_3 => ?_) (fun c56_3 => ?_)
        · skip
          refine g_iload h dX0_stepAt_62 rfl ?_
          refine g_iconst h (nI 2) dX0_stepAt_64 (by decide) ?_
          refine g_icmp_eqN h 71 dX0_stepAt_65 (by decide) (by omega) (by decide) (fun c65_4 => ?_) (fun c65_4 => ?_)
          · skip
            refine g_iload h dX0_stepAt_71 rfl ?_
            refine g_iconst h (nI 1) dX0_stepAt_73 (by decide) ?_
            refine g_icmp_eqN h 80 dX0_stepAt_74 (by decide) (by omega) (by decide) (fun c74_5 => ?_) (fun c74_5 => ?_)
            · skip
              refine g_iinc (vs' := [_, _, _, _, _, _, _, _]) h (nI (q + 1)) dX0_stepAt_80 rfl (by first | exact nI_1 _ | rfl) (Nat.le_of_ble_eq_true rfl) rfl rfl ?_
              refine g_goto h 9 dX0_stepAt_83 (by decide) ?_
              refine g_few (vs' := [some (.ref c), some (.ref r1), some (.ref r2), some (.int (nI t)), some (.int (nI i)), some (.int (nI j)), some (.int (nI (q + 1))), none]) ⟨Or.inr rfl, Or.inr rfl, Or.inr rfl, Or.inr rfl, Or.inr rfl, Or.inr rfl, Or.inr rfl, Or.inl rfl, trivial⟩ ?_
              have hij : i < n ∨ j < m := by omega
              have w1 := @way_i l k n m i j hij
              have w2 := @way_j l k n m i j hij
              refine ih (i) (j) (q + 1) (by omega) (by omega) (by omega) ?_ (by omega)
              rw [← hR, show n + m - q = (n + m - (q + 1)) + 1 by omega, pth, if_pos hij, if_neg (by omega), if_pos (by omega), if_pos (by omega), show t - (q + 1) = t - q - 1 by omega]
            · skip
              refine g_iinc (vs' := [_, _, _, _, _, _, _, _]) h (nI (j + 1)) dX0_stepAt_77 rfl (by first | exact nI_1 _ | rfl) (Nat.le_of_ble_eq_true rfl) rfl rfl ?_
              refine g_iinc (vs' := [_, _, _, _, _, _, _, _]) h (nI (q + 1)) dX0_stepAt_80 rfl (by first | exact nI_1 _ | rfl) (Nat.le_of_ble_eq_true rfl) rfl rfl ?_
              refine g_goto h 9 dX0_stepAt_83 (by decide) ?_
              refine g_few (vs' := [some (.ref c), some (.ref r1), some (.ref r2), some (.int (nI t)), some (.int (nI i)), some (.int (nI (j + 1))), some (.int (nI (q + 1))), none]) ⟨Or.inr rfl, Or.inr rfl, Or.inr rfl, Or.inr rfl, Or.inr rfl, Or.inr rfl, Or.inr rfl, Or.inl rfl, trivial⟩ ?_
              have hij : i < n ∨ j < m := by omega
              have w1 := @way_i l k n m i j hij
              have w2 := @way_j l k n m i j hij
              refine ih (i) (j + 1) (q + 1) (by omega) (by omega) (by omega) ?_ (by omega)
              rw [← hR, show n + m - q = (n + m - (q + 1)) + 1 by omega, pth, if_pos hij, if_neg (by omega), if_pos (by omega), if_neg (by omega), show t - (q + 1) = t - q - 1 by omega]
          · skip
            refine g_iinc (vs' := [_, _, _, _, _, _, _, _]) h (nI (i + 1)) dX0_stepAt_68 rfl (by first | exact nI_1 _ | rfl) (Nat.le_of_ble_eq_true rfl) rfl rfl ?_
            refine g_iload h dX0_stepAt_71 rfl ?_
            refine g_iconst h (nI 1) dX0_stepAt_73 (by decide) ?_
            refine g_icmp_eqN h 80 dX0_stepAt_74 (by decide) (by omega) (by decide) (fun c74_6 => ?_) (fun c74_6 => ?_)
            · skip
              refine g_iinc (vs' := [_, _, _, _, _, _, _, _]) h (nI (q + 1)) dX0_stepAt_80 rfl (by first | exact nI_1 _ | rfl) (Nat.le_of_ble_eq_true rfl) rfl rfl ?_
              refine g_goto h 9 dX0_stepAt_83 (by decide) ?_
              refine g_few (vs' := [some (.ref c), some (.ref r1), some (.ref r2), some (.int (nI t)), some (.int (nI (i + 1))), some (.int (nI j)), some (.int (nI (q + 1))), none]) ⟨Or.inr rfl, Or.inr rfl, Or.inr rfl, Or.inr rfl, Or.inr rfl, Or.inr rfl, Or.inr rfl, Or.inl rfl, trivial⟩ ?_
              have hij : i < n ∨ j < m := by omega
              have w1 := @way_i l k n m i j hij
              have w2 := @way_j l k n m i j hij
              refine ih (i + 1) (j) (q + 1) (by omega) (by omega) (by omega) ?_ (by omega)
              rw [← hR, show n + m - q = (n + m - (q + 1)) + 1 by omega, pth, if_pos hij, if_neg (by omega), if_neg (by omega), if_pos (by omega), show t - (q + 1) = t - q - 1 by omega]
            · skip
              refine g_iinc (vs' := [_, _, _, _, _, _, _, _]) h (nI (j + 1)) dX0_stepAt_77 rfl (by first | exact nI_1 _ | rfl) (Nat.le_of_ble_eq_true rfl) rfl rfl ?_
              refine g_iinc (vs' := [_, _, _, _, _, _, _, _]) h (nI (q + 1)) dX0_stepAt_80 rfl (by first | exact nI_1 _ | rfl) (Nat.le_of_ble_eq_true rfl) rfl rfl ?_
              refine g_goto h 9 dX0_stepAt_83 (by decide) ?_
              refine g_few (vs' := [some (.ref c), some (.ref r1), some (.ref r2), some (.int (nI t)), some (.int (nI (i + 1))), some (.int (nI (j + 1))), some (.int (nI (q + 1))), none]) ⟨Or.inr rfl, Or.inr rfl, Or.inr rfl, Or.inr rfl, Or.inr rfl, Or.inr rfl, Or.inr rfl, Or.inl rfl, trivial⟩ ?_
              have hij : i < n ∨ j < m := by omega
              have w1 := @way_i l k n m i j hij
              have w2 := @way_j l k n m i j hij
              refine ih (i + 1) (j + 1) (q + 1) (by omega) (by omega) (by omega) ?_ (by omega)
              rw [← hR, show n + m - q = (n + m - (q + 1)) + 1 by omega, pth, if_pos hij, if_neg (by omega), if_neg (by omega), if_neg (by omega), show t - (q + 1) = t - q - 1 by omega]
        · skip
          refine g_iload h dX0_stepAt_59 rfl ?_
          exact g_iret h hr dX0_stepAt_61 (retI (by rw [← hR, show n + m - q = (n + m - (q + 1)) + 1 by omega, pth, if_pos (by omega), if_pos (by omega)])) (Nat.le_of_ble_eq_true rfl) (Nat.le_of_ble_eq_true rfl)
      · skip
        refine g_aload_n h 2 dX0_stepAt_32 rfl rfl ?_
        refine g_iload h dX0_stepAt_33 rfl ?_
        refine g_callV h [] (r_has (xL X) hr2 hm40 (nI j)) cf_X0_30 cv_X2_has dX0_stepAt_35 rfl hr2.1 rfl rfl (Nat.le_of_ble_eq_true rfl) ⟨(Nat.le_of_ble_eq_true rfl), (Nat.le_of_ble_eq_true rfl)⟩ ⟨(Nat.le_of_ble_eq_true rfl), (Nat.le_of_ble_eq_true rfl)⟩ ?_
        refine kk_det ?_
        refine g_top (bI_iff (inR_nI (by omega) (by omega))) ?_
        refine g_if_eqB h 86 dX0_stepAt_38 (by decide) (fun c38_7 => ?_) (fun c38_7 => ?_)
        · skip
          refine g_iconst h (-1) dX0_stepAt_86 (by decide) ?_
          exact g_iret h hr dX0_stepAt_87 (retI (by rw [← hR, show n + m - q = (n + m - (q + 1)) + 1 by omega, pth, if_neg (by omega)])) (Nat.le_of_ble_eq_true rfl) (Nat.le_of_ble_eq_true rfl)
        · skip
          refine g_aload_n h 0 dX0_stepAt_41 rfl rfl ?_
          refine g_aload_n h 1 dX0_stepAt_42 rfl rfl ?_
          refine g_iload h dX0_stepAt_43 rfl ?_
          refine g_aload_n h 2 dX0_stepAt_45 rfl rfl ?_
          refine g_iload h dX0_stepAt_46 rfl ?_
          refine g_callV h [] (c_X0_stepFrom (xL X) E _ h0 h1 hf hr1 hr2 hn40 hm40 (i := i) (j := j) (by omega) (by omega) hT) cf_X0_43 cv_X0_stepFrom dX0_stepAt_48 rfl h0 rfl rfl (Nat.le_of_ble_eq_true rfl) ⟨(Nat.le_of_ble_eq_true rfl), (Nat.le_of_ble_eq_true rfl)⟩ ⟨(Nat.le_of_ble_eq_true rfl), (Nat.le_of_ble_eq_true rfl)⟩ ?_
          refine kk_det ?_
          have hw2 := @way_le l k n m i j
          refine g_istore (vs' := [_, _, _, _, _, _, _, _]) h dX0_stepAt_51 (Nat.le_of_ble_eq_true rfl) rfl rfl ?_
          refine g_iload h dX0_stepAt_53 rfl ?_
          refine g_iload_n h 3 dX0_stepAt_55 rfl rfl ?_
          refine g_icmp_neN h 62 dX0_stepAt_56 (by decide) (by omega) (by omega) (fun c56_8 => ?_) (fun c56_8 => ?_)
          · skip
            refine g_iload h dX0_stepAt_62 rfl ?_
            refine g_iconst h (nI 2) dX0_stepAt_64 (by decide) ?_
            refine g_icmp_eqN h 71 dX0_stepAt_65 (by decide) (by omega) (by decide) (fun c65_9 => ?_) (fun c65_9 => ?_)
            · skip
              refine g_iload h dX0_stepAt_71 rfl ?_
              refine g_iconst h (nI 1) dX0_stepAt_73 (by decide) ?_
              refine g_icmp_eqN h 80 dX0_stepAt_74 (by decide) (by omega) (by decide) (fun c74_10 => ?_) (fun c74_10 => ?_)
              · skip
                refine g_iinc (vs' := [_, _, _, _, _, _, _, _]) h (nI (q + 1)) dX0_stepAt_80 rfl (by first | exact nI_1 _ | rfl) (Nat.le_of_ble_eq_true rfl) rfl rfl ?_
                refine g_goto h 9 dX0_stepAt_83 (by decide) ?_
                refine g_few (vs' := [some (.ref c), some (.ref r1), some (.ref r2), some (.int (nI t)), some (.int (nI i)), some (.int (nI j)), some (.int (nI (q + 1))), none]) ⟨Or.inr rfl, Or.inr rfl, Or.inr rfl, Or.inr rfl, Or.inr rfl, Or.inr rfl, Or.inr rfl, Or.inl rfl, trivial⟩ ?_
                have hij : i < n ∨ j < m := by omega
                have w1 := @way_i l k n m i j hij
                have w2 := @way_j l k n m i j hij
                refine ih (i) (j) (q + 1) (by omega) (by omega) (by omega) ?_ (by omega)
                rw [← hR, show n + m - q = (n + m - (q + 1)) + 1 by omega, pth, if_pos hij, if_neg (by omega), if_pos (by omega), if_pos (by omega), show t - (q + 1) = t - q - 1 by omega]
              · skip
                refine g_iinc (vs' := [_, _, _, _, _, _, _, _]) h (nI (j + 1)) dX0_stepAt_77 rfl (by first | exact nI_1 _ | rfl) (Nat.le_of_ble_eq_true rfl) rfl rfl ?_
                refine g_iinc (vs' := [_, _, _, _, _, _, _, _]) h (nI (q + 1)) dX0_stepAt_80 rfl (by first | exact nI_1 _ | rfl) (Nat.le_of_ble_eq_true rfl) rfl rfl ?_
                refine g_goto h 9 dX0_stepAt_83 (by decide) ?_
                refine g_few (vs' := [some (.ref c), some (.ref r1), some (.ref r2), some (.int (nI t)), some (.int (nI i)), some (.int (nI (j + 1))), some (.int (nI (q + 1))), none]) ⟨Or.inr rfl, Or.inr rfl, Or.inr rfl, Or.inr rfl, Or.inr rfl, Or.inr rfl, Or.inr rfl, Or.inl rfl, trivial⟩ ?_
                have hij : i < n ∨ j < m := by omega
                have w1 := @way_i l k n m i j hij
                have w2 := @way_j l k n m i j hij
                refine ih (i) (j + 1) (q + 1) (by omega) (by omega) (by omega) ?_ (by omega)
                rw [← hR, show n + m - q = (n + m - (q + 1)) + 1 by omega, pth, if_pos hij, if_neg (by omega), if_pos (by omega), if_neg (by omega), show t - (q + 1) = t - q - 1 by omega]
            · skip
              refine g_iinc (vs' := [_, _, _, _, _, _, _, _]) h (nI (i + 1)) dX0_stepAt_68 rfl (by first | exact nI_1 _ | rfl) (Nat.le_of_ble_eq_true rfl) rfl rfl ?_
              refine g_iload h dX0_stepAt_71 rfl ?_
              refine g_iconst h (nI 1) dX0_stepAt_73 (by decide) ?_
              refine g_icmp_eqN h 80 dX0_stepAt_74 (by decide) (by omega) (by decide) (fun c74_11 => ?_) (fun c74_11 => ?_)
              · skip
                refine g_iinc (vs' := [_, _, _, _, _, _, _, _]) h (nI (q + 1)) dX0_stepAt_80 rfl (by first | exact nI_1 _ | rfl) (Nat.le_of_ble_eq_true rfl) rfl rfl ?_
                refine g_goto h 9 dX0_stepAt_83 (by decide) ?_
                refine g_few (vs' := [some (.ref c), some (.ref r1), some (.ref r2), some (.int (nI t)), some (.int (nI (i + 1))), some (.int (nI j)), some (.int (nI (q + 1))), none]) ⟨Or.inr rfl, Or.inr rfl, Or.inr rfl, Or.inr rfl, Or.inr rfl, Or.inr rfl, Or.inr rfl, Or.inl rfl, trivial⟩ ?_
                have hij : i < n ∨ j < m := by omega
                have w1 := @way_i l k n m i j hij
                have w2 := @way_j l k n m i j hij
                refine ih (i + 1) (j) (q + 1) (by omega) (by omega) (by omega) ?_ (by omega)
                rw [← hR, show n + m - q = (n + m - (q + 1)) + 1 by omega, pth, if_pos hij, if_neg (by omega), if_neg (by omega), if_pos (by omega), show t - (q + 1) = t - q - 1 by omega]
              · skip
                refine g_iinc (vs' := [_, _, _, _, _, _, _, _]) h (nI (j + 1)) dX0_stepAt_77 rfl (by first | exact nI_1 _ | rfl) (Nat.le_of_ble_eq_true rfl) rfl rfl ?_
                refine g_iinc (vs' := [_, _, _, _, _, _, _, _]) h (nI (q + 1)) dX0_stepAt_80 rfl (by first | exact nI_1 _ | rfl) (Nat.le_of_ble_eq_true rfl) rfl rfl ?_
                refine g_goto h 9 dX0_stepAt_83 (by decide) ?_
                refine g_few (vs' := [some (.ref c), some (.ref r1), some (.ref r2), some (.int (nI t)), some (.int (nI (i + 1))), some (.int (nI (j + 1))), some (.int (nI (q + 1))), none]) ⟨Or.inr rfl, Or.inr rfl, Or.inr rfl, Or.inr rfl, Or.inr rfl, Or.inr rfl, Or.inr rfl, Or.inl rfl, trivial⟩ ?_
                have hij : i < n ∨ j < m := by omega
                have w1 := @way_i l k n m i j hij
                have w2 := @way_j l k n m i j hij
                refine ih (i + 1) (j + 1) (q + 1) (by omega) (by omega) (by omega) ?_ (by omega)
                rw [← hR, show n + m - q = (n + m - (q + 1)) + 1 by omega, pth, if_pos hij, if_neg (by omega), if_neg (by omega), if_neg (by omega), show t - (q + 1) = t - q - 1 by omega]
          · skip
            refine g_iload h dX0_stepAt_59 rfl ?_
            exact g_iret h hr dX0_stepAt_61 (retI (by rw [← hR, show n + m - q = (n + m - (q + 1)) + 1 by omega, pth, if_pos (by omega), if_pos (by omega)])) (Nat.le_of_ble_eq_true rfl) (Nat.le_of_ble_eq_true rfl)
  exact L9 (n + m + 1) 0 0 0 (by omega) (by omega) (by omega) rfl (by omega)
abbrev rm_X0_compare : Room := { frames := 3, cells := 0, slots := 0, locals := 66 }
set_option maxRecDepth 100000 in
set_option maxHeartbeats 4000000 in
theorem c_X0_compare (lau : Launch) (E : EnvD) (σ : Sto) {c : Nat} {f : Nat → Option Nat} (h0 : σ.1 c = some (cO 0 [.ref (c + 1)])) (h1 : σ.1 (c + 1) = some (cQ E 5 41 f)) (hf : ∀ i, i < 41 → f i = some (c + 2 + i)) {r1 r2 n m : Nat} {l k : Nat → Int32} (hr1 : RowIs E σ r1 n l) (hr2 : RowIs E σ r2 m k) (hn40 : n ≤ 40) (hm40 : m ≤ 40) (ho1 : r1 + 1 < c ∨ c + 43 ≤ r1) (ho2 : r2 + 1 < c ∨ c + 43 ≤ r2) (hCh : ∀ i, i < 41 → ∃ g, σ.1 (c + 2 + i) = some (cI E 41 g)) : CC lau yX0_compare cX0_compare 5 none rm_X0_compare E [.ref c, .ref r1, .ref r2] σ (fun o s => o = none ∧ s.2 = σ.2 ∧ (∀ a, ¬ (c + 2 ≤ a ∧ a < c + 43) → s.1 a = σ.1 a) ∧ TB E c s (fun a b => a ≤ n ∧ b ≤ m) (ed l k n m)) := by
  refine cc_of (vs := [_, _, _, _, _]) (by decide) (Nat.le_of_ble_eq_true rfl) rfl ?_
  intro X h hr hn
  refine g_aload_n h 1 dX0_compare_0 rfl rfl ?_
  refine g_get h 1 fa_X0_16 dX0_compare_1 hr1.1 rfl ?_
  refine g_istore_n (vs' := [_, _, _, _, _]) h 3 dX0_compare_4 rfl (Nat.le_of_ble_eq_true rfl) rfl rfl ?_
  refine g_few (vs' := [some (.ref c), some (.ref r1), some (.ref r2), some (.int (nI n)), none]) ⟨Or.inr rfl, Or.inr rfl, Or.inr rfl, Or.inr rfl, Or.inl rfl, trivial⟩ ?_
  have L5 : ∀ (m0 : Nat) (e : Nat) (x3 : Int32) (s1 : Sto), (e ≤ n + 1) → ((e = 0 ∧ x3 = -1) ∨ ∃ i, e = i + 1 ∧ x3 = nI i) → (s1.2 = σ.2) → (∀ a, ¬ (c + 2 ≤ a ∧ a < c + 43) → s1.1 a = σ.1 a) → (TB E c s1 (fun a b => e ≤ a ∧ a ≤ n ∧ b ≤ m) (ed l k n m)) → e < m0 → G X E 5 (AD σ) (QF X E σ (fun o s => o = none ∧ s.2 = σ.2 ∧ (∀ a, ¬ (c + 2 ≤ a ∧ a < c + 43) → s.1 a = σ.1 a) ∧ TB E c s (fun a b => a ≤ n ∧ b ≤ m) (ed l k n m)) rm_X0_compare) 0 0 5 [some (.ref c), some (.ref r1), some (.ref r2), some (.int x3), none] [] s1 := by
    intro m0
    induction m0 with
    | zero => intro e x3 s1 _ _ _ _ _ hm0; exact absurd hm0 (Nat.not_lt_zero _)
    | succ m0 ih =>
      intro e x3 s1 he hx3 hz hA hT hm0
      refine g_iload_n h 3 dX0_compare_5 rfl rfl ?_
      refine g_if_lt h 50 dX0_compare_6 (by decide) (fun c6_1 => ?_) (fun c6_1 => ?_)
      · skip
        have he0 : e = 0 := by
          rcases hx3 with q | ⟨i, q1, q2⟩
          · exact q.1
          · subst q2; exact absurd c6_1 (nI_pos (by omega))
        subst he0
        exact g_vret h hr dX0_compare_50 (⟨rfl, hz, hA, fun a ha => by obtain ⟨g, q1, q2⟩ := hT a ha; exact ⟨g, q1, fun b hb q => q2 b hb (by omega)⟩⟩) (Nat.le_of_ble_eq_true rfl) (Nat.le_of_ble_eq_true rfl)
      · skip
        obtain ⟨i, rfl, rfl⟩ : ∃ i, e = i + 1 ∧ x3 = nI i := by
          rcases hx3 with q | q
          · rw [q.2] at c6_1; exact absurd (by decide) c6_1
          · exact q
        have k0 : s1.1 c = some (cO 0 [.ref (c + 1)]) := (hA c (by omega)).trans h0
        have k1 : s1.1 (c + 1) = some (cQ E 5 41 f) := (hA _ (by omega)).trans h1
        have kr1 : RowIs E s1 r1 n l := hr1.fr (hA _ (by omega)) (hA _ (by omega))
        have kr2 : RowIs E s1 r2 m k := hr2.fr (hA _ (by omega)) (hA _ (by omega))
        refine g_aload_n h 2 dX0_compare_9 rfl rfl ?_
        refine g_get h 1 fa_X0_16 dX0_compare_10 kr2.1 rfl ?_
        refine g_istore (vs' := [_, _, _, _, _]) h dX0_compare_13 (Nat.le_of_ble_eq_true rfl) rfl rfl ?_
        clear k0 k1 kr1 kr2 hx3
        have L15 : ∀ (m0 : Nat) (d : Nat) (x4 : Int32) (s1 : Sto), (d ≤ m + 1) → ((d = 0 ∧ x4 = -1) ∨ ∃ j, d = j + 1 ∧ x4 = nI j) → (s1.2 = σ.2) → (∀ a, ¬ (c + 2 ≤ a ∧ a < c + 43) → s1.1 a = σ.1 a) → (TB E c s1 (fun a b => (i < a ∧ a ≤ n ∧ b ≤ m) ∨ (a = i ∧ d ≤ b ∧ b ≤ m)) (ed l k n m)) → d < m0 → G X E 5 (AD σ) (QF X E σ (fun o s => o = none ∧ s.2 = σ.2 ∧ (∀ a, ¬ (c + 2 ≤ a ∧ a < c + 43) → s.1 a = σ.1 a) ∧ TB E c s (fun a b => a ≤ n ∧ b ≤ m) (ed l k n m)) rm_X0_compare) 0 0 15 [some (.ref c), some (.ref r1), some (.ref r2), some (.int (nI i)), some (.int x4)] [] s1 := by
          intro m0
          induction m0 with
          | zero => intro d x4 s1 _ _ _ _ _ hm0; exact absurd hm0 (Nat.not_lt_zero _)
          | succ m0 ih2 =>
            intro d x4 s1 hd hx4 hz hA hT hm0
            refine g_iload h dX0_compare_15 rfl ?_
            refine g_if_lt h 44 dX0_compare_17 (by decide) (fun c17_2 => ?_) (fun c17_2 => ?_)
            · skip
              have hd0 : d = 0 := by
                rcases hx4 with q | ⟨i, q1, q2⟩
                · exact q.1
                · subst q2; exact absurd c17_2 (nI_pos (by omega))
              subst hd0
              refine g_iinc (vs' := [_, _, _, _, _]) h (nI i + -1) dX0_compare_44 rfl rfl (Nat.le_of_ble_eq_true rfl) rfl rfl ?_
              refine g_goto h 5 dX0_compare_47 (by decide) ?_
              refine g_few (vs' := [some (.ref c), some (.ref r1), some (.ref r2), some (.int (nI i + -1)), none]) ⟨Or.inr rfl, Or.inr rfl, Or.inr rfl, Or.inr rfl, Or.inl rfl, trivial⟩ ?_
              exact ih i (nI i + -1) s1 (by omega) (by rcases Nat.eq_zero_or_pos i with e | e; (· subst e; exact Or.inl ⟨rfl, by decide⟩); (· exact Or.inr ⟨i - 1, by omega, nI_dec e⟩)) hz hA (fun a ha => by obtain ⟨g, q1, q2⟩ := hT a ha; exact ⟨g, q1, fun b hb q => q2 b hb (by omega)⟩) (by omega)
            · skip
              obtain ⟨j, rfl, rfl⟩ : ∃ j, d = j + 1 ∧ x4 = nI j := by
                rcases hx4 with q | q
                · rw [q.2] at c17_2; exact absurd (by decide) c17_2
                · exact q
              have k0 : s1.1 c = some (cO 0 [.ref (c + 1)]) := (hA c (by omega)).trans h0
              have k1 : s1.1 (c + 1) = some (cQ E 5 41 f) := (hA _ (by omega)).trans h1
              have kr1 : RowIs E s1 r1 n l := hr1.fr (hA _ (by omega)) (hA _ (by omega))
              have kr2 : RowIs E s1 r2 m k := hr2.fr (hA _ (by omega)) (hA _ (by omega))
              obtain ⟨gi, e1, e2⟩ := hT i (by omega)
              refine g_aload_n h 0 dX0_compare_20 rfl rfl ?_
              refine g_get h 0 fa_X0_11 dX0_compare_21 k0 rfl ?_
              refine g_iload_n h 3 dX0_compare_24 rfl rfl ?_
              refine g_aald h 5 (v := .ref (c + 2 + i)) dX0_compare_25 rfl rfl k1 (by omega) (by omega) (by rw [hf _ (by omega)]; rfl) ?_
              refine g_iload h dX0_compare_26 rfl ?_
              refine g_aload_n h 0 dX0_compare_28 rfl rfl ?_
              refine g_aload_n h 1 dX0_compare_29 rfl rfl ?_
              refine g_iload_n h 3 dX0_compare_30 rfl rfl ?_
              refine g_aload_n h 2 dX0_compare_31 rfl rfl ?_
              refine g_iload h dX0_compare_32 rfl ?_
              refine g_callV h [_, _] (c_X0_differenceFrom (xL X) E _ k0 k1 hf kr1 kr2 hn40 hm40 (i := i) (j := j) (Pd := fun a b => (i < a ∧ a ≤ n ∧ b ≤ m) ∨ (a = i ∧ j < b ∧ b ≤ m)) (by omega) (by omega) hT (fun a b q => by omega)) cf_X0_22 cv_X0_differenceFrom dX0_compare_34 rfl k0 rfl rfl (Nat.le_of_ble_eq_true rfl) ⟨(Nat.le_of_ble_eq_true rfl), (Nat.le_of_ble_eq_true rfl)⟩ ⟨(Nat.le_of_ble_eq_true rfl), (Nat.le_of_ble_eq_true rfl)⟩ ?_
              refine kk_det ?_
              refine g_iast h dX0_compare_37 e1 (by omega) (by omega) ?_
              refine g_iinc (vs' := [_, _, _, _, _]) h (nI j + -1) dX0_compare_38 rfl rfl (Nat.le_of_ble_eq_true rfl) rfl rfl ?_
              refine g_goto h 15 dX0_compare_41 (by decide) ?_
              refine ih2 j _ _ (by omega) (by rcases Nat.eq_zero_or_pos j with e | e; (· subst e; exact Or.inl ⟨rfl, by decide⟩); (· exact Or.inr ⟨j - 1, by omega, nI_dec e⟩)) hz (fun a ha => (sup_ne (by omega)).trans (hA a ha)) ?_ (by omega)
              exact hT.put (by omega) (by omega) e1 e2 rfl (fun a b q => by omega)
        exact L15 (m + 2) (m + 1) (nI m) s1 (by omega) (Or.inr ⟨m, rfl, rfl⟩) hz hA (fun a ha => by obtain ⟨g, q1, q2⟩ := hT a ha; exact ⟨g, q1, fun b hb q => q2 b hb (by omega)⟩) (by omega)
  exact L5 (n + 2) (n + 1) (nI n) σ (by omega) (Or.inr ⟨n, rfl, rfl⟩) rfl (fun _ _ => rfl) (fun a ha => by obtain ⟨g, q⟩ := hCh a ha; exact ⟨g, q, fun b hb q => by omega⟩) (by omega)
end
section
/-! tours through sets of towns (own work; walks by program) -/
def pop (v : Nat) : Nat := (v.testBit 0).toNat + (v.testBit 1).toNat + (v.testBit 2).toNat + (v.testBit 3).toNat + (v.testBit 4).toNat + (v.testBit 5).toNat + (v.testBit 6).toNat + (v.testBit 7).toNat
/-- v is within w -/
def sbs (v w : Nat) : Prop := ∀ i, v.testBit i = true → w.testBit i = true
theorem pop_or : ∀ v, v < 256 → ∀ t, t < 8 → v.testBit t = false → pop (v ||| 2 ^ t) = pop v + 1 ∧ v ||| 2 ^ t < 256 ∧ v < v ||| 2 ^ t ∧ pop v ≤ 7 := by decide +kernel
theorem pop_rm : ∀ v, v < 256 → ∀ t, t < 8 → v.testBit t = true → pop (v ^^^ 2 ^ t) + 1 = pop v ∧ v ^^^ 2 ^ t < 256 ∧ v ^^^ 2 ^ t < v := by decide +kernel
theorem pop_le : ∀ v, v < 256 → pop v ≤ 8 := by decide +kernel
theorem pop_0 : ∀ v, v < 256 → (pop v = 0 ↔ v = 0) := by decide +kernel
theorem any_bit : ∀ v, v < 256 → v ≠ 0 → ∃ t, t < 8 ∧ v.testBit t = true := by decide +kernel
theorem pop_xor {a b : Nat} (h : sbs b a) : pop (a ^^^ b) + pop b = pop a := by
  have key : ∀ i, ((a ^^^ b).testBit i).toNat + (b.testBit i).toNat = (a.testBit i).toNat := by
    intro i
    have := h i
    rw [Nat.testBit_xor]
    cases ha : a.testBit i <;> cases hb : b.testBit i <;> simp_all
  unfold pop
  have := key 0; have := key 1; have := key 2; have := key 3; have := key 4; have := key 5; have := key 6; have := key 7
  omega
theorem xor_sub {a b t : Nat} (h : sbs b a) (ht : (a ^^^ b).testBit t = true) : b.testBit t = false ∧ sbs (b ||| 2 ^ t) a ∧ a ^^^ (b ||| 2 ^ t) = (a ^^^ b) ^^^ 2 ^ t := by
  rw [Nat.testBit_xor] at ht
  have hb : b.testBit t = false := by
    have := h t
    cases ha : a.testBit t <;> cases hb : b.testBit t <;> simp_all
  have ha : a.testBit t = true := by rw [hb] at ht; simpa using ht
  refine ⟨hb, fun i hi => ?_, Nat.eq_of_testBit_eq fun i => ?_⟩
  · rw [Nat.testBit_or, Nat.testBit_two_pow, Bool.or_eq_true] at hi
    rcases hi with q | q
    · exact h i q
    · have : t = i := by simpa using q
      rw [← this]; exact ha
  · simp only [Nat.testBit_xor, Nat.testBit_or, Nat.testBit_two_pow]
    by_cases e : t = i
    · subst e
      simp [hb, ha]
    · simp [e]
theorem sbs_self {a : Nat} : sbs a a := fun _ h => h
theorem sbs_0 {a : Nat} : sbs 0 a := fun i h => by simp at h
theorem sbs_eq {a b : Nat} (h : sbs b a) (e : a ^^^ b = 0) : b = a := by
  apply Nat.eq_of_testBit_eq
  intro i
  have h1 : (a ^^^ b).testBit i = false := by rw [e]; simp
  rw [Nat.testBit_xor] at h1
  have := h i
  cases ha : a.testBit i <;> cases hb : b.testBit i <;> simp_all
theorem xor_lt {a b : Nat} (ha : a < 256) (hb : b < 256) : a ^^^ b < 256 := Nat.xor_lt_two_pow (n := 8) ha hb
/-- the first of the best among the first n -/
def bestT (c : Nat → Nat) (R : Nat) : Nat → Option Nat
  | 0 => none
  | n + 1 => if R.testBit n = true then (match bestT c R n with | none => some n | some b => if c n < c b then some n else some b) else bestT c R n
theorem bestT_in {c : Nat → Nat} {R : Nat} : ∀ {n t}, bestT c R n = some t → t < n ∧ R.testBit t = true
  | 0, t, h => by cases h
  | n + 1, t, h => by
    have ih := @bestT_in c R n
    unfold bestT at h
    by_cases hb : R.testBit n = true
    · rw [if_pos hb] at h
      cases hm : bestT c R n with
      | none =>
        rw [hm] at h
        cases h
        exact ⟨Nat.lt_succ_self _, hb⟩
      | some b =>
        rw [hm] at h
        have h2 := ih hm
        by_cases hc : c n < c b
        · simp only [if_pos hc] at h
          cases h
          exact ⟨Nat.lt_succ_self _, hb⟩
        · simp only [if_neg hc] at h
          cases h
          exact ⟨by omega, h2.2⟩
    · rw [if_neg hb] at h
      have h2 := ih h
      exact ⟨by omega, h2.2⟩
theorem bestT_none {c : Nat → Nat} {R : Nat} : ∀ {n}, bestT c R n = none → ∀ t, t < n → R.testBit t = false
  | 0, _, t, ht => absurd ht (Nat.not_lt_zero _)
  | n + 1, h, t, ht => by
    have ih := @bestT_none c R n
    unfold bestT at h
    by_cases hb : R.testBit n = true
    · rw [if_pos hb] at h
      exfalso
      cases hm : bestT c R n with
      | none => rw [hm] at h; cases h
      | some b =>
        rw [hm] at h
        by_cases hc : c n < c b
        · simp only [if_pos hc] at h; cases h
        · simp only [if_neg hc] at h; cases h
    · rw [if_neg hb] at h
      rcases Nat.lt_or_ge t n with q | q
      · exact ih h t q
      · rw [show t = n by omega]
        simpa using hb
/-- it is the least, and the first of these -/
theorem bestT_min {c : Nat → Nat} {R : Nat} : ∀ {n t}, bestT c R n = some t → ∀ u, u < n → R.testBit u = true → c t ≤ c u ∧ (u < t → c t < c u)
  | 0, t, h => by cases h
  | n + 1, t, h => by
    have ih := @bestT_min c R n
    have hin := @bestT_in c R n
    intro u hu hub
    unfold bestT at h
    by_cases hb : R.testBit n = true
    · rw [if_pos hb] at h
      cases hm : bestT c R n with
      | none =>
        rw [hm] at h
        cases h
        rcases Nat.lt_or_ge u n with q | q
        · have := bestT_none hm u q
          rw [hub] at this
          cases this
        · have : u = n := by omega
          subst this
          exact ⟨Nat.le_refl _, fun z => absurd z (Nat.lt_irrefl _)⟩
      | some b =>
        rw [hm] at h
        have h2 := hin hm
        by_cases hc : c n < c b
        · simp only [if_pos hc] at h
          cases h
          rcases Nat.lt_or_ge u n with q | q
          · have := ih hm u q hub
            exact ⟨by omega, fun _ => by omega⟩
          · have : u = n := by omega
            subst this
            exact ⟨Nat.le_refl _, fun z => absurd z (Nat.lt_irrefl _)⟩
        · simp only [if_neg hc] at h
          cases h
          rcases Nat.lt_or_ge u n with q | q
          · exact ih hm u q hub
          · have : u = n := by omega
            subst this
            exact ⟨by omega, fun z => by omega⟩
    · rw [if_neg hb] at h
      rcases Nat.lt_or_ge u n with q | q
      · exact ih h u q hub
      · have : u = n := by omega
        subst this
        exact absurd hub hb
theorem bestT_cong {c d : Nat → Nat} {R : Nat} : ∀ {n}, (∀ t, t < n → R.testBit t = true → c t = d t) → bestT c R n = bestT d R n
  | 0, _ => rfl
  | n + 1, h => by
    have ih := @bestT_cong c d R n (fun t ht => h t (by omega))
    unfold bestT
    rw [ih]
    by_cases hb : R.testBit n = true
    · rw [if_pos hb, if_pos hb]
      cases hm : bestT d R n with
      | none => rfl
      | some b =>
        have h2 := bestT_in hm
        simp only
        rw [h n (Nat.lt_succ_self _) hb, h b (by omega) h2.2]
    · rw [if_neg hb, if_neg hb]
/-- the fewest cuts of what remains: f towns of R, all in all; ct by town and stop -/
def Fm (ct : Nat → Nat → Nat) (all : Nat) : Nat → Nat → Nat
  | 0, _ => 0
  | f + 1, R => match bestT (fun t => ct t (all - (f + 1)) + Fm ct all f (R ^^^ 2 ^ t)) R 8 with
    | none => 0
    | some t => ct t (all - (f + 1)) + Fm ct all f (R ^^^ 2 ^ t)
theorem Fm_s {ct : Nat → Nat → Nat} {all f R : Nat} : Fm ct all (f + 1) R = match bestT (fun t => ct t (all - (f + 1)) + Fm ct all f (R ^^^ 2 ^ t)) R 8 with
    | none => 0
    | some t => ct t (all - (f + 1)) + Fm ct all f (R ^^^ 2 ^ t) := rfl
def nxT (ct : Nat → Nat → Nat) (all f R : Nat) : Option Nat := bestT (fun t => ct t (all - f) + Fm ct all (f - 1) (R ^^^ 2 ^ t)) R 8
/-- the order: its k-th town -/
def trT (ct : Nat → Nat → Nat) (all : Nat) : Nat → Nat → Nat → Nat
  | 0, _, _ => 0
  | f + 1, R, k => match k with
    | 0 => (nxT ct all (f + 1) R).getD 0
    | k + 1 => trT ct all f (R ^^^ 2 ^ ((nxT ct all (f + 1) R).getD 0)) k
theorem Fm_le {ct : Nat → Nat → Nat} (h : ∀ t k, ct t k ≤ 40) {all : Nat} : ∀ f R, Fm ct all f R ≤ 40 * f
  | 0, _ => Nat.le_refl 0
  | f + 1, R => by
    unfold Fm
    cases hm : bestT (fun t => ct t (all - (f + 1)) + Fm ct all f (R ^^^ 2 ^ t)) R 8 with
    | none => simp
    | some t =>
      have h1 := h t (all - (f + 1))
      have h2 := Fm_le h (all := all) f (R ^^^ 2 ^ t)
      simp only
      omega
def oN (o : Option Nat) : Int32 := match o with
  | none => -1
  | some t => nI t
def bc1 (i : Int32) : Int32 := i - ((i.toUInt32 >>> ((nI 1).toUInt32 &&& Int32.toUInt32 31)).toInt32 &&& nI 1431655765)
def bc2 (i : Int32) : Int32 := (i &&& nI 858993459) + ((i.toUInt32 >>> ((nI 2).toUInt32 &&& Int32.toUInt32 31)).toInt32 &&& nI 858993459)
def bc3 (i : Int32) : Int32 := (i + (i.toUInt32 >>> ((nI 4).toUInt32 &&& Int32.toUInt32 31)).toInt32) &&& nI 252645135
def bc4 (i : Int32) : Int32 := i + (i.toUInt32 >>> ((nI 8).toUInt32 &&& Int32.toUInt32 31)).toInt32
def bc5 (i : Int32) : Int32 := i + (i.toUInt32 >>> ((nI 16).toUInt32 &&& Int32.toUInt32 31)).toInt32
theorem bitc : ∀ v, v < 256 → bc5 (bc4 (bc3 (bc2 (bc1 (nI v))))) &&& nI 63 = nI (pop v) := by decide +kernel
theorem shl_N : ∀ t, t < 8 → nI 1 <<< (nI t &&& 31) = nI (2 ^ t) := by decide +kernel
theorem bt_N : ∀ R, R < 256 → ∀ t, t < 8 → bt (nI R).toInt64 t = R.testBit t := by decide +kernel
theorem xor_m1 : ∀ v, v < 256 → nI v ^^^ (-1) = Int32.ofInt (-1 - (v : Int)) := by decide +kernel
theorem pow_lt : ∀ t, t < 8 → 2 ^ t < 256 := by decide +kernel
theorem nI_andnot {a b : Nat} (ha : a < 256) (hb : b < 256) (h : sbs b a) : nI a &&& (nI b ^^^ (-1)) = nI (a ^^^ b) := by
  apply Int32.toBitVec_inj.mp
  apply BitVec.eq_of_getLsbD_eq
  intro i hi
  have e : ∀ n : Nat, (nI n).toBitVec = BitVec.ofNat 32 n := fun n => rfl
  have e1 : (-1 : Int32).toBitVec = BitVec.allOnes 32 := by decide
  rw [Int32.toBitVec_and, BitVec.getLsbD_and, Int32.toBitVec_xor, BitVec.getLsbD_xor, e, e, e, e1, BitVec.getLsbD_ofNat, BitVec.getLsbD_ofNat, BitVec.getLsbD_ofNat, BitVec.getLsbD_allOnes, Nat.testBit_xor]
  have := h i
  cases hx : a.testBit i <;> cases hy : b.testBit i <;> simp_all
theorem nI_andnot0 {a b : Nat} (ha : a < 256) (hb : b < 256) : nI b &&& (nI a ^^^ (-1)) = 0 ↔ sbs b a := by
  have e : ∀ n : Nat, (nI n).toBitVec = BitVec.ofNat 32 n := fun n => rfl
  have e1 : (-1 : Int32).toBitVec = BitVec.allOnes 32 := by decide
  have key : ∀ i, i < 32 → (nI b &&& (nI a ^^^ (-1))).toBitVec.getLsbD i = (b.testBit i && !a.testBit i) := by
    intro i hi
    rw [Int32.toBitVec_and, BitVec.getLsbD_and, Int32.toBitVec_xor, BitVec.getLsbD_xor, e, e, e1, BitVec.getLsbD_ofNat, BitVec.getLsbD_ofNat, BitVec.getLsbD_allOnes]
    cases hx : a.testBit i <;> cases hy : b.testBit i <;> simp_all
  constructor
  · intro h i hi
    have hi8 : i < 8 := by
      rcases Nat.lt_or_ge i 8 with q | q
      · exact q
      · rw [Nat.testBit_lt_two_pow (Nat.lt_of_lt_of_le hb (Nat.pow_le_pow_right (by omega) q : 2 ^ 8 ≤ 2 ^ i))] at hi
        cases hi
    have k := key i (by omega)
    rw [h] at k
    simp at k
    have := k hi
    simpa using this
  · intro h
    apply Int32.toBitVec_inj.mp
    apply BitVec.eq_of_getLsbD_eq
    intro i hi
    rw [key i hi]
    have := h i
    cases hx : a.testBit i <;> cases hy : b.testBit i <;> simp_all
theorem m1n : ∀ b, b < 256 → nI b ≠ -1 := by decide +kernel
theorem hW_of {tw v : Nat} {ct : Nat → Nat → Nat} {gf : Nat → Int32} (h40 : ∀ t k, ct t k ≤ 40) (hG : ∀ u, u < 256 → v < u → sbs u tw → gf u = nI (Fm ct (pop tw) (pop (tw ^^^ u)) (tw ^^^ u))) (htw : tw < 256) (hv : v < 256) (hs : sbs v tw) :
    ∀ t, t < 8 → (tw ^^^ v).testBit t = true → gf (v ||| 2 ^ t) = nI (Fm ct (pop tw) (pop (tw ^^^ v) - 1) ((tw ^^^ v) ^^^ 2 ^ t)) ∧ Fm ct (pop tw) (pop (tw ^^^ v) - 1) ((tw ^^^ v) ^^^ 2 ^ t) ≤ 1000 := by
  intro t ht hb
  obtain ⟨x1, x2, x3⟩ := xor_sub hs hb
  obtain ⟨p1, p2, p3, p4⟩ := pop_or v hv t ht x1
  obtain ⟨q1, q2, q3⟩ := pop_rm _ (xor_lt htw hv) t ht hb
  have := hG _ p2 p3 x2
  rw [x3, show pop ((tw ^^^ v) ^^^ 2 ^ t) = pop (tw ^^^ v) - 1 by omega] at this
  have l1 := Fm_le h40 (all := pop tw) (pop (tw ^^^ v) - 1) ((tw ^^^ v) ^^^ 2 ^ t)
  have l2 := pop_le _ (xor_lt htw hv)
  exact ⟨this, by omega⟩
theorem nx_eq {tw v : Nat} {ct : Nat → Nat → Nat} (hs : sbs v tw) : (bestT (fun t => ct t (pop v) + Fm ct (pop tw) (pop (tw ^^^ v) - 1) ((tw ^^^ v) ^^^ 2 ^ t)) (tw ^^^ v) 8) = nxT ct (pop tw) (pop (tw ^^^ v)) (tw ^^^ v) := by
  unfold nxT
  have := pop_xor hs
  rw [show pop tw - pop (tw ^^^ v) = pop v by omega]
theorem Fm_nx {tw v : Nat} {ct : Nat → Nat → Nat} (htw : tw < 256) (hv : v < 256) (hs : sbs v tw) : Fm ct (pop tw) (pop (tw ^^^ v)) (tw ^^^ v) = match nxT ct (pop tw) (pop (tw ^^^ v)) (tw ^^^ v) with | none => 0 | some t => ct t (pop v) + Fm ct (pop tw) (pop (tw ^^^ v) - 1) ((tw ^^^ v) ^^^ 2 ^ t) := by
  have e := pop_xor hs
  cases hp : pop (tw ^^^ v) with
  | zero =>
    have hz := (pop_0 _ (xor_lt htw hv)).mp hp
    rw [hz]
    rfl
  | succ f =>
    rw [hp] at e
    rw [Fm_s]
    unfold nxT
    rw [show pop tw - (f + 1) = pop v by omega]
    rfl
abbrev rm_J6_bitCount_0f7a4 : Room := { frames := 0, cells := 0, slots := 0, locals := 0 }
set_option maxRecDepth 100000 in
set_option maxHeartbeats 4000000 in
theorem c_J6_bitCount (lau : Launch) (E : EnvD) (σ : Sto) {v : Nat} (hv : v < 256) : CC lau yJ6_bitCount_0f7a4 cJ6_bitCount_0f7a4 1 (some .int) rm_J6_bitCount_0f7a4 E [.int (nI v)] σ (fun o s => o = some (.int (nI (pop v))) ∧ s = σ) := by
  refine cc_of (vs := [_]) (by decide) (Nat.le_of_ble_eq_true rfl) rfl ?_
  intro X h hr hn
  refine g_iload_n h 0 dJ6_bitCount_0f7a4_0 rfl rfl ?_
  refine g_iload_n h 0 dJ6_bitCount_0f7a4_1 rfl rfl ?_
  refine g_iconst h (nI 1) dJ6_bitCount_0f7a4_2 (by decide) ?_
  refine g_iushr h dJ6_bitCount_0f7a4_3 ?_
  refine g_ldcw h 1431655765 lc_J6_265 dJ6_bitCount_0f7a4_4 ?_
  refine g_top (y := nI 1431655765) (by decide) ?_
  refine g_iand h dJ6_bitCount_0f7a4_7 ?_
  refine g_isub h dJ6_bitCount_0f7a4_8 ?_
  refine g_nm (fun y1 ey1 => ?_)
  have ey1 : y1 = bc1 (nI v) := ey1
  refine g_istore_n (vs' := [_]) h 0 dJ6_bitCount_0f7a4_9 rfl (Nat.le_of_ble_eq_true rfl) rfl rfl ?_
  refine g_iload_n h 0 dJ6_bitCount_0f7a4_10 rfl rfl ?_
  refine g_ldcw h 858993459 lc_J6_266 dJ6_bitCount_0f7a4_11 ?_
  refine g_top (y := nI 858993459) (by decide) ?_
  refine g_iand h dJ6_bitCount_0f7a4_14 ?_
  refine g_iload_n h 0 dJ6_bitCount_0f7a4_15 rfl rfl ?_
  refine g_iconst h (nI 2) dJ6_bitCount_0f7a4_16 (by decide) ?_
  refine g_iushr h dJ6_bitCount_0f7a4_17 ?_
  refine g_ldcw h 858993459 lc_J6_266 dJ6_bitCount_0f7a4_18 ?_
  refine g_top (y := nI 858993459) (by decide) ?_
  refine g_iand h dJ6_bitCount_0f7a4_21 ?_
  refine g_iadd h dJ6_bitCount_0f7a4_22 ?_
  refine g_nm (fun y2 ey2 => ?_)
  have ey2 : y2 = bc2 y1 := ey2
  refine g_istore_n (vs' := [_]) h 0 dJ6_bitCount_0f7a4_23 rfl (Nat.le_of_ble_eq_true rfl) rfl rfl ?_
  refine g_iload_n h 0 dJ6_bitCount_0f7a4_24 rfl rfl ?_
  refine g_iload_n h 0 dJ6_bitCount_0f7a4_25 rfl rfl ?_
  refine g_iconst h (nI 4) dJ6_bitCount_0f7a4_26 (by decide) ?_
  refine g_iushr h dJ6_bitCount_0f7a4_27 ?_
  refine g_iadd h dJ6_bitCount_0f7a4_28 ?_
  refine g_ldcw h 252645135 lc_J6_267 dJ6_bitCount_0f7a4_29 ?_
  refine g_top (y := nI 252645135) (by decide) ?_
  refine g_iand h dJ6_bitCount_0f7a4_32 ?_
  refine g_nm (fun y3 ey3 => ?_)
  have ey3 : y3 = bc3 y2 := ey3
  refine g_istore_n (vs' := [_]) h 0 dJ6_bitCount_0f7a4_33 rfl (Nat.le_of_ble_eq_true rfl) rfl rfl ?_
  refine g_iload_n h 0 dJ6_bitCount_0f7a4_34 rfl rfl ?_
  refine g_iload_n h 0 dJ6_bitCount_0f7a4_35 rfl rfl ?_
  refine g_bipush h (nI 8) dJ6_bitCount_0f7a4_36 (by decide) ?_
  refine g_iushr h dJ6_bitCount_0f7a4_38 ?_
  refine g_iadd h dJ6_bitCount_0f7a4_39 ?_
  refine g_nm (fun y4 ey4 => ?_)
  have ey4 : y4 = bc4 y3 := ey4
  refine g_istore_n (vs' := [_]) h 0 dJ6_bitCount_0f7a4_40 rfl (Nat.le_of_ble_eq_true rfl) rfl rfl ?_
  refine g_iload_n h 0 dJ6_bitCount_0f7a4_41 rfl rfl ?_
  refine g_iload_n h 0 dJ6_bitCount_0f7a4_42 rfl rfl ?_
  refine g_bipush h (nI 16) dJ6_bitCount_0f7a4_43 (by decide) ?_
  refine g_iushr h dJ6_bitCount_0f7a4_45 ?_
  refine g_iadd h dJ6_bitCount_0f7a4_46 ?_
  refine g_nm (fun y5 ey5 => ?_)
  have ey5 : y5 = bc5 y4 := ey5
  refine g_istore_n (vs' := [_]) h 0 dJ6_bitCount_0f7a4_47 rfl (Nat.le_of_ble_eq_true rfl) rfl rfl ?_
  refine g_iload_n h 0 dJ6_bitCount_0f7a4_48 rfl rfl ?_
  refine g_bipush h (nI 63) dJ6_bitCount_0f7a4_49 (by decide) ?_
  refine g_iand h dJ6_bitCount_0f7a4_51 ?_
  exact g_iret h hr dJ6_bitCount_0f7a4_52 (retI (by rw [ey5, ey4, ey3, ey2, ey1]; exact bitc v hv)) (Nat.le_of_ble_eq_true rfl) (Nat.le_of_ble_eq_true rfl)
abbrev rm_X4_setCuts : Room := { frames := 1, cells := 0, slots := 0, locals := 20 }
set_option maxRecDepth 100000 in
set_option maxHeartbeats 4000000 in
theorem c_X4_setCuts (lau : Launch) (E : EnvD) (σ : Sto) {c : Nat} {fc : Nat → Option Nat} (h0 : σ.1 c = some (cO 4 [.ref (c + 1), .ref (c + 3), .ref (c + 12)])) (h1 : σ.1 (c + 3) = some (cQ E 5 8 fc)) (hf : ∀ i, i < 8 → fc i = some (c + 4 + i)) {t k : Nat} (x : Int32) {g : Nat → Int32} (h2 : σ.1 (c + 4 + t) = some (cI E 8 g)) (ht : t < 8) (hk : k < 8) : CC lau yX4_setCuts cX4_setCuts 4 none rm_X4_setCuts E [.ref c, .int (nI t), .int (nI k), .int x] σ (fun o s => o = none ∧ s = sup σ (c + 4 + t) (cI E 8 (upd g k x))) := by
  refine cc_of (vs := [_, _, _, _]) (by decide) (Nat.le_of_ble_eq_true rfl) rfl ?_
  intro X h hr hn
  refine g_iload_n h 1 dX4_setCuts_0 rfl rfl ?_
  refine g_callSN h [] (c_X5_isTown (xL X) E _ (nI t)) cf_X4_27 h.2.2.2.2.1.2.2.2.1.2.2.2.2.2.1 cs_X5_isTown dX4_setCuts_1 rfl rfl (Nat.le_of_ble_eq_true rfl) ⟨(Nat.le_of_ble_eq_true rfl), (Nat.le_of_ble_eq_true rfl)⟩ ⟨(Nat.le_of_ble_eq_true rfl), (Nat.le_of_ble_eq_true rfl)⟩ ?_
  refine kk_det ?_
  refine g_top (bI_iff (inR_nI (by omega) (by omega))) ?_
  refine g_if_eqB h 23 dX4_setCuts_4 (by decide) (fun c4_1 => absurd ht c4_1) (fun c4_1 => ?_)
  refine g_iload_n h 2 dX4_setCuts_7 rfl rfl ?_
  refine g_callSN h [] (c_X5_isTown (xL X) E _ (nI k)) cf_X4_27 h.2.2.2.2.1.2.2.2.1.2.2.2.2.2.1 cs_X5_isTown dX4_setCuts_8 rfl rfl (Nat.le_of_ble_eq_true rfl) ⟨(Nat.le_of_ble_eq_true rfl), (Nat.le_of_ble_eq_true rfl)⟩ ⟨(Nat.le_of_ble_eq_true rfl), (Nat.le_of_ble_eq_true rfl)⟩ ?_
  refine kk_det ?_
  refine g_top (bI_iff (inR_nI (by omega) (by omega))) ?_
  refine g_if_eqB h 23 dX4_setCuts_11 (by decide) (fun c11_2 => absurd hk c11_2) (fun c11_2 => ?_)
  refine g_aload_n h 0 dX4_setCuts_14 rfl rfl ?_
  refine g_get h 1 fa_X4_20 dX4_setCuts_15 h0 rfl ?_
  refine g_iload_n h 1 dX4_setCuts_18 rfl rfl ?_
  refine g_aald h 5 (v := .ref (c + 4 + t)) dX4_setCuts_19 rfl rfl h1 (by omega) (by omega) (by rw [hf _ (by omega)]; rfl) ?_
  refine g_iload_n h 2 dX4_setCuts_20 rfl rfl ?_
  refine g_iload_n h 3 dX4_setCuts_21 rfl rfl ?_
  refine g_iast h dX4_setCuts_22 h2 (by omega) (by omega) ?_
  exact g_vret h hr dX4_setCuts_23 (⟨rfl, rfl⟩) (Nat.le_of_ble_eq_true rfl) (Nat.le_of_ble_eq_true rfl)
abbrev rm_X4_cutsBy : Room := { frames := 1, cells := 0, slots := 0, locals := 20 }
set_option maxRecDepth 100000 in
set_option maxHeartbeats 4000000 in
theorem c_X4_cutsBy (lau : Launch) (E : EnvD) (σ : Sto) {c : Nat} {fc : Nat → Option Nat} (h0 : σ.1 c = some (cO 4 [.ref (c + 1), .ref (c + 3), .ref (c + 12)])) (h1 : σ.1 (c + 3) = some (cQ E 5 8 fc)) (hf : ∀ i, i < 8 → fc i = some (c + 4 + i)) {t v w : Nat} {ct : Nat → Nat → Nat} {g gf : Nat → Int32} (h2 : σ.1 (c + 4 + t) = some (cI E 8 g)) (h3 : g (pop v) = nI (ct t (pop v))) (h4 : σ.1 (c + 12) = some (cI E 256 gf)) (h5 : gf (v ||| 2 ^ t) = nI w) (ht : t < 8) (hv : v < 256) (hvt : v.testBit t = false) : CC lau yX4_cutsBy cX4_cutsBy 5 (some .int) rm_X4_cutsBy E [.ref c, .int (nI t), .int (nI v)] σ (fun o s => o = some (.int (nI (ct t (pop v) + w))) ∧ s = σ) := by
  refine cc_of (vs := [_, _, _, _, _]) (by decide) (Nat.le_of_ble_eq_true rfl) rfl ?_
  intro X h hr hn
  refine g_iload_n h 2 dX4_cutsBy_0 rfl rfl ?_
  refine g_callS h [] (c_J6_bitCount (xL X) E _ (v := v) hv) cf_X4_52 cs_J6_bitCount_0f7a4 dX4_cutsBy_1 rfl rfl (Nat.le_of_ble_eq_true rfl) ⟨(Nat.le_of_ble_eq_true rfl), (Nat.le_of_ble_eq_true rfl)⟩ ⟨(Nat.le_of_ble_eq_true rfl), (Nat.le_of_ble_eq_true rfl)⟩ ?_
  refine kk_det ?_
  obtain ⟨p1, p2, p3, p4⟩ := pop_or v hv t ht hvt
  refine g_istore_n (vs' := [_, _, _, _, _]) h 3 dX4_cutsBy_4 rfl (Nat.le_of_ble_eq_true rfl) rfl rfl ?_
  refine g_iload_n h 2 dX4_cutsBy_5 rfl rfl ?_
  refine g_iconst h (nI 1) dX4_cutsBy_6 (by decide) ?_
  refine g_iload_n h 1 dX4_cutsBy_7 rfl rfl ?_
  refine g_ishl h dX4_cutsBy_8 ?_
  refine g_top (shl_N t ht) ?_
  refine g_ior h dX4_cutsBy_9 ?_
  refine g_top (nI_or _ _) ?_
  refine g_istore (vs' := [_, _, _, _, _]) h dX4_cutsBy_10 (Nat.le_of_ble_eq_true rfl) rfl rfl ?_
  refine g_iload_n h 1 dX4_cutsBy_12 rfl rfl ?_
  refine g_callSN h [] (c_X5_isTown (xL X) E _ (nI t)) cf_X4_27 h.2.2.2.2.1.2.2.2.1.2.2.2.2.2.1 cs_X5_isTown dX4_cutsBy_13 rfl rfl (Nat.le_of_ble_eq_true rfl) ⟨(Nat.le_of_ble_eq_true rfl), (Nat.le_of_ble_eq_true rfl)⟩ ⟨(Nat.le_of_ble_eq_true rfl), (Nat.le_of_ble_eq_true rfl)⟩ ?_
  refine kk_det ?_
  refine g_top (bI_iff (inR_nI (by omega) (by omega))) ?_
  refine g_if_eqB h 39 dX4_cutsBy_16 (by decide) (fun c16_1 => absurd ht c16_1) (fun c16_1 => ?_)
  refine g_iload_n h 3 dX4_cutsBy_19 rfl rfl ?_
  refine g_callSN h [] (c_X5_isTown (xL X) E _ (nI (pop v))) cf_X4_27 h.2.2.2.2.1.2.2.2.1.2.2.2.2.2.1 cs_X5_isTown dX4_cutsBy_20 rfl rfl (Nat.le_of_ble_eq_true rfl) ⟨(Nat.le_of_ble_eq_true rfl), (Nat.le_of_ble_eq_true rfl)⟩ ⟨(Nat.le_of_ble_eq_true rfl), (Nat.le_of_ble_eq_true rfl)⟩ ?_
  refine kk_det ?_
  refine g_top (bI_iff (inR_nI (by omega) (by omega))) ?_
  refine g_if_eqB h 39 dX4_cutsBy_23 (by decide) (fun c23_2 => absurd (by omega) c23_2) (fun c23_2 => ?_)
  refine g_iload h dX4_cutsBy_26 rfl ?_
  refine g_if_ltN h 39 dX4_cutsBy_28 (by decide) (by omega) ?_
  refine g_iload h dX4_cutsBy_31 rfl ?_
  refine g_sipush h (nI 255) dX4_cutsBy_33 (by decide) ?_
  refine g_icmp_leN h 41 dX4_cutsBy_36 (by decide) (by omega) (by decide) (fun c36_4 => ?_) (fun c36_4 => absurd c36_4 (by omega))
  refine g_aload_n h 0 dX4_cutsBy_41 rfl rfl ?_
  refine g_get h 1 fa_X4_20 dX4_cutsBy_42 h0 rfl ?_
  refine g_iload_n h 1 dX4_cutsBy_45 rfl rfl ?_
  refine g_aald h 5 (v := .ref (c + 4 + t)) dX4_cutsBy_46 rfl rfl h1 (by omega) (by omega) (by rw [hf _ (by omega)]; rfl) ?_
  refine g_iload_n h 3 dX4_cutsBy_47 rfl rfl ?_
  refine g_iald h dX4_cutsBy_48 h2 (by omega) (by omega) ?_
  refine g_top (y := nI (ct t (pop v))) (h3) ?_
  refine g_aload_n h 0 dX4_cutsBy_49 rfl rfl ?_
  refine g_get h 2 fa_X4_23 dX4_cutsBy_50 h0 rfl ?_
  refine g_iload h dX4_cutsBy_53 rfl ?_
  refine g_iald h dX4_cutsBy_55 h4 (by omega) (by omega) ?_
  refine g_top (y := nI w) (h5) ?_
  refine g_iaddN h dX4_cutsBy_56 ?_
  exact g_iret h hr dX4_cutsBy_57 (⟨rfl, rfl⟩) (Nat.le_of_ble_eq_true rfl) (Nat.le_of_ble_eq_true rfl)
abbrev rm_X4_nextTown : Room := { frames := 2, cells := 0, slots := 0, locals := 44 }
set_option maxRecDepth 100000 in
set_option maxHeartbeats 4000000 in
theorem c_X4_nextTown (lau : Launch) (E : EnvD) (σ : Sto) {c : Nat} {fc : Nat → Option Nat} (h0 : σ.1 c = some (cO 4 [.ref (c + 1), .ref (c + 3), .ref (c + 12)])) (h1 : σ.1 (c + 3) = some (cQ E 5 8 fc)) (hf : ∀ i, i < 8 → fc i = some (c + 4 + i)) {tw v : Nat} {ct : Nat → Nat → Nat} {W : Nat → Nat} {gf : Nat → Int32} (hct : ∀ t, t < 8 → ∃ g, σ.1 (c + 4 + t) = some (cI E 8 g) ∧ ∀ k, k < pop tw → g k = nI (ct t k)) (h40 : ∀ t k, ct t k ≤ 40) (h4 : σ.1 (c + 12) = some (cI E 256 gf)) (hW : ∀ t, t < 8 → (tw ^^^ v).testBit t = true → gf (v ||| 2 ^ t) = nI (W t) ∧ W t ≤ 1000) (htw : tw < 256) (hv : v < 256) (hs : sbs v tw) : CC lau yX4_nextTown cX4_nextTown 5 (some .int) rm_X4_nextTown E [.ref c, .int (nI tw), .int (nI v)] σ (fun o s => o = some (.int (oN (bestT (fun t => ct t (pop v) + W t) (tw ^^^ v) 8))) ∧ s = σ) := by
  refine cc_of (vs := [_, _, _, _, _]) (by decide) (Nat.le_of_ble_eq_true rfl) rfl ?_
  intro X h hr hn
  refine g_iconst h (-1) dX4_nextTown_0 (by decide) ?_
  refine g_istore_n (vs' := [_, _, _, _, _]) h 3 dX4_nextTown_1 rfl (Nat.le_of_ble_eq_true rfl) rfl rfl ?_
  refine g_iconst h (nI 0) dX4_nextTown_2 (by decide) ?_
  refine g_istore (vs' := [_, _, _, _, _]) h dX4_nextTown_3 (Nat.le_of_ble_eq_true rfl) rfl rfl ?_
  have L5 : ∀ (m0 : Nat) (i : Nat) (x3 : Int32), (i ≤ 8) → (x3 = oN (bestT (fun t => ct t (pop v) + W t) (tw ^^^ v) i)) → (8 - i) < m0 → G X E 5 (AD σ) (QF X E σ (fun o s => o = some (.int (oN (bestT (fun t => ct t (pop v) + W t) (tw ^^^ v) 8))) ∧ s = σ) rm_X4_nextTown) 0 0 5 [some (.ref c), some (.int (nI tw)), some (.int (nI v)), some (.int x3), some (.int (nI i))] [] σ := by
    intro m0
    induction m0 with
    | zero => intro i x3 _ _ hm0; exact absurd hm0 (Nat.not_lt_zero _)
    | succ m0 ih =>
      intro i x3 hi hx3 hm0
      refine g_iload h dX4_nextTown_5 rfl ?_
      refine g_bipush h (nI 8) dX4_nextTown_7 (by decide) ?_
      refine g_icmp_geN h 56 dX4_nextTown_9 (by decide) (by omega) (by decide) (fun c9_1 => ?_) (fun c9_1 => ?_)
      · skip
        obtain rfl : i = 8 := by omega
        refine g_iload_n h 3 dX4_nextTown_56 rfl rfl ?_
        exact g_iret h hr dX4_nextTown_57 (retI hx3) (Nat.le_of_ble_eq_true rfl) (Nat.le_of_ble_eq_true rfl)
      · skip
        refine g_iload_n h 1 dX4_nextTown_12 rfl rfl ?_
        refine g_iload_n h 2 dX4_nextTown_13 rfl rfl ?_
        refine g_iconst h (-1) dX4_nextTown_14 (by decide) ?_
        refine g_ixor h dX4_nextTown_15 ?_
        refine g_iand h dX4_nextTown_16 ?_
        refine g_top (nI_andnot htw hv hs) ?_
        refine g_i2l h dX4_nextTown_17 ?_
        refine g_iload h dX4_nextTown_18 rfl ?_
        refine g_callSN h [] (c_X5_hasBit (xL X) E _ _ (b := i) (by omega)) cf_X4_48 h.2.2.2.2.1.2.2.2.1.2.2.2.2.2.2 cs_X5_hasBit dX4_nextTown_20 rfl rfl (Nat.le_of_ble_eq_true rfl) ⟨(Nat.le_of_ble_eq_true rfl), (Nat.le_of_ble_eq_true rfl)⟩ ⟨(Nat.le_of_ble_eq_true rfl), (Nat.le_of_ble_eq_true rfl)⟩ ?_
        refine kk_det ?_
        refine g_top (bI_iff (by rw [bt_N _ (xor_lt htw hv) i (by omega)])) ?_
        refine g_if_eqB h 50 dX4_nextTown_23 (by decide) (fun c23_2 => ?_) (fun c23_2 => ?_)
        · skip
          refine g_iinc (vs' := [_, _, _, _, _]) h (nI (i + 1)) dX4_nextTown_50 rfl (by first | exact nI_1 _ | rfl) (Nat.le_of_ble_eq_true rfl) rfl rfl ?_
          refine g_goto h 5 dX4_nextTown_53 (by decide) ?_
          refine ih (i + 1) (x3) (by omega) ?_ (by omega)
          rw [hx3, bestT, if_neg c23_2]
        · skip
          have hbit := c23_2
          refine g_iload_n h 3 dX4_nextTown_26 rfl rfl ?_
          refine g_iconst h (-1) dX4_nextTown_27 (by decide) ?_
          refine g_icmp_eq h 47 dX4_nextTown_28 (by decide) (fun c28_3 => ?_) (fun c28_3 => ?_)
          · skip
            have hbn : bestT (fun t => ct t (pop v) + W t) (tw ^^^ v) i = none := by
              cases hq : bestT (fun t => ct t (pop v) + W t) (tw ^^^ v) i with
              | none => rfl
              | some b =>
                have := bestT_in hq
                rw [hx3, hq] at c28_3
                exact absurd c28_3 (fun z => by have z2 : nI b = -1 := z; exact absurd z2 (m1n b (by omega)))
            refine g_iload h dX4_nextTown_47 rfl ?_
            refine g_istore_n (vs' := [_, _, _, _, _]) h 3 dX4_nextTown_49 rfl (Nat.le_of_ble_eq_true rfl) rfl rfl ?_
            refine g_iinc (vs' := [_, _, _, _, _]) h (nI (i + 1)) dX4_nextTown_50 rfl (by first | exact nI_1 _ | rfl) (Nat.le_of_ble_eq_true rfl) rfl rfl ?_
            refine g_goto h 5 dX4_nextTown_53 (by decide) ?_
            refine ih (i + 1) (nI i) (by omega) ?_ (by omega)
            rw [bestT, if_pos hbit, hbn]; rfl
          · skip
            obtain ⟨b, hbn⟩ : ∃ b, bestT (fun t => ct t (pop v) + W t) (tw ^^^ v) i = some b := by
              cases hq : bestT (fun t => ct t (pop v) + W t) (tw ^^^ v) i with
              | none => rw [hx3, hq] at c28_3; exact absurd rfl c28_3
              | some b => exact ⟨b, rfl⟩
            have hbb := bestT_in hbn
            obtain rfl : x3 = nI b := by rw [hx3, hbn]; rfl
            refine g_aload_n h 0 dX4_nextTown_31 rfl rfl ?_
            refine g_iload h dX4_nextTown_32 rfl ?_
            refine g_iload_n h 2 dX4_nextTown_34 rfl rfl ?_
            obtain ⟨x1, x2, x3⟩ := xor_sub hs hbit
            obtain ⟨g9, g1, g2⟩ := hct i (by omega)
            obtain ⟨w1, w2⟩ := hW i (by omega) hbit
            have pq := pop_or v hv i (by omega) x1
            have pz : pop v < pop tw := by
              have z1 := pop_xor x2
              omega
            refine g_callV h [] (c_X4_cutsBy (xL X) E _ h0 h1 hf (ct := ct) g1 (g2 _ pz) h4 w1 (by omega) hv x1) cf_X4_45 cv_X4_cutsBy dX4_nextTown_35 rfl h0 rfl rfl (Nat.le_of_ble_eq_true rfl) ⟨(Nat.le_of_ble_eq_true rfl), (Nat.le_of_ble_eq_true rfl)⟩ ⟨(Nat.le_of_ble_eq_true rfl), (Nat.le_of_ble_eq_true rfl)⟩ ?_
            refine kk_det ?_
            have q40i := h40 i (pop v)
            have w40i := w2
            refine g_aload_n h 0 dX4_nextTown_38 rfl rfl ?_
            refine g_iload_n h 3 dX4_nextTown_39 rfl rfl ?_
            refine g_iload_n h 2 dX4_nextTown_40 rfl rfl ?_
            obtain ⟨x1, x2, x3⟩ := xor_sub hs hbb.2
            obtain ⟨g9, g1, g2⟩ := hct b (by omega)
            obtain ⟨w1, w2⟩ := hW b (by omega) hbb.2
            have pq := pop_or v hv b (by omega) x1
            have pz : pop v < pop tw := by
              have z1 := pop_xor x2
              omega
            refine g_callV h [_] (c_X4_cutsBy (xL X) E _ h0 h1 hf (ct := ct) g1 (g2 _ pz) h4 w1 (by omega) hv x1) cf_X4_45 cv_X4_cutsBy dX4_nextTown_41 rfl h0 rfl rfl (Nat.le_of_ble_eq_true rfl) ⟨(Nat.le_of_ble_eq_true rfl), (Nat.le_of_ble_eq_true rfl)⟩ ⟨(Nat.le_of_ble_eq_true rfl), (Nat.le_of_ble_eq_true rfl)⟩ ?_
            refine kk_det ?_
            have q40b := h40 b (pop v)
            have w40b := w2
            refine g_icmp_geN h 50 dX4_nextTown_44 (by decide) (by omega) (by omega) (fun c44_4 => ?_) (fun c44_4 => ?_)
            · skip
              refine g_iinc (vs' := [_, _, _, _, _]) h (nI (i + 1)) dX4_nextTown_50 rfl (by first | exact nI_1 _ | rfl) (Nat.le_of_ble_eq_true rfl) rfl rfl ?_
              refine g_goto h 5 dX4_nextTown_53 (by decide) ?_
              refine ih (i + 1) (nI b) (by omega) ?_ (by omega)
              rw [bestT, if_pos hbit, hbn]; simp only []; rw [if_neg (Nat.not_lt.mpr c44_4)]; rfl
            · skip
              refine g_iload h dX4_nextTown_47 rfl ?_
              refine g_istore_n (vs' := [_, _, _, _, _]) h 3 dX4_nextTown_49 rfl (Nat.le_of_ble_eq_true rfl) rfl rfl ?_
              refine g_iinc (vs' := [_, _, _, _, _]) h (nI (i + 1)) dX4_nextTown_50 rfl (by first | exact nI_1 _ | rfl) (Nat.le_of_ble_eq_true rfl) rfl rfl ?_
              refine g_goto h 5 dX4_nextTown_53 (by decide) ?_
              refine ih (i + 1) (nI i) (by omega) ?_ (by omega)
              rw [bestT, if_pos hbit, hbn]; simp only []; rw [if_pos c44_4]; rfl
  exact L5 9 0 (-1) (by omega) rfl (by omega)
abbrev rm_X4_fewestBehind : Room := { frames := 3, cells := 0, slots := 0, locals := 68 }
set_option maxRecDepth 100000 in
set_option maxHeartbeats 4000000 in
theorem c_X4_fewestBehind (lau : Launch) (E : EnvD) (σ : Sto) {c : Nat} {fc : Nat → Option Nat} (h0 : σ.1 c = some (cO 4 [.ref (c + 1), .ref (c + 3), .ref (c + 12)])) (h1 : σ.1 (c + 3) = some (cQ E 5 8 fc)) (hf : ∀ i, i < 8 → fc i = some (c + 4 + i)) {tw v : Nat} {ct : Nat → Nat → Nat} {gf : Nat → Int32} (hct : ∀ t, t < 8 → ∃ g, σ.1 (c + 4 + t) = some (cI E 8 g) ∧ ∀ k, k < pop tw → g k = nI (ct t k)) (h40 : ∀ t k, ct t k ≤ 40) (h4 : σ.1 (c + 12) = some (cI E 256 gf)) (hG : ∀ u, u < 256 → v < u → sbs u tw → gf u = nI (Fm ct (pop tw) (pop (tw ^^^ u)) (tw ^^^ u))) (htw : tw < 256) (hv : v < 256) (hs : sbs v tw) : CC lau yX4_fewestBehind cX4_fewestBehind 4 (some .int) rm_X4_fewestBehind E [.ref c, .int (nI tw), .int (nI v)] σ (fun o s => o = some (.int (nI (Fm ct (pop tw) (pop (tw ^^^ v)) (tw ^^^ v)))) ∧ s = σ) := by
  refine cc_of (vs := [_, _, _, _]) (by decide) (Nat.le_of_ble_eq_true rfl) rfl ?_
  intro X h hr hn
  refine g_aload_n h 0 dX4_fewestBehind_0 rfl rfl ?_
  refine g_iload_n h 1 dX4_fewestBehind_1 rfl rfl ?_
  refine g_iload_n h 2 dX4_fewestBehind_2 rfl rfl ?_
  refine g_callV h [] (c_X4_nextTown (xL X) E _ h0 h1 hf (v := v) hct h40 h4 (hW_of h40 hG htw hv hs) htw hv hs) cf_X4_38 cv_X4_nextTown dX4_fewestBehind_3 rfl h0 rfl rfl (Nat.le_of_ble_eq_true rfl) ⟨(Nat.le_of_ble_eq_true rfl), (Nat.le_of_ble_eq_true rfl)⟩ ⟨(Nat.le_of_ble_eq_true rfl), (Nat.le_of_ble_eq_true rfl)⟩ ?_
  refine kk_det ?_
  rw [nx_eq hs]
  refine g_nm (fun x3 hx3 => ?_)
  refine g_istore_n (vs' := [_, _, _, _]) h 3 dX4_fewestBehind_6 rfl (Nat.le_of_ble_eq_true rfl) rfl rfl ?_
  refine g_iload_n h 3 dX4_fewestBehind_7 rfl rfl ?_
  refine g_iconst h (-1) dX4_fewestBehind_8 (by decide) ?_
  refine g_icmp_ne h 16 dX4_fewestBehind_9 (by decide) (fun c9_1 => ?_) (fun c9_1 => ?_)
  · skip
    obtain ⟨b, hbn⟩ : ∃ b, nxT ct (pop tw) (pop (tw ^^^ v)) (tw ^^^ v) = some b := by
      cases hq : nxT ct (pop tw) (pop (tw ^^^ v)) (tw ^^^ v) with
      | none => rw [hx3, hq] at c9_1; exact absurd rfl c9_1
      | some b => exact ⟨b, rfl⟩
    have hbb := bestT_in hbn
    obtain rfl : x3 = nI b := by rw [hx3, hbn]; rfl
    obtain ⟨x1, x2, x3⟩ := xor_sub hs hbb.2
    obtain ⟨g9, g1, g2⟩ := hct b hbb.1
    obtain ⟨w1, w2⟩ := hW_of h40 hG htw hv hs b hbb.1 hbb.2
    have pq := pop_or v hv b hbb.1 x1
    have pz : pop v < pop tw := by
      have z1 := pop_xor x2
      omega
    refine g_aload_n h 0 dX4_fewestBehind_16 rfl rfl ?_
    refine g_iload_n h 3 dX4_fewestBehind_17 rfl rfl ?_
    refine g_iload_n h 2 dX4_fewestBehind_18 rfl rfl ?_
    refine g_callV h [] (c_X4_cutsBy (xL X) E _ h0 h1 hf (ct := ct) g1 (g2 _ pz) h4 w1 hbb.1 hv x1) cf_X4_45 cv_X4_cutsBy dX4_fewestBehind_19 rfl h0 rfl rfl (Nat.le_of_ble_eq_true rfl) ⟨(Nat.le_of_ble_eq_true rfl), (Nat.le_of_ble_eq_true rfl)⟩ ⟨(Nat.le_of_ble_eq_true rfl), (Nat.le_of_ble_eq_true rfl)⟩ ?_
    refine kk_det ?_
    exact g_iret h hr dX4_fewestBehind_22 (retI (congrArg nI (by rw [Fm_nx htw hv hs, hbn]))) (Nat.le_of_ble_eq_true rfl) (Nat.le_of_ble_eq_true rfl)
  · skip
    have hbn : nxT ct (pop tw) (pop (tw ^^^ v)) (tw ^^^ v) = none := by
      cases hq : nxT ct (pop tw) (pop (tw ^^^ v)) (tw ^^^ v) with
      | none => rfl
      | some b =>
        have := bestT_in hq
        rw [hx3, hq] at c9_1
        exact absurd c9_1 (fun z => by have z2 : nI b = -1 := z; exact absurd z2 (m1n b (by omega)))
    refine g_iconst h (nI 0) dX4_fewestBehind_12 (by decide) ?_
    refine g_goto h 22 dX4_fewestBehind_13 (by decide) ?_
    exact g_iret h hr dX4_fewestBehind_22 (retI (congrArg nI (by rw [Fm_nx htw hv hs, hbn]))) (Nat.le_of_ble_eq_true rfl) (Nat.le_of_ble_eq_true rfl)
end
section
/-! TourPlan.find (own work; walk by program) -/
theorem RowIs.cong {E : EnvD} {s : Sto} {r n : Nat} {g g' : Nat → Int32} (h : RowIs E s r n g) (e : ∀ i, i < n → g i = g' i) : RowIs E s r n g' := by
  obtain ⟨a, f, b, c⟩ := h
  exact ⟨a, f, b, fun i hi => (c i hi).trans (e i hi)⟩
theorem nxT_some {ct : Nat → Nat → Nat} {all f R : Nat} (hR : R < 256) (h0 : R ≠ 0) : ∃ b, nxT ct all f R = some b ∧ b < 8 ∧ R.testBit b = true := by
  cases h : nxT ct all f R with
  | none =>
    obtain ⟨t, h1, h2⟩ := any_bit R hR h0
    have := bestT_none h t h1
    rw [h2] at this
    cases this
  | some b => exact ⟨b, rfl, bestT_in h⟩
theorem trT_s {ct : Nat → Nat → Nat} {all f R b : Nat} (h : nxT ct all (f + 1) R = some b) : trT ct all (f + 1) R 0 = b ∧ ∀ i, trT ct all (f + 1) R (i + 1) = trT ct all f (R ^^^ 2 ^ b) i := by
  refine ⟨?_, fun i => ?_⟩
  · show (nxT ct all (f + 1) R).getD 0 = b
    rw [h]; rfl
  · show trT ct all f (R ^^^ 2 ^ ((nxT ct all (f + 1) R).getD 0)) i = _
    rw [h]; rfl
abbrev rm_X4_find : Room := { frames := 4, cells := 0, slots := 0, locals := 91 }
set_option maxRecDepth 100000 in
set_option maxHeartbeats 4000000 in
theorem c_X4_find (lau : Launch) (E : EnvD) (σ : Sto) {c : Nat} {fc : Nat → Option Nat} (h0 : σ.1 c = some (cO 4 [.ref (c + 1), .ref (c + 3), .ref (c + 12)])) (h1 : σ.1 (c + 3) = some (cQ E 5 8 fc)) (hf : ∀ i, i < 8 → fc i = some (c + 4 + i)) {tw n0 : Nat} {ct : Nat → Nat → Nat} {gf0 g0 : Nat → Int32} (hct : ∀ t, t < 8 → ∃ g, σ.1 (c + 4 + t) = some (cI E 8 g) ∧ ∀ k, k < pop tw → g k = nI (ct t k)) (h40 : ∀ t k, ct t k ≤ 40) (h4 : σ.1 (c + 12) = some (cI E 256 gf0)) (hro : RowIs E σ (c + 1) n0 g0) (htw : tw < 256) : CC lau yX4_find cX4_find 5 (some .int) rm_X4_find E [.ref c, .int (nI tw)] σ (fun o s => o = some (.int (nI (Fm ct (pop tw) (pop tw) tw))) ∧ s.2 = σ.2 ∧ (∀ a, a ≠ c + 1 → a ≠ c + 2 → a ≠ c + 12 → s.1 a = σ.1 a) ∧ (∃ g, s.1 (c + 12) = some (cI E 256 g)) ∧ RowIs E s (c + 1) (pop tw) (fun k => nI (trT ct (pop tw) (pop tw) tw k))) := by
  refine cc_of (vs := [_, _, _, _, _]) (by decide) (Nat.le_of_ble_eq_true rfl) rfl ?_
  intro X h hr hn
  refine g_sipush h (nI 255) dX4_find_0 (by decide) ?_
  refine g_istore_n (vs' := [_, _, _, _, _]) h 2 dX4_find_3 rfl (Nat.le_of_ble_eq_true rfl) rfl rfl ?_
  refine g_sto (sup_self (e := cI E 256 gf0) h4).symm ?_
  have L4 : ∀ (m0 : Nat) (e : Nat) (x2 : Int32) (gf : Nat → Int32), (e ≤ 256) → ((e = 0 ∧ x2 = -1) ∨ ∃ v, e = v + 1 ∧ x2 = nI v) → (∀ u, u < 256 → e ≤ u → sbs u tw → gf u = nI (Fm ct (pop tw) (pop (tw ^^^ u)) (tw ^^^ u))) → e < m0 → G X E 5 (AD σ) (QF X E σ (fun o s => o = some (.int (nI (Fm ct (pop tw) (pop tw) tw))) ∧ s.2 = σ.2 ∧ (∀ a, a ≠ c + 1 → a ≠ c + 2 → a ≠ c + 12 → s.1 a = σ.1 a) ∧ (∃ g, s.1 (c + 12) = some (cI E 256 g)) ∧ RowIs E s (c + 1) (pop tw) (fun k => nI (trT ct (pop tw) (pop tw) tw k))) rm_X4_find) 0 0 4 [some (.ref c), some (.int (nI tw)), some (.int x2), none, none] [] (sup σ (c + 12) (cI E 256 gf)) := by
    intro m0
    induction m0 with
    | zero => intro e x2 gf _ _ _ hm0; exact absurd hm0 (Nat.not_lt_zero _)
    | succ m0 ih =>
      intro e x2 gf he hx2 hG hm0
      refine g_iload_n h 2 dX4_find_4 rfl rfl ?_
      refine g_if_lt h 34 dX4_find_5 (by decide) (fun c5_1 => ?_) (fun c5_1 => ?_)
      · skip
        have he0 : e = 0 := by
          rcases hx2 with q | ⟨i, q1, q2⟩
          · exact q.1
          · subst q2; exact absurd c5_1 (nI_pos (by omega))
        subst he0
        refine g_few (vs' := [some (.ref c), some (.int (nI tw)), none, none, none]) ⟨Or.inr rfl, Or.inr rfl, Or.inl rfl, Or.inl rfl, Or.inl rfl, trivial⟩ ?_
        have hG0 : ∀ u, u < 256 → sbs u tw → gf u = nI (Fm ct (pop tw) (pop (tw ^^^ u)) (tw ^^^ u)) := fun u hu hs => hG u hu (Nat.zero_le _) hs
        have hro1 : RowIs E (sup σ (c + 12) (cI E 256 gf)) (c + 1) n0 g0 := hro.fr (sup_ne (by omega)) (sup_ne (by omega))
        refine g_aload_n h 0 dX4_find_34 rfl rfl ?_
        refine g_get h 0 fa_X4_12 dX4_find_35 (sup_k h0 h4 (by simp)) rfl ?_
        refine g_callV h [] (r_empty (xL X) hro1 (fun _ => 0)) cf_X4_35 cv_X2_empty dX4_find_38 rfl (sup_k hro.1 h4 (by simp)) rfl rfl (Nat.le_of_ble_eq_true rfl) ⟨(Nat.le_of_ble_eq_true rfl), (Nat.le_of_ble_eq_true rfl)⟩ ⟨(Nat.le_of_ble_eq_true rfl), (Nat.le_of_ble_eq_true rfl)⟩ ?_
        rintro _ s2 ⟨rfl, hch, hri⟩
        have hz : s2.2 = σ.2 := hch.1
        have hA : ∀ a, a ≠ c + 1 → a ≠ c + 2 → a ≠ c + 12 → s2.1 a = σ.1 a := fun a q1 q2 q3 => (hch.2 a q1 (by omega)).trans (sup_ne q3)
        have hg : s2.1 (c + 12) = some (cI E 256 gf) := (hch.2 _ (by omega) (by omega)).trans sup_eq
        have k0 := (hA c (by omega) (by omega) (by omega)).trans h0
        refine g_iconst h (nI 0) dX4_find_41 (by decide) ?_
        refine g_istore_n (vs' := [_, _, _, _, _]) h 2 dX4_find_42 rfl (Nat.le_of_ble_eq_true rfl) rfl rfl ?_
        refine g_iconst h (nI 0) dX4_find_43 (by decide) ?_
        refine g_istore_n (vs' := [_, _, _, _, _]) h 3 dX4_find_44 rfl (Nat.le_of_ble_eq_true rfl) rfl rfl ?_
        clear hx2 he hm0 ih hro1 hch
        have hex := xor_lt (a := tw) (b := 0) htw (by omega)
        have L45 : ∀ (m0 : Nat) (q : Nat) (v : Nat) (gk : Nat → Int32) (s2 : Sto), (v < 256) → (sbs v tw) → (q = pop v) → (s2.2 = σ.2) → (∀ a, a ≠ c + 1 → a ≠ c + 2 → a ≠ c + 12 → s2.1 a = σ.1 a) → (s2.1 (c + 12) = some (cI E 256 gf)) → (RowIs E s2 (c + 1) q gk) → (∀ i, i < q → gk i = nI (trT ct (pop tw) (pop tw) tw i)) → (∀ i, trT ct (pop tw) (pop tw) tw (q + i) = trT ct (pop tw) (pop tw - q) (tw ^^^ v) i) → (9 - q) < m0 → G X E 5 (AD σ) (QF X E σ (fun o s => o = some (.int (nI (Fm ct (pop tw) (pop tw) tw))) ∧ s.2 = σ.2 ∧ (∀ a, a ≠ c + 1 → a ≠ c + 2 → a ≠ c + 12 → s.1 a = σ.1 a) ∧ (∃ g, s.1 (c + 12) = some (cI E 256 g)) ∧ RowIs E s (c + 1) (pop tw) (fun k => nI (trT ct (pop tw) (pop tw) tw k))) rm_X4_find) 0 0 45 [some (.ref c), some (.int (nI tw)), some (.int (nI v)), some (.int (nI q)), none] [] s2 := by
          intro m0
          induction m0 with
          | zero => intro q v gk s2 _ _ _ _ _ _ _ _ _ hm0; exact absurd hm0 (Nat.not_lt_zero _)
          | succ m0 ih =>
            intro q v gk s2 hv hs hq hz hA hg hri hk hsh hm0
            have k0 := (hA c (by omega) (by omega) (by omega)).trans h0
            have pp := pop_xor hs
            have pl8 := pop_le tw htw
            refine g_iload_n h 3 dX4_find_45 rfl rfl ?_
            refine g_bipush h (nI 8) dX4_find_46 (by decide) ?_
            refine g_icmp_geN h 87 dX4_find_48 (by decide) (by omega) (by decide) (fun c48_2 => ?_) (fun c48_2 => ?_)
            · skip
              obtain rfl : v = tw := sbs_eq hs ((pop_0 _ (xor_lt htw hv)).mp (by omega))
              have gz := hG0 0 (by omega) sbs_0
              rw [Nat.xor_zero] at gz
              refine g_aload_n h 0 dX4_find_87 rfl rfl ?_
              refine g_get h 2 fa_X4_23 dX4_find_88 k0 rfl ?_
              refine g_iconst h (nI 0) dX4_find_91 (by decide) ?_
              refine g_iald h dX4_find_92 hg (by omega) (by omega) ?_
              refine g_top (y := nI (Fm ct (pop v) (pop v) v)) (gz) ?_
              exact g_iret h hr dX4_find_93 (⟨rfl, hz, hA, ⟨gf, hg⟩, by subst hq; exact hri.cong hk⟩) (Nat.le_of_ble_eq_true rfl) (Nat.le_of_ble_eq_true rfl)
            · skip
              refine g_iload_n h 2 dX4_find_51 rfl rfl ?_
              refine g_iload_n h 1 dX4_find_52 rfl rfl ?_
              refine g_icmp_eqN h 87 dX4_find_53 (by decide) (by omega) (by omega) (fun c53_3 => ?_) (fun c53_3 => ?_)
              · skip
                obtain rfl : v = tw := c53_3
                have gz := hG0 0 (by omega) sbs_0
                rw [Nat.xor_zero] at gz
                refine g_aload_n h 0 dX4_find_87 rfl rfl ?_
                refine g_get h 2 fa_X4_23 dX4_find_88 k0 rfl ?_
                refine g_iconst h (nI 0) dX4_find_91 (by decide) ?_
                refine g_iald h dX4_find_92 hg (by omega) (by omega) ?_
                refine g_top (y := nI (Fm ct (pop v) (pop v) v)) (gz) ?_
                exact g_iret h hr dX4_find_93 (⟨rfl, hz, hA, ⟨gf, hg⟩, by subst hq; exact hri.cong hk⟩) (Nat.le_of_ble_eq_true rfl) (Nat.le_of_ble_eq_true rfl)
              · skip
                obtain ⟨b, hnb, hb8, hbb⟩ := nxT_some (ct := ct) (all := pop tw) (f := pop (tw ^^^ v)) (xor_lt htw hv) (fun z => c53_3 (sbs_eq hs z))
                obtain ⟨x1, x2, x3⟩ := xor_sub hs hbb
                obtain ⟨p1, p2, p3, p4⟩ := pop_or v hv b hb8 x1
                obtain ⟨r1, r2, r3⟩ := pop_rm _ (xor_lt htw hv) b hb8 hbb
                obtain ⟨f, hf9⟩ : ∃ f, pop (tw ^^^ v) = f + 1 := ⟨pop (tw ^^^ v) - 1, by omega⟩
                rw [hf9] at hnb
                have tr := trT_s hnb
                have hpf : pop tw - q = f + 1 := by omega
                rw [hpf] at hsh
                refine g_aload_n h 0 dX4_find_56 rfl rfl ?_
                refine g_iload_n h 1 dX4_find_57 rfl rfl ?_
                refine g_iload_n h 2 dX4_find_58 rfl rfl ?_
                refine g_callV h [] (c_X4_nextTown (xL X) E _ k0 ((hA _ (by omega) (by omega) (by omega)).trans h1) hf (v := v) (fun t ht => by obtain ⟨g, q1, q2⟩ := hct t ht; exact ⟨g, (hA _ (by omega) (by omega) (by omega)).trans q1, q2⟩) h40 hg (hW_of h40 (fun u hu _ hsu => hG0 u hu hsu) htw hv hs) htw hv hs) cf_X4_38 cv_X4_nextTown dX4_find_59 rfl k0 rfl rfl (Nat.le_of_ble_eq_true rfl) ⟨(Nat.le_of_ble_eq_true rfl), (Nat.le_of_ble_eq_true rfl)⟩ ⟨(Nat.le_of_ble_eq_true rfl), (Nat.le_of_ble_eq_true rfl)⟩ ?_
                refine kk_det ?_
                rw [nx_eq hs, hf9, hnb]
                refine g_top (y := nI b) rfl ?_
                refine g_istore (vs' := [_, _, _, _, _]) h dX4_find_62 (Nat.le_of_ble_eq_true rfl) rfl rfl ?_
                refine g_aload_n h 0 dX4_find_64 rfl rfl ?_
                refine g_get h 0 fa_X4_12 dX4_find_65 k0 rfl ?_
                refine g_iload_n h 3 dX4_find_68 rfl rfl ?_
                refine g_iload h dX4_find_69 rfl ?_
                refine g_callV h [] (r_insert (xL X) hri (i := q) (nI b) (Nat.le_refl _) (by omega)) cf_X4_41 cv_X2_insert dX4_find_71 rfl hri.1 rfl rfl (Nat.le_of_ble_eq_true rfl) ⟨(Nat.le_of_ble_eq_true rfl), (Nat.le_of_ble_eq_true rfl)⟩ ⟨(Nat.le_of_ble_eq_true rfl), (Nat.le_of_ble_eq_true rfl)⟩ ?_
                rintro _ s3 ⟨rfl, hch, hri3⟩
                refine g_iload_n h 2 dX4_find_74 rfl rfl ?_
                refine g_iconst h (nI 1) dX4_find_75 (by decide) ?_
                refine g_iload h dX4_find_76 rfl ?_
                refine g_ishl h dX4_find_78 ?_
                refine g_top (shl_N b hb8) ?_
                refine g_ior h dX4_find_79 ?_
                refine g_top (nI_or _ _) ?_
                refine g_istore_n (vs' := [_, _, _, _, _]) h 2 dX4_find_80 rfl (Nat.le_of_ble_eq_true rfl) rfl rfl ?_
                refine g_iinc (vs' := [_, _, _, _, _]) h (nI (q + 1)) dX4_find_81 rfl (by first | exact nI_1 _ | rfl) (Nat.le_of_ble_eq_true rfl) rfl rfl ?_
                refine g_goto h 45 dX4_find_84 (by decide) ?_
                refine g_few (vs' := [some (.ref c), some (.int (nI tw)), some (.int (nI (v ||| 2 ^ b))), some (.int (nI (q + 1))), none]) ⟨Or.inr rfl, Or.inr rfl, Or.inr rfl, Or.inr rfl, Or.inl rfl, trivial⟩ ?_
                refine ih (q + 1) (v ||| 2 ^ b) _ s3 p2 x2 (by omega) (hch.1.trans hz) (fun a q1 q2 q3 => (hch.2 a q1 (by omega)).trans (hA a q1 q2 q3)) ((hch.2 _ (by omega) (by omega)).trans hg) hri3 ?_ ?_ (by omega)
                · intro i hi
                  unfold insF
                  by_cases e1 : i < q
                  · rw [if_pos e1]; exact hk i e1
                  · obtain rfl : i = q := by omega
                    rw [if_neg e1, if_pos rfl, ← (tr.1), ← hsh 0, Nat.add_zero]
                · intro i
                  rw [x3, show q + 1 + i = q + (i + 1) by omega, hsh (i + 1), tr.2 i, show pop tw - (q + 1) = f by omega]
        exact L45 10 0 0 (fun _ => 0) s2 (by omega) sbs_0 (by decide) hz hA hg hri (fun i hi => absurd hi (Nat.not_lt_zero _)) (fun i => by rw [Nat.zero_add, Nat.xor_zero, Nat.sub_zero]) (by omega)
      · skip
        obtain ⟨v, rfl, rfl⟩ : ∃ v, e = v + 1 ∧ x2 = nI v := by
          rcases hx2 with q | q
          · rw [q.2] at c5_1; exact absurd (by decide) c5_1
          · exact q
        refine g_iload_n h 2 dX4_find_8 rfl rfl ?_
        refine g_iload_n h 1 dX4_find_9 rfl rfl ?_
        refine g_iconst h (-1) dX4_find_10 (by decide) ?_
        refine g_ixor h dX4_find_11 ?_
        refine g_iand h dX4_find_12 ?_
        refine g_if_ne h 28 dX4_find_13 (by decide) (fun c13_4 => ?_) (fun c13_4 => ?_)
        · skip
          refine g_iinc (vs' := [_, _, _, _, _]) h (nI v + -1) dX4_find_28 rfl rfl (Nat.le_of_ble_eq_true rfl) rfl rfl ?_
          refine g_goto h 4 dX4_find_31 (by decide) ?_
          refine ih v _ gf (by omega) (by rcases Nat.eq_zero_or_pos v with e | e; (· subst e; exact Or.inl ⟨rfl, by decide⟩); (· exact Or.inr ⟨v - 1, by omega, nI_dec e⟩)) (fun u hu hvu hsu => ?_) (by omega)
          rcases Nat.lt_or_ge v u with e | e
          · exact hG u hu e hsu
          · exact absurd ((nI_andnot0 htw (by omega)).mpr ((show u = v by omega) ▸ hsu)) c13_4
        · skip
          have hsb := (nI_andnot0 htw (by omega)).mp c13_4
          refine g_aload_n h 0 dX4_find_16 rfl rfl ?_
          refine g_get h 2 fa_X4_23 dX4_find_17 (sup_k h0 h4 (by simp)) rfl ?_
          refine g_iload_n h 2 dX4_find_20 rfl rfl ?_
          refine g_aload_n h 0 dX4_find_21 rfl rfl ?_
          refine g_iload_n h 1 dX4_find_22 rfl rfl ?_
          refine g_iload_n h 2 dX4_find_23 rfl rfl ?_
          refine g_callV h [_, _] (c_X4_fewestBehind (xL X) E _ ((sup_ne (by omega)).trans h0) ((sup_ne (by omega)).trans h1) hf (v := v) (fun t ht => by obtain ⟨g, q1, q2⟩ := hct t ht; exact ⟨g, (sup_ne (by omega)).trans q1, q2⟩) h40 sup_eq (fun u hu hvu hsu => hG u hu (by omega) hsu) htw (by omega) hsb) cf_X4_31 cv_X4_fewestBehind dX4_find_24 rfl (sup_k h0 h4 (by simp)) rfl rfl (Nat.le_of_ble_eq_true rfl) ⟨(Nat.le_of_ble_eq_true rfl), (Nat.le_of_ble_eq_true rfl)⟩ ⟨(Nat.le_of_ble_eq_true rfl), (Nat.le_of_ble_eq_true rfl)⟩ ?_
          refine kk_det ?_
          refine g_iast h dX4_find_27 sup_eq (by omega) (by omega) ?_
          refine g_sto sup_sup ?_
          refine g_iinc (vs' := [_, _, _, _, _]) h (nI v + -1) dX4_find_28 rfl rfl (Nat.le_of_ble_eq_true rfl) rfl rfl ?_
          refine g_goto h 4 dX4_find_31 (by decide) ?_
          refine ih v _ _ (by omega) (by rcases Nat.eq_zero_or_pos v with e | e; (· subst e; exact Or.inl ⟨rfl, by decide⟩); (· exact Or.inr ⟨v - 1, by omega, nI_dec e⟩)) (fun u hu hvu hsu => ?_) (by omega)
          unfold upd
          by_cases e : u = v
          · subst e; rw [if_pos rfl]
          · rw [if_neg e]; exact hG u hu (by omega) hsu
  exact L4 257 256 (nI 255) gf0 (by omega) (Or.inr ⟨255, rfl, rfl⟩) (fun u h1 h2 _ => by omega) (by omega)
end
section
/-! what each call answers, and the state behind it (own work) -/
def cl (x : Int32) : Nat := x.toNatClampNeg
theorem cl_nI {j : Nat} (h : j < 2147483648) : cl (nI j) = j := clampN h
def rwV (S : PSt) (v : Nat) : Nat → Int32 := fun i => nI (sVl S v i)
def insN (l : Nat → Nat) (n i x : Nat) : Nat → Nat := fun q => if q < i then l q else if q = i then x else if q ≤ n then l (q - 1) else l q
def remN (l : Nat → Nat) (n i : Nat) : Nat → Nat := fun q => if i ≤ q ∧ q + 1 < n then l (q + 1) else l q
theorem insF_nI {l : Nat → Nat} {n i x : Nat} : insF (fun i => nI (l i)) n i (nI x) = fun q => nI (insN l n i x q) := by
  funext q
  unfold insF insN
  split
  · rfl
  · split
    · rfl
    · split <;> rfl
theorem remF_nI {l : Nat → Nat} {n i : Nat} : remF (fun i => nI (l i)) n i = fun q => nI (remN l n i q) := by
  funext q
  unfold remF remN
  split <;> rfl
noncomputable def opPut (S : PSt) (v i x : Int32) : Int32 × PSt :=
  cif (inR v 8 ∧ inR i (sVn S (cl v) + 1) ∧ inR x 100) (cif (sVn S (cl v) = 40) (-4, S) (nI (sVn S (cl v) + 1), setV S (cl v) (sVn S (cl v) + 1) (insN (sVl S (cl v)) (sVn S (cl v)) (cl i) (cl x)))) (-2, S)
noncomputable def opTake (S : PSt) (v i : Int32) : Int32 × PSt :=
  cif (inR v 8 ∧ inR i (sVn S (cl v))) (nI (sVl S (cl v) (cl i)), setV S (cl v) (sVn S (cl v) - 1) (remN (sVl S (cl v)) (sVn S (cl v)) (cl i))) (-2, S)
noncomputable def opCopy (S : PSt) (a b : Int32) : Int32 × PSt :=
  cif (inR a 8 ∧ inR b 8) (nI (sVn S (cl a)), setV S (cl b) (sVn S (cl a)) (sVl S (cl a))) (-2, S)
noncomputable def opLineAt (S : PSt) (v i : Int32) : Int32 × PSt := (cif (inR v 8) (atV (sVn S (cl v)) (rwV S (cl v)) i) (-2), S)
noncomputable def opDiffer (S : PSt) (a b : Int32) : Int32 × PSt := (cif (inR a 8 ∧ inR b 8) (nI (ed (rwV S (cl a)) (rwV S (cl b)) (sVn S (cl a)) (sVn S (cl b)) 0 0)) (-2), S)
noncomputable def opStep (S : PSt) (a b x : Int32) : Int32 × PSt := (cif (inR a 8 ∧ inR b 8) (stpV (rwV S (cl a)) (rwV S (cl b)) (sVn S (cl a)) (sVn S (cl b)) x) (-2), S)
noncomputable def opCond (S : PSt) (s x y : Int32) : Int32 × PSt :=
  cif (inR s 7 ∧ inR x 100 ∧ inR y (if s = nI 1 then 41 else 100)) (cif (sCn S = 12) (-4, S) (nI (sCn S), addC S (cl s) (cl x) (cl y))) (-2, S)
def opClear (S : PSt) : Int32 × PSt := (nI (sCn S), clrC S)
/-- the first from c on of k that p holds of -/
noncomputable def fp (p : Nat → Prop) : Nat → Nat → Int32
  | _, 0 => -1
  | c, k + 1 => cif (p c) (nI c) (fp p (c + 1) k)
noncomputable def jdS (S : PSt) (c : Nat) (h : Nat → Int32) (n : Nat) : Nat := jdV (sCs S c) (sCx S c) (sCy S c) h n
noncomputable def opBreaks (S : PSt) (v : Int32) : Int32 × PSt := (cif (inR v 8) (fp (fun c => jdS S c (rwV S (cl v)) (sVn S (cl v)) = 2) 0 (sCn S)) (-2), S)
noncomputable def opHear (S : PSt) (p x : Int32) : Int32 × PSt :=
  cif (inR p 4 ∧ (x = -1 ∨ inR x 100)) (cif (sPn S (cl p) = 40) (-4, S) (nI (sPn S (cl p) + 1), setP S (cl p) (sPn S (cl p) + 1) (insF (sPh S (cl p)) (sPn S (cl p)) (sPn S (cl p)) x))) (-2, S)
noncomputable def opForget (S : PSt) (p : Int32) : Int32 × PSt := cif (inR p 4) (nI (sPn S (cl p)), setP S (cl p) 0 (sPh S (cl p))) (-2, S)
noncomputable def opHeard (S : PSt) (p i : Int32) : Int32 × PSt := (cif (inR p 4 ∧ inR i (sPn S (cl p))) (sPh S (cl p) (cl i)) (-2), S)
noncomputable def opJudge (S : PSt) (p c : Int32) : Int32 × PSt := (cif (inR p 4 ∧ inR c (sCn S)) (nI (jdS S (cl c) (sPh S (cl p)) (sPn S (cl p)))) (-2), S)
noncomputable def vmx (S : PSt) (p : Nat) : Nat → Nat
  | 0 => 0
  | c + 1 => max (vmx S p c) (jdS S c (sPh S p) (sPn S p))
noncomputable def opVerdict (S : PSt) (p : Int32) : Int32 × PSt := (cif (inR p 4) (nI (vmx S (cl p) (sCn S))) (-2), S)
def qrl (f g : Nat → Int32) : Nat → Nat
  | 0 => 0
  | i + 1 => qrl f g i + (if ¬ f i = g i ∧ ¬ f i = -1 ∧ ¬ g i = -1 then 1 else 0)
noncomputable def opBoth (S : PSt) (a b t : Int32) : Int32 × PSt :=
  cif (inR a 4 ∧ inR b 4 ∧ inR t 4) (cif (sPn S (cl a) = sPn S (cl b)) (nI (qrl (sPh S (cl a)) (sPh S (cl b)) (sPn S (cl a))), setP S (cl t) (sPn S (cl a)) (fun i => hb2 (sPh S (cl a) i) (sPh S (cl b) i))) (-3, S)) (-2, S)
/-- whether the things h from i on may be the lines l from j on -/
def mtc (h l : Nat → Int32) (n m i j : Nat) : Prop :=
  if hi : i < n then (if h i = -1 then (mtc h l n m (i + 1) j ∨ ∃ hj : j < m, mtc h l n m i (j + 1)) else ∃ hj : j < m, h i = l j ∧ mtc h l n m (i + 1) (j + 1)) else j = m
termination_by (n - i) + (m - j)
decreasing_by all_goals omega
noncomputable def opMay (S : PSt) (p v : Int32) : Int32 × PSt := (cif (inR p 4 ∧ inR v 8) (bI (mtc (sPh S (cl p)) (rwV S (cl v)) (sPn S (cl p)) (sVn S (cl v)) 0 0)) (-2), S)
noncomputable def opMark (S : PSt) (x m : Int32) : Int32 × PSt := cif (inR x 100 ∧ inR m 256) (nI (sMk S (cl x)), setM S (cl x) (cl m)) (-2, S)
noncomputable def opRule (S : PSt) (t m f o : Int32) : Int32 × PSt :=
  cif (inR t 8 ∧ inR m 256 ∧ inR f 1000 ∧ inR o 1000 ∧ cl f ≤ cl o) (cif (sRn S = 20) (-4, S) (nI (sRn S), addR S (cl t) (cl m) (cl f) (cl o))) (-2, S)
def inF (S : PSt) (i t d : Nat) : Prop := t = sRt S i ∧ sRf S i ≤ d ∧ d ≤ sRo S i
/-- the marks forbidden in a town on a day, by the first rules -/
noncomputable def fbN (S : PSt) (t d : Nat) : Nat → Nat
  | 0 => 0
  | i + 1 => fbN S t d i ||| cif (inF S i t d) (sRm S i) 0
def cutC (S : PSt) (v fb : Nat) : Nat → Nat
  | 0 => 0
  | i + 1 => cutC S v fb i + (if sMk S (sVl S v i) &&& fb = 0 then 0 else 1)
noncomputable def cutN (S : PSt) (v t d : Nat) : Nat := cutC S v (fbN S t d (sRn S)) (sVn S v)
noncomputable def opCut (S : PSt) (v t d : Int32) : Int32 × PSt := (cif (inR v 8 ∧ inR t 8 ∧ inR d 1000) (nI (cutN S (cl v) (cl t) (cl d))) (-2), S)
/-- the places that are kept -/
def kep (S : PSt) (v fb n : Nat) : List Nat := (List.range n).filter (fun i => decide (sMk S (sVl S v i) &&& fb = 0))
noncomputable def opFit (S : PSt) (v t d o : Int32) : Int32 × PSt :=
  cif (inR v 8 ∧ inR t 8 ∧ inR d 1000 ∧ inR o 8) (nI (kep S (cl v) (fbN S (cl t) (cl d) (sRn S)) (sVn S (cl v))).length, setV S (cl o) (kep S (cl v) (fbN S (cl t) (cl d) (sRn S)) (sVn S (cl v))).length (fun q => sVl S (cl v) ((kep S (cl v) (fbN S (cl t) (cl d) (sRn S)) (sVn S (cl v))).getD q 0))) (-2, S)
noncomputable def ctS (S : PSt) (v d r : Nat) : Nat → Nat → Nat := fun t k => cutN S v t (d + k * (r + 1))
noncomputable def opTour (S : PSt) (v w d r : Int32) : Int32 × PSt :=
  cif (inR v 8 ∧ (¬ w = nI 0 ∧ inR w 256) ∧ inR d 1000 ∧ inR r 21) (cif (cl d + (pop (cl w) - 1) * (cl r + 1) ≤ 999) (nI (Fm (ctS S (cl v) (cl d) (cl r)) (pop (cl w)) (pop (cl w)) (cl w)), setT S (pop (cl w)) (trT (ctS S (cl v) (cl d) (cl r)) (pop (cl w)) (pop (cl w)) (cl w))) (-3, S)) (-2, S)
noncomputable def opTown (S : PSt) (i : Int32) : Int32 × PSt := (atV (sTn S) (fun k => nI (sTl S k)) i, S)
noncomputable def opFree (S : PSt) (v t d : Int32) : Int32 × PSt := (cif (inR v 8 ∧ inR t 8 ∧ inR d 1000) (fp (fun q => cutN S (cl v) (cl t) q = 0) (cl d) (1000 - cl d)) (-2), S)
def sumN (f : Nat → Nat) : Nat → Nat
  | 0 => 0
  | i + 1 => sumN f i + f i
def gapN (h : Nat → Int32) : Nat → Nat
  | 0 => 0
  | i + 1 => gapN h i + (if h i = -1 then 1 else 0)
def cntS (S : PSt) (w : Nat) : Int32 := match w with
  | 0 => nI (sumN (sVn S) 8)
  | 1 => nI (sCn S)
  | 2 => nI (sumN (sPn S) 4)
  | 3 => nI (sumN (fun p => gapN (sPh S p) (sPn S p)) 4)
  | _ => nI (sRn S)
noncomputable def opCount (S : PSt) (w : Int32) : Int32 × PSt := (cif (inR w 5) (cntS S (cl w)) (-2), S)
/-- h = 31 h + v, over the first n of f -/
def dgF (f : Nat → Int32) (h : Int64) : Nat → Int64
  | 0 => h
  | i + 1 => 31 * dgF f h i + (f i).toInt64
def dgR (n : Nat → Nat) (g : Nat → Nat → Int32) (h : Int64) : Nat → Int64
  | 0 => h
  | v + 1 => dgF (g v) (31 * dgR n g h v + (nI (n v)).toInt64) (n v)
def dgU (S : PSt) (h : Int64) : Nat → Int64
  | 0 => h
  | i + 1 => 31 * (31 * (31 * (31 * dgU S h i + (nI (sRt S i)).toInt64) + (nI (sRm S i)).toInt64) + (nI (sRf S i)).toInt64) + (nI (sRo S i)).toInt64
def dgC (S : PSt) (h : Int64) : Nat → Int64
  | 0 => h
  | i + 1 => 31 * (31 * (31 * dgC S h i + (nI (sCs S i)).toInt64) + (nI (sCx S i)).toInt64) + (nI (sCy S i)).toInt64
def opDigest (S : PSt) : Int64 := dgC S (dgU S (dgF (fun x => nI (sMk S x)) (dgR (sPn S) (sPh S) (dgR (sVn S) (rwV S) (dgF (cntS S) 181 5) 8) 4) 100) (sRn S)) (sCn S)
/-! the valid states stay valid -/
theorem inv_setV {S : PSt} {v n : Nat} {l : Nat → Nat} (h : Inv S) (hn : n ≤ 40) (hl : ∀ i, i < n → l i < 100) : Inv (setV S v n l) := by
  obtain ⟨h1, h2, h3, h4, h5, h6⟩ := h
  refine ⟨fun w hw => ?_, h2, h3, h4, h5, h6⟩
  show upN S.1.1 v n w ≤ 40 ∧ ∀ i, i < upN S.1.1 v n w → upN S.1.2 v l w i < 100
  by_cases e : w = v
  · subst e
    rw [upN_eq, upN_eq]
    exact ⟨hn, hl⟩
  · rw [upN_ne e, upN_ne e]
    exact h1 w hw
theorem inv_setP {S : PSt} {p n : Nat} {l : Nat → Int32} (h : Inv S) (hn : n ≤ 40) (hl : ∀ i, i < n → okH (l i)) : Inv (setP S p n l) := by
  obtain ⟨h1, h2, h3, h4, h5, h6⟩ := h
  refine ⟨h1, fun w hw => ?_, h3, h4, h5, h6⟩
  show upN S.2.1.1 p n w ≤ 40 ∧ ∀ i, i < upN S.2.1.1 p n w → okH (upN S.2.1.2 p l w i)
  by_cases e : w = p
  · subst e
    rw [upN_eq, upN_eq]
    exact ⟨hn, hl⟩
  · rw [upN_ne e, upN_ne e]
    exact h2 w hw
end
section
abbrev rm_X5_put : Room := { frames := 2, cells := 0, slots := 0, locals := 43 }
set_option maxRecDepth 100000 in
set_option maxHeartbeats 4000000 in
theorem C_put (lau : Launch) (E : EnvD) (σ : Sto) {z : Nat} {S : PSt} (hI : Inv S) (hR : RepC E z S σ) (a1 a2 a3 : Int32) : CC lau yX5_put cX5_put 5 (some .int) rm_X5_put E [.ref z, .int a1, .int a2, .int a3] σ (fun o s => o = some (.int (opPut S a1 a2 a3).1) ∧ RepC E z (opPut S a1 a2 a3).2 s) := by
  refine cc_of (vs := [_, _, _, _, _]) (by decide) (Nat.le_of_ble_eq_true rfl) rfl ?_
  intro X h hr hn
  obtain ⟨r0, ⟨fV, rV, eV⟩, ⟨fP, rP, eP⟩, ⟨fC, rC, eC⟩, ⟨fR, rR, eR⟩, ⟨fM, rM, eM⟩, rCh, rT, rO, ⟨nE, gE, hE, rE⟩, rows, prows⟩ := id hR
  by_cases ha1 : inR a1 8
  · skip
    obtain ⟨a, ha, rfl⟩ := ha1
    have ea : cl (nI a) = a := cl_nI (by omega)
    have hn40 := (hI.1 a ha).1
    refine g_aload_n h 0 dX5_put_0 rfl rfl ?_
    refine g_get h 0 fa_X5_11 dX5_put_1 r0 rfl ?_
    refine g_iload_n h 1 dX5_put_4 rfl rfl ?_
    refine g_callS h [] (c_X5_rowOf_in (xL X) E _ rV (by omega) (i := a) (by omega) (eV a (by omega))) cf_X5_60 cs_X5_rowOf dX5_put_5 rfl rfl (Nat.le_of_ble_eq_true rfl) ⟨(Nat.le_of_ble_eq_true rfl), (Nat.le_of_ble_eq_true rfl)⟩ ⟨(Nat.le_of_ble_eq_true rfl), (Nat.le_of_ble_eq_true rfl)⟩ ?_
    refine kk_det ?_
    refine g_astore (vs' := [_, _, _, _, _]) h dX5_put_8 (Nat.le_of_ble_eq_true rfl) rfl rfl ?_
    refine g_aload h dX5_put_10 rfl ?_
    refine g_ifnull h dX5_put_12 ?_
    refine g_iload_n h 2 dX5_put_15 rfl rfl ?_
    refine g_if_lt h 35 dX5_put_16 (by decide) (fun c16_1 => ?_) (fun c16_1 => ?_)
    · skip
      refine g_bipush h (-2) dX5_put_35 (by decide) ?_
      exact g_iret h hr dX5_put_37 ((fun e => ⟨by rw [e], by rw [e]; exact hR⟩) (show opPut S (nI a) a2 a3 = (-2, S) from cif_f (fun q => (by rw [ea] at q; exact inR_neg c16_1 (by omega) q.2.1)))) (Nat.le_of_ble_eq_true rfl) (Nat.le_of_ble_eq_true rfl)
    · skip
      refine g_iload_n h 2 dX5_put_19 rfl rfl ?_
      refine g_aload h dX5_put_20 rfl ?_
      refine g_get h 1 fa_X5_64 dX5_put_22 (rows a ha).1 rfl ?_
      refine g_icmp_gt h 35 dX5_put_25 (by decide) (fun c25_2 => ?_) (fun c25_2 => ?_)
      · skip
        refine g_bipush h (-2) dX5_put_35 (by decide) ?_
        exact g_iret h hr dX5_put_37 ((fun e => ⟨by rw [e], by rw [e]; exact hR⟩) (show opPut S (nI a) a2 a3 = (-2, S) from cif_f (fun q => inR_gt c25_2 rfl (by omega) (ea ▸ q.2.1)))) (Nat.le_of_ble_eq_true rfl) (Nat.le_of_ble_eq_true rfl)
      · skip
        refine g_iload_n h 3 dX5_put_28 rfl rfl ?_
        refine g_callS h [] (c_X5_isLine (xL X) E _ a3) cf_X5_67 cs_X5_isLine dX5_put_29 rfl rfl (Nat.le_of_ble_eq_true rfl) ⟨(Nat.le_of_ble_eq_true rfl), (Nat.le_of_ble_eq_true rfl)⟩ ⟨(Nat.le_of_ble_eq_true rfl), (Nat.le_of_ble_eq_true rfl)⟩ ?_
        refine kk_det ?_
        refine g_if_neB h 38 dX5_put_32 (by decide) (fun c32_3 => ?_) (fun c32_3 => ?_)
        · skip
          have hb8 := inR_of2 c16_1 c25_2 rfl (by omega)
          obtain ⟨b, hb, rfl⟩ := hb8
          obtain ⟨y, hy, rfl⟩ := c32_3
          have eb : cl (nI b) = b := cl_nI (by omega)
          have ey : cl (nI y) = y := cl_nI (by omega)
          refine g_aload h dX5_put_38 rfl ?_
          refine g_callV h [] (r_isFull (xL X) (rows a ha) (hI.1 a ha).1) cf_X5_71 cv_X2_isFull dX5_put_40 rfl (rows a ha).1 rfl rfl (Nat.le_of_ble_eq_true rfl) ⟨(Nat.le_of_ble_eq_true rfl), (Nat.le_of_ble_eq_true rfl)⟩ ⟨(Nat.le_of_ble_eq_true rfl), (Nat.le_of_ble_eq_true rfl)⟩ ?_
          refine kk_det ?_
          refine g_if_eqB h 49 dX5_put_43 (by decide) (fun c43_4 => ?_) (fun c43_4 => ?_)
          · skip
            refine g_aload h dX5_put_49 rfl ?_
            refine g_iload_n h 2 dX5_put_51 rfl rfl ?_
            refine g_iload_n h 3 dX5_put_52 rfl rfl ?_
            refine g_callV h [] (r_insert (xL X) (rows a ha) (i := b) (nI y) (by omega) (by omega)) cf_X5_75 cv_X2_insert dX5_put_53 rfl (rows a ha).1 rfl rfl (Nat.le_of_ble_eq_true rfl) ⟨(Nat.le_of_ble_eq_true rfl), (Nat.le_of_ble_eq_true rfl)⟩ ⟨(Nat.le_of_ble_eq_true rfl), (Nat.le_of_ble_eq_true rfl)⟩ ?_
            rintro _ s2 ⟨rfl, hch, hri⟩
            refine g_aload h dX5_put_56 rfl ?_
            refine g_get h 1 fa_X5_64 dX5_put_58 hri.1 rfl ?_
            exact g_iret h hr dX5_put_61 ((fun e => ⟨by rw [e], by rw [e]; exact hR.rowV ha hch (hri.cong (fun q hq => congrFun insF_nI q))⟩) (show opPut S (nI a) (nI b) (nI y) = (nI (sVn S a + 1), setV S a (sVn S a + 1) (insN (sVl S a) (sVn S a) b y)) from by unfold opPut; rw [cif_t ⟨⟨a, ha, rfl⟩, ⟨b, by rw [ea]; exact hb, rfl⟩, ⟨y, hy, rfl⟩⟩, cif_f (by rw [ea]; omega), ea, eb, ey])) (Nat.le_of_ble_eq_true rfl) (Nat.le_of_ble_eq_true rfl)
          · skip
            refine g_bipush h (-4) dX5_put_46 (by decide) ?_
            exact g_iret h hr dX5_put_48 ((fun e => ⟨by rw [e], by rw [e]; exact hR⟩) (show opPut S (nI a) (nI b) (nI y) = (-4, S) from by unfold opPut; rw [cif_t ⟨⟨a, ha, rfl⟩, ⟨b, by rw [ea]; exact hb, rfl⟩, ⟨y, hy, rfl⟩⟩, cif_t (by rw [ea]; omega)])) (Nat.le_of_ble_eq_true rfl) (Nat.le_of_ble_eq_true rfl)
        · skip
          refine g_bipush h (-2) dX5_put_35 (by decide) ?_
          exact g_iret h hr dX5_put_37 ((fun e => ⟨by rw [e], by rw [e]; exact hR⟩) (show opPut S (nI a) a2 a3 = (-2, S) from cif_f (fun q => c32_3 q.2.2))) (Nat.le_of_ble_eq_true rfl) (Nat.le_of_ble_eq_true rfl)
  · skip
    refine g_aload_n h 0 dX5_put_0 rfl rfl ?_
    refine g_get h 0 fa_X5_11 dX5_put_1 r0 rfl ?_
    refine g_iload_n h 1 dX5_put_4 rfl rfl ?_
    refine g_callS h [] (c_X5_rowOf_out (xL X) E _ a1 rV (by omega) ha1) cf_X5_60 cs_X5_rowOf dX5_put_5 rfl rfl (Nat.le_of_ble_eq_true rfl) ⟨(Nat.le_of_ble_eq_true rfl), (Nat.le_of_ble_eq_true rfl)⟩ ⟨(Nat.le_of_ble_eq_true rfl), (Nat.le_of_ble_eq_true rfl)⟩ ?_
    refine kk_det ?_
    refine g_astoreN (vs' := [_, _, _, _, _]) h dX5_put_8 (Nat.le_of_ble_eq_true rfl) rfl rfl ?_
    refine g_aloadN h dX5_put_10 rfl ?_
    refine g_ifnullN h 35 dX5_put_12 (by decide) ?_
    refine g_bipush h (-2) dX5_put_35 (by decide) ?_
    exact g_iret h hr dX5_put_37 ((fun e => ⟨by rw [e], by rw [e]; exact hR⟩) (show opPut S a1 a2 a3 = (-2, S) from cif_f (fun q => ha1 q.1))) (Nat.le_of_ble_eq_true rfl) (Nat.le_of_ble_eq_true rfl)
abbrev rm_X5_take : Room := { frames := 2, cells := 0, slots := 0, locals := 43 }
set_option maxRecDepth 100000 in
set_option maxHeartbeats 4000000 in
theorem C_take (lau : Launch) (E : EnvD) (σ : Sto) {z : Nat} {S : PSt} (hI : Inv S) (hR : RepC E z S σ) (a1 a2 : Int32) : CC lau yX5_take cX5_take 5 (some .int) rm_X5_take E [.ref z, .int a1, .int a2] σ (fun o s => o = some (.int (opTake S a1 a2).1) ∧ RepC E z (opTake S a1 a2).2 s) := by
  refine cc_of (vs := [_, _, _, _, _]) (by decide) (Nat.le_of_ble_eq_true rfl) rfl ?_
  intro X h hr hn
  obtain ⟨r0, ⟨fV, rV, eV⟩, ⟨fP, rP, eP⟩, ⟨fC, rC, eC⟩, ⟨fR, rR, eR⟩, ⟨fM, rM, eM⟩, rCh, rT, rO, ⟨nE, gE, hE, rE⟩, rows, prows⟩ := id hR
  by_cases ha1 : inR a1 8
  · skip
    obtain ⟨a, ha, rfl⟩ := ha1
    have ea : cl (nI a) = a := cl_nI (by omega)
    have hn40 := (hI.1 a ha).1
    refine g_aload_n h 0 dX5_take_0 rfl rfl ?_
    refine g_get h 0 fa_X5_11 dX5_take_1 r0 rfl ?_
    refine g_iload_n h 1 dX5_take_4 rfl rfl ?_
    refine g_callS h [] (c_X5_rowOf_in (xL X) E _ rV (by omega) (i := a) (by omega) (eV a (by omega))) cf_X5_60 cs_X5_rowOf dX5_take_5 rfl rfl (Nat.le_of_ble_eq_true rfl) ⟨(Nat.le_of_ble_eq_true rfl), (Nat.le_of_ble_eq_true rfl)⟩ ⟨(Nat.le_of_ble_eq_true rfl), (Nat.le_of_ble_eq_true rfl)⟩ ?_
    refine kk_det ?_
    refine g_astore_n (vs' := [_, _, _, _, _]) h 3 dX5_take_8 rfl (Nat.le_of_ble_eq_true rfl) rfl rfl ?_
    refine g_aload_n h 3 dX5_take_9 rfl rfl ?_
    refine g_ifnull h dX5_take_10 ?_
    refine g_aload_n h 3 dX5_take_13 rfl rfl ?_
    refine g_iload_n h 2 dX5_take_14 rfl rfl ?_
    refine g_callV h [] (r_has (xL X) (rows a ha) (hI.1 a ha).1 a2) cf_X5_79 cv_X2_has dX5_take_15 rfl (rows a ha).1 rfl rfl (Nat.le_of_ble_eq_true rfl) ⟨(Nat.le_of_ble_eq_true rfl), (Nat.le_of_ble_eq_true rfl)⟩ ⟨(Nat.le_of_ble_eq_true rfl), (Nat.le_of_ble_eq_true rfl)⟩ ?_
    refine kk_det ?_
    refine g_if_neB h 24 dX5_take_18 (by decide) (fun c18_1 => ?_) (fun c18_1 => ?_)
    · skip
      obtain ⟨b, hb, rfl⟩ := c18_1
      have eb : cl (nI b) = b := cl_nI (by omega)
      refine g_aload_n h 3 dX5_take_24 rfl rfl ?_
      refine g_iload_n h 2 dX5_take_25 rfl rfl ?_
      refine g_callV h [] (r_at (xL X) (rows a ha) (hI.1 a ha).1 (nI b)) cf_X5_82 cv_X2_at dX5_take_26 rfl (rows a ha).1 rfl rfl (Nat.le_of_ble_eq_true rfl) ⟨(Nat.le_of_ble_eq_true rfl), (Nat.le_of_ble_eq_true rfl)⟩ ⟨(Nat.le_of_ble_eq_true rfl), (Nat.le_of_ble_eq_true rfl)⟩ ?_
      refine kk_det ?_
      refine g_top (atV_in (by omega) (by omega)) ?_
      refine g_istore (vs' := [_, _, _, _, _]) h dX5_take_29 (Nat.le_of_ble_eq_true rfl) rfl rfl ?_
      refine g_aload_n h 3 dX5_take_31 rfl rfl ?_
      refine g_iload_n h 2 dX5_take_32 rfl rfl ?_
      refine g_callV h [] (r_remove (xL X) (rows a ha) hn40 (i := b) (by omega)) cf_X5_86 cv_X2_remove dX5_take_33 rfl (rows a ha).1 rfl rfl (Nat.le_of_ble_eq_true rfl) ⟨(Nat.le_of_ble_eq_true rfl), (Nat.le_of_ble_eq_true rfl)⟩ ⟨(Nat.le_of_ble_eq_true rfl), (Nat.le_of_ble_eq_true rfl)⟩ ?_
      rintro _ s2 ⟨rfl, hch, hri⟩
      refine g_iload h dX5_take_36 rfl ?_
      exact g_iret h hr dX5_take_38 ((fun e => ⟨by rw [e], by rw [e]; exact hR.rowV ha hch (hri.cong (fun q hq => congrFun remF_nI q))⟩) (show opTake S (nI a) (nI b) = (nI (sVl S a b), setV S a (sVn S a - 1) (remN (sVl S a) (sVn S a) b)) from by unfold opTake; rw [cif_t ⟨⟨a, ha, rfl⟩, ⟨b, by rw [ea]; exact hb, rfl⟩⟩, ea, eb])) (Nat.le_of_ble_eq_true rfl) (Nat.le_of_ble_eq_true rfl)
    · skip
      refine g_bipush h (-2) dX5_take_21 (by decide) ?_
      exact g_iret h hr dX5_take_23 ((fun e => ⟨by rw [e], by rw [e]; exact hR⟩) (show opTake S (nI a) a2 = (-2, S) from cif_f (fun q => c18_1 (ea ▸ q.2)))) (Nat.le_of_ble_eq_true rfl) (Nat.le_of_ble_eq_true rfl)
  · skip
    refine g_aload_n h 0 dX5_take_0 rfl rfl ?_
    refine g_get h 0 fa_X5_11 dX5_take_1 r0 rfl ?_
    refine g_iload_n h 1 dX5_take_4 rfl rfl ?_
    refine g_callS h [] (c_X5_rowOf_out (xL X) E _ a1 rV (by omega) ha1) cf_X5_60 cs_X5_rowOf dX5_take_5 rfl rfl (Nat.le_of_ble_eq_true rfl) ⟨(Nat.le_of_ble_eq_true rfl), (Nat.le_of_ble_eq_true rfl)⟩ ⟨(Nat.le_of_ble_eq_true rfl), (Nat.le_of_ble_eq_true rfl)⟩ ?_
    refine kk_det ?_
    refine g_astore_nN (vs' := [_, _, _, _, _]) h 3 dX5_take_8 rfl (Nat.le_of_ble_eq_true rfl) rfl rfl ?_
    refine g_aload_nN h 3 dX5_take_9 rfl rfl ?_
    refine g_ifnullN h 21 dX5_take_10 (by decide) ?_
    refine g_bipush h (-2) dX5_take_21 (by decide) ?_
    exact g_iret h hr dX5_take_23 ((fun e => ⟨by rw [e], by rw [e]; exact hR⟩) (show opTake S a1 a2 = (-2, S) from cif_f (fun q => ha1 q.1))) (Nat.le_of_ble_eq_true rfl) (Nat.le_of_ble_eq_true rfl)
abbrev rm_X5_copy : Room := { frames := 3, cells := 0, slots := 0, locals := 64 }
set_option maxRecDepth 100000 in
set_option maxHeartbeats 4000000 in
theorem C_copy (lau : Launch) (E : EnvD) (σ : Sto) {z : Nat} {S : PSt} (hI : Inv S) (hR : RepC E z S σ) (a1 a2 : Int32) : CC lau yX5_copy cX5_copy 5 (some .int) rm_X5_copy E [.ref z, .int a1, .int a2] σ (fun o s => o = some (.int (opCopy S a1 a2).1) ∧ RepC E z (opCopy S a1 a2).2 s) := by
  refine cc_of (vs := [_, _, _, _, _]) (by decide) (Nat.le_of_ble_eq_true rfl) rfl ?_
  intro X h hr hn
  obtain ⟨r0, ⟨fV, rV, eV⟩, ⟨fP, rP, eP⟩, ⟨fC, rC, eC⟩, ⟨fR, rR, eR⟩, ⟨fM, rM, eM⟩, rCh, rT, rO, ⟨nE, gE, hE, rE⟩, rows, prows⟩ := id hR
  by_cases ha1 : inR a1 8 <;> by_cases ha2 : inR a2 8
  · skip
    obtain ⟨a, ha, rfl⟩ := ha1
    obtain ⟨b, hb, rfl⟩ := ha2
    have ea : cl (nI a) = a := cl_nI (by omega)
    have eb : cl (nI b) = b := cl_nI (by omega)
    have hna := (hI.1 a ha).1
    have hnb := (hI.1 b hb).1
    refine g_aload_n h 0 dX5_copy_0 rfl rfl ?_
    refine g_get h 0 fa_X5_11 dX5_copy_1 r0 rfl ?_
    refine g_iload_n h 1 dX5_copy_4 rfl rfl ?_
    refine g_callS h [] (c_X5_rowOf_in (xL X) E _ rV (by omega) (i := a) (by omega) (eV a (by omega))) cf_X5_60 cs_X5_rowOf dX5_copy_5 rfl rfl (Nat.le_of_ble_eq_true rfl) ⟨(Nat.le_of_ble_eq_true rfl), (Nat.le_of_ble_eq_true rfl)⟩ ⟨(Nat.le_of_ble_eq_true rfl), (Nat.le_of_ble_eq_true rfl)⟩ ?_
    refine kk_det ?_
    refine g_astore_n (vs' := [_, _, _, _, _]) h 3 dX5_copy_8 rfl (Nat.le_of_ble_eq_true rfl) rfl rfl ?_
    refine g_aload_n h 0 dX5_copy_9 rfl rfl ?_
    refine g_get h 0 fa_X5_11 dX5_copy_10 r0 rfl ?_
    refine g_iload_n h 2 dX5_copy_13 rfl rfl ?_
    refine g_callS h [] (c_X5_rowOf_in (xL X) E _ rV (by omega) (i := b) (by omega) (eV b (by omega))) cf_X5_60 cs_X5_rowOf dX5_copy_14 rfl rfl (Nat.le_of_ble_eq_true rfl) ⟨(Nat.le_of_ble_eq_true rfl), (Nat.le_of_ble_eq_true rfl)⟩ ⟨(Nat.le_of_ble_eq_true rfl), (Nat.le_of_ble_eq_true rfl)⟩ ?_
    refine kk_det ?_
    refine g_astore (vs' := [_, _, _, _, _]) h dX5_copy_17 (Nat.le_of_ble_eq_true rfl) rfl rfl ?_
    refine g_aload_n h 3 dX5_copy_19 rfl rfl ?_
    refine g_ifnull h dX5_copy_20 ?_
    refine g_aload h dX5_copy_23 rfl ?_
    refine g_ifnonnull h 31 dX5_copy_25 (by decide) ?_
    refine g_aload h dX5_copy_31 rfl ?_
    refine g_aload_n h 3 dX5_copy_33 rfl rfl ?_
    refine g_callV h [] (r_become (xL X) (rows b hb) hnb (rows a ha) hna) cf_X5_90 cv_X2_become dX5_copy_34 rfl (rows b hb).1 rfl rfl (Nat.le_of_ble_eq_true rfl) ⟨(Nat.le_of_ble_eq_true rfl), (Nat.le_of_ble_eq_true rfl)⟩ ⟨(Nat.le_of_ble_eq_true rfl), (Nat.le_of_ble_eq_true rfl)⟩ ?_
    rintro _ s2 ⟨rfl, hch, hri⟩
    refine g_aload h dX5_copy_37 rfl ?_
    refine g_get h 1 fa_X5_64 dX5_copy_39 hri.1 rfl ?_
    exact g_iret h hr dX5_copy_42 ((fun e => ⟨by rw [e], by rw [e]; exact hR.rowV hb hch hri⟩) (show opCopy S (nI a) (nI b) = (nI (sVn S a), setV S b (sVn S a) (sVl S a)) from by unfold opCopy; rw [cif_t ⟨⟨a, ha, rfl⟩, ⟨b, hb, rfl⟩⟩, ea, eb])) (Nat.le_of_ble_eq_true rfl) (Nat.le_of_ble_eq_true rfl)
  · skip
    obtain ⟨a, ha, rfl⟩ := ha1
    refine g_aload_n h 0 dX5_copy_0 rfl rfl ?_
    refine g_get h 0 fa_X5_11 dX5_copy_1 r0 rfl ?_
    refine g_iload_n h 1 dX5_copy_4 rfl rfl ?_
    refine g_callS h [] (c_X5_rowOf_in (xL X) E _ rV (by omega) (i := a) (by omega) (eV a (by omega))) cf_X5_60 cs_X5_rowOf dX5_copy_5 rfl rfl (Nat.le_of_ble_eq_true rfl) ⟨(Nat.le_of_ble_eq_true rfl), (Nat.le_of_ble_eq_true rfl)⟩ ⟨(Nat.le_of_ble_eq_true rfl), (Nat.le_of_ble_eq_true rfl)⟩ ?_
    refine kk_det ?_
    refine g_astore_n (vs' := [_, _, _, _, _]) h 3 dX5_copy_8 rfl (Nat.le_of_ble_eq_true rfl) rfl rfl ?_
    refine g_aload_n h 0 dX5_copy_9 rfl rfl ?_
    refine g_get h 0 fa_X5_11 dX5_copy_10 r0 rfl ?_
    refine g_iload_n h 2 dX5_copy_13 rfl rfl ?_
    refine g_callS h [] (c_X5_rowOf_out (xL X) E _ a2 rV (by omega) ha2) cf_X5_60 cs_X5_rowOf dX5_copy_14 rfl rfl (Nat.le_of_ble_eq_true rfl) ⟨(Nat.le_of_ble_eq_true rfl), (Nat.le_of_ble_eq_true rfl)⟩ ⟨(Nat.le_of_ble_eq_true rfl), (Nat.le_of_ble_eq_true rfl)⟩ ?_
    refine kk_det ?_
    refine g_astoreN (vs' := [_, _, _, _, _]) h dX5_copy_17 (Nat.le_of_ble_eq_true rfl) rfl rfl ?_
    refine g_aload_n h 3 dX5_copy_19 rfl rfl ?_
    refine g_ifnull h dX5_copy_20 ?_
    refine g_aloadN h dX5_copy_23 rfl ?_
    refine g_ifnonnullN h dX5_copy_25 ?_
    refine g_bipush h (-2) dX5_copy_28 (by decide) ?_
    exact g_iret h hr dX5_copy_30 ((fun e => ⟨by rw [e], by rw [e]; exact hR⟩) (show opCopy S (nI a) a2 = (-2, S) from cif_f (fun q => ha2 q.2))) (Nat.le_of_ble_eq_true rfl) (Nat.le_of_ble_eq_true rfl)
  · skip
    obtain ⟨b, hb, rfl⟩ := ha2
    refine g_aload_n h 0 dX5_copy_0 rfl rfl ?_
    refine g_get h 0 fa_X5_11 dX5_copy_1 r0 rfl ?_
    refine g_iload_n h 1 dX5_copy_4 rfl rfl ?_
    refine g_callS h [] (c_X5_rowOf_out (xL X) E _ a1 rV (by omega) ha1) cf_X5_60 cs_X5_rowOf dX5_copy_5 rfl rfl (Nat.le_of_ble_eq_true rfl) ⟨(Nat.le_of_ble_eq_true rfl), (Nat.le_of_ble_eq_true rfl)⟩ ⟨(Nat.le_of_ble_eq_true rfl), (Nat.le_of_ble_eq_true rfl)⟩ ?_
    refine kk_det ?_
    refine g_astore_nN (vs' := [_, _, _, _, _]) h 3 dX5_copy_8 rfl (Nat.le_of_ble_eq_true rfl) rfl rfl ?_
    refine g_aload_n h 0 dX5_copy_9 rfl rfl ?_
    refine g_get h 0 fa_X5_11 dX5_copy_10 r0 rfl ?_
    refine g_iload_n h 2 dX5_copy_13 rfl rfl ?_
    refine g_callS h [] (c_X5_rowOf_in (xL X) E _ rV (by omega) (i := b) (by omega) (eV b (by omega))) cf_X5_60 cs_X5_rowOf dX5_copy_14 rfl rfl (Nat.le_of_ble_eq_true rfl) ⟨(Nat.le_of_ble_eq_true rfl), (Nat.le_of_ble_eq_true rfl)⟩ ⟨(Nat.le_of_ble_eq_true rfl), (Nat.le_of_ble_eq_true rfl)⟩ ?_
    refine kk_det ?_
    refine g_astore (vs' := [_, _, _, _, _]) h dX5_copy_17 (Nat.le_of_ble_eq_true rfl) rfl rfl ?_
    refine g_aload_nN h 3 dX5_copy_19 rfl rfl ?_
    refine g_ifnullN h 28 dX5_copy_20 (by decide) ?_
    refine g_bipush h (-2) dX5_copy_28 (by decide) ?_
    exact g_iret h hr dX5_copy_30 ((fun e => ⟨by rw [e], by rw [e]; exact hR⟩) (show opCopy S a1 (nI b) = (-2, S) from cif_f (fun q => ha1 q.1))) (Nat.le_of_ble_eq_true rfl) (Nat.le_of_ble_eq_true rfl)
  · skip
    refine g_aload_n h 0 dX5_copy_0 rfl rfl ?_
    refine g_get h 0 fa_X5_11 dX5_copy_1 r0 rfl ?_
    refine g_iload_n h 1 dX5_copy_4 rfl rfl ?_
    refine g_callS h [] (c_X5_rowOf_out (xL X) E _ a1 rV (by omega) ha1) cf_X5_60 cs_X5_rowOf dX5_copy_5 rfl rfl (Nat.le_of_ble_eq_true rfl) ⟨(Nat.le_of_ble_eq_true rfl), (Nat.le_of_ble_eq_true rfl)⟩ ⟨(Nat.le_of_ble_eq_true rfl), (Nat.le_of_ble_eq_true rfl)⟩ ?_
    refine kk_det ?_
    refine g_astore_nN (vs' := [_, _, _, _, _]) h 3 dX5_copy_8 rfl (Nat.le_of_ble_eq_true rfl) rfl rfl ?_
    refine g_aload_n h 0 dX5_copy_9 rfl rfl ?_
    refine g_get h 0 fa_X5_11 dX5_copy_10 r0 rfl ?_
    refine g_iload_n h 2 dX5_copy_13 rfl rfl ?_
    refine g_callS h [] (c_X5_rowOf_out (xL X) E _ a2 rV (by omega) ha2) cf_X5_60 cs_X5_rowOf dX5_copy_14 rfl rfl (Nat.le_of_ble_eq_true rfl) ⟨(Nat.le_of_ble_eq_true rfl), (Nat.le_of_ble_eq_true rfl)⟩ ⟨(Nat.le_of_ble_eq_true rfl), (Nat.le_of_ble_eq_true rfl)⟩ ?_
    refine kk_det ?_
    refine g_astoreN (vs' := [_, _, _, _, _]) h dX5_copy_17 (Nat.le_of_ble_eq_true rfl) rfl rfl ?_
    refine g_aload_nN h 3 dX5_copy_19 rfl rfl ?_
    refine g_ifnullN h 28 dX5_copy_20 (by decide) ?_
    refine g_bipush h (-2) dX5_copy_28 (by decide) ?_
    exact g_iret h hr dX5_copy_30 ((fun e => ⟨by rw [e], by rw [e]; exact hR⟩) (show opCopy S a1 a2 = (-2, S) from cif_f (fun q => ha1 q.1))) (Nat.le_of_ble_eq_true rfl) (Nat.le_of_ble_eq_true rfl)
abbrev rm_X5_lineAt : Room := { frames := 2, cells := 0, slots := 0, locals := 42 }
set_option maxRecDepth 100000 in
set_option maxHeartbeats 4000000 in
theorem C_lineAt (lau : Launch) (E : EnvD) (σ : Sto) {z : Nat} {S : PSt} (hI : Inv S) (hR : RepC E z S σ) (a1 a2 : Int32) : CC lau yX5_lineAt cX5_lineAt 4 (some .int) rm_X5_lineAt E [.ref z, .int a1, .int a2] σ (fun o s => o = some (.int (opLineAt S a1 a2).1) ∧ RepC E z (opLineAt S a1 a2).2 s) := by
  refine cc_of (vs := [_, _, _, _]) (by decide) (Nat.le_of_ble_eq_true rfl) rfl ?_
  intro X h hr hn
  obtain ⟨r0, ⟨fV, rV, eV⟩, ⟨fP, rP, eP⟩, ⟨fC, rC, eC⟩, ⟨fR, rR, eR⟩, ⟨fM, rM, eM⟩, rCh, rT, rO, ⟨nE, gE, hE, rE⟩, rows, prows⟩ := id hR
  by_cases ha1 : inR a1 8
  · skip
    obtain ⟨a, ha, rfl⟩ := ha1
    have ea : cl (nI a) = a := cl_nI (by omega)
    refine g_aload_n h 0 dX5_lineAt_0 rfl rfl ?_
    refine g_get h 0 fa_X5_11 dX5_lineAt_1 r0 rfl ?_
    refine g_iload_n h 1 dX5_lineAt_4 rfl rfl ?_
    refine g_callS h [] (c_X5_rowOf_in (xL X) E _ rV (by omega) (i := a) (by omega) (eV a (by omega))) cf_X5_60 cs_X5_rowOf dX5_lineAt_5 rfl rfl (Nat.le_of_ble_eq_true rfl) ⟨(Nat.le_of_ble_eq_true rfl), (Nat.le_of_ble_eq_true rfl)⟩ ⟨(Nat.le_of_ble_eq_true rfl), (Nat.le_of_ble_eq_true rfl)⟩ ?_
    refine kk_det ?_
    refine g_astore_n (vs' := [_, _, _, _]) h 3 dX5_lineAt_8 rfl (Nat.le_of_ble_eq_true rfl) rfl rfl ?_
    refine g_aload_n h 3 dX5_lineAt_9 rfl rfl ?_
    refine g_ifnonnull h 18 dX5_lineAt_10 (by decide) ?_
    refine g_aload_n h 3 dX5_lineAt_18 rfl rfl ?_
    refine g_iload_n h 2 dX5_lineAt_19 rfl rfl ?_
    refine g_callV h [] (r_at (xL X) (rows a ha) (hI.1 a ha).1 a2) cf_X5_82 cv_X2_at dX5_lineAt_20 rfl (rows a ha).1 rfl rfl (Nat.le_of_ble_eq_true rfl) ⟨(Nat.le_of_ble_eq_true rfl), (Nat.le_of_ble_eq_true rfl)⟩ ⟨(Nat.le_of_ble_eq_true rfl), (Nat.le_of_ble_eq_true rfl)⟩ ?_
    refine kk_det ?_
    exact g_iret h hr dX5_lineAt_23 ((fun e => ⟨by rw [e]; rfl, by rw [e]; exact hR⟩) (show opLineAt S (nI a) a2 = (atV (sVn S a) (rwV S a) a2, S) from by unfold opLineAt; rw [cif_t ⟨a, ha, rfl⟩, ea])) (Nat.le_of_ble_eq_true rfl) (Nat.le_of_ble_eq_true rfl)
  · skip
    refine g_aload_n h 0 dX5_lineAt_0 rfl rfl ?_
    refine g_get h 0 fa_X5_11 dX5_lineAt_1 r0 rfl ?_
    refine g_iload_n h 1 dX5_lineAt_4 rfl rfl ?_
    refine g_callS h [] (c_X5_rowOf_out (xL X) E _ a1 rV (by omega) ha1) cf_X5_60 cs_X5_rowOf dX5_lineAt_5 rfl rfl (Nat.le_of_ble_eq_true rfl) ⟨(Nat.le_of_ble_eq_true rfl), (Nat.le_of_ble_eq_true rfl)⟩ ⟨(Nat.le_of_ble_eq_true rfl), (Nat.le_of_ble_eq_true rfl)⟩ ?_
    refine kk_det ?_
    refine g_astore_nN (vs' := [_, _, _, _]) h 3 dX5_lineAt_8 rfl (Nat.le_of_ble_eq_true rfl) rfl rfl ?_
    refine g_aload_nN h 3 dX5_lineAt_9 rfl rfl ?_
    refine g_ifnonnullN h dX5_lineAt_10 ?_
    refine g_bipush h (-2) dX5_lineAt_13 (by decide) ?_
    refine g_goto h 23 dX5_lineAt_15 (by decide) ?_
    exact g_iret h hr dX5_lineAt_23 ((fun e => ⟨by rw [e], by rw [e]; exact hR⟩) (show opLineAt S a1 a2 = (-2, S) from by unfold opLineAt; rw [cif_f ha1])) (Nat.le_of_ble_eq_true rfl) (Nat.le_of_ble_eq_true rfl)
abbrev rm_X5_differ : Room := { frames := 4, cells := 0, slots := 0, locals := 90 }
set_option maxRecDepth 100000 in
set_option maxHeartbeats 4000000 in
theorem C_differ (lau : Launch) (E : EnvD) (σ : Sto) {z : Nat} {S : PSt} (hI : Inv S) (hR : RepC E z S σ) (a1 a2 : Int32) : CC lau yX5_differ cX5_differ 5 (some .int) rm_X5_differ E [.ref z, .int a1, .int a2] σ (fun o s => o = some (.int (opDiffer S a1 a2).1) ∧ RepC E z (opDiffer S a1 a2).2 s) := by
  refine cc_of (vs := [_, _, _, _, _]) (by decide) (Nat.le_of_ble_eq_true rfl) rfl ?_
  intro X h hr hn
  obtain ⟨r0, ⟨fV, rV, eV⟩, ⟨fP, rP, eP⟩, ⟨fC, rC, eC⟩, ⟨fR, rR, eR⟩, ⟨fM, rM, eM⟩, rCh, rT, rO, ⟨nE, gE, hE, rE⟩, rows, prows⟩ := id hR
  by_cases ha1 : inR a1 8 <;> by_cases ha2 : inR a2 8
  · skip
    obtain ⟨a, ha, rfl⟩ := ha1
    obtain ⟨b, hb, rfl⟩ := ha2
    have ea : cl (nI a) = a := cl_nI (by omega)
    have eb : cl (nI b) = b := cl_nI (by omega)
    have hna := (hI.1 a ha).1
    have hnb := (hI.1 b hb).1
    obtain ⟨gV, gV1, gV2⟩ := rCh.2.1
    refine g_aload_n h 0 dX5_differ_0 rfl rfl ?_
    refine g_get h 0 fa_X5_11 dX5_differ_1 r0 rfl ?_
    refine g_iload_n h 1 dX5_differ_4 rfl rfl ?_
    refine g_callS h [] (c_X5_rowOf_in (xL X) E _ rV (by omega) (i := a) (by omega) (eV a (by omega))) cf_X5_60 cs_X5_rowOf dX5_differ_5 rfl rfl (Nat.le_of_ble_eq_true rfl) ⟨(Nat.le_of_ble_eq_true rfl), (Nat.le_of_ble_eq_true rfl)⟩ ⟨(Nat.le_of_ble_eq_true rfl), (Nat.le_of_ble_eq_true rfl)⟩ ?_
    refine kk_det ?_
    refine g_astore_n (vs' := [_, _, _, _, _]) h 3 dX5_differ_8 rfl (Nat.le_of_ble_eq_true rfl) rfl rfl ?_
    refine g_aload_n h 0 dX5_differ_9 rfl rfl ?_
    refine g_get h 0 fa_X5_11 dX5_differ_10 r0 rfl ?_
    refine g_iload_n h 2 dX5_differ_13 rfl rfl ?_
    refine g_callS h [] (c_X5_rowOf_in (xL X) E _ rV (by omega) (i := b) (by omega) (eV b (by omega))) cf_X5_60 cs_X5_rowOf dX5_differ_14 rfl rfl (Nat.le_of_ble_eq_true rfl) ⟨(Nat.le_of_ble_eq_true rfl), (Nat.le_of_ble_eq_true rfl)⟩ ⟨(Nat.le_of_ble_eq_true rfl), (Nat.le_of_ble_eq_true rfl)⟩ ?_
    refine kk_det ?_
    refine g_astore (vs' := [_, _, _, _, _]) h dX5_differ_17 (Nat.le_of_ble_eq_true rfl) rfl rfl ?_
    refine g_aload_n h 3 dX5_differ_19 rfl rfl ?_
    refine g_ifnull h dX5_differ_20 ?_
    refine g_aload h dX5_differ_23 rfl ?_
    refine g_ifnonnull h 31 dX5_differ_25 (by decide) ?_
    refine g_aload_n h 0 dX5_differ_31 rfl rfl ?_
    refine g_get h 5 fa_X5_37 dX5_differ_32 r0 rfl ?_
    refine g_aload_n h 3 dX5_differ_35 rfl rfl ?_
    refine g_aload h dX5_differ_36 rfl ?_
    refine g_callV h [] (c_X0_compare (xL X) E _ rCh.1 gV1 gV2 (rows a ha) (rows b hb) hna hnb (by omega) (by omega) rCh.2.2) cf_X5_94 cv_X0_compare dX5_differ_38 rfl rCh.1 rfl rfl (Nat.le_of_ble_eq_true rfl) ⟨(Nat.le_of_ble_eq_true rfl), (Nat.le_of_ble_eq_true rfl)⟩ ⟨(Nat.le_of_ble_eq_true rfl), (Nat.le_of_ble_eq_true rfl)⟩ ?_
    rintro _ s2 ⟨rfl, hz2, hA, hT⟩
    have hR2 : RepC E z S s2 := hR.chg (fun a ha => hA a (by omega)) (fun i hi => by obtain ⟨g, q1, _⟩ := hT i hi; exact ⟨g, by rw [show z + 8 + i = z + 6 + 2 + i by omega]; exact q1⟩)
    refine g_aload_n h 0 dX5_differ_41 rfl rfl ?_
    refine g_get h 5 fa_X5_37 dX5_differ_42 ((hA z (by omega)).trans r0) rfl ?_
    obtain ⟨g0, q1, q2⟩ := hT 0 (by omega)
    refine g_callV h [] (c_X0_difference (xL X) E _ ((hA (z + 6) (by omega)).trans rCh.1) ((hA (z + 6 + 1) (by omega)).trans gV1) gV2 q1 (q2 0 (by omega) ⟨by omega, by omega⟩)) cf_X5_98 cv_X0_difference dX5_differ_45 rfl ((hA (z + 6) (by omega)).trans rCh.1) rfl rfl (Nat.le_of_ble_eq_true rfl) ⟨(Nat.le_of_ble_eq_true rfl), (Nat.le_of_ble_eq_true rfl)⟩ ⟨(Nat.le_of_ble_eq_true rfl), (Nat.le_of_ble_eq_true rfl)⟩ ?_
    refine kk_det ?_
    exact g_iret h hr dX5_differ_48 ((fun e => ⟨by rw [e]; rfl, by rw [e]; exact hR2⟩) (show opDiffer S (nI a) (nI b) = (nI (ed (rwV S a) (rwV S b) (sVn S a) (sVn S b) 0 0), S) from by unfold opDiffer; rw [cif_t ⟨⟨a, ha, rfl⟩, ⟨b, hb, rfl⟩⟩, ea, eb])) (Nat.le_of_ble_eq_true rfl) (Nat.le_of_ble_eq_true rfl)
  · skip
    obtain ⟨a, ha, rfl⟩ := ha1
    refine g_aload_n h 0 dX5_differ_0 rfl rfl ?_
    refine g_get h 0 fa_X5_11 dX5_differ_1 r0 rfl ?_
    refine g_iload_n h 1 dX5_differ_4 rfl rfl ?_
    refine g_callS h [] (c_X5_rowOf_in (xL X) E _ rV (by omega) (i := a) (by omega) (eV a (by omega))) cf_X5_60 cs_X5_rowOf dX5_differ_5 rfl rfl (Nat.le_of_ble_eq_true rfl) ⟨(Nat.le_of_ble_eq_true rfl), (Nat.le_of_ble_eq_true rfl)⟩ ⟨(Nat.le_of_ble_eq_true rfl), (Nat.le_of_ble_eq_true rfl)⟩ ?_
    refine kk_det ?_
    refine g_astore_n (vs' := [_, _, _, _, _]) h 3 dX5_differ_8 rfl (Nat.le_of_ble_eq_true rfl) rfl rfl ?_
    refine g_aload_n h 0 dX5_differ_9 rfl rfl ?_
    refine g_get h 0 fa_X5_11 dX5_differ_10 r0 rfl ?_
    refine g_iload_n h 2 dX5_differ_13 rfl rfl ?_
    refine g_callS h [] (c_X5_rowOf_out (xL X) E _ a2 rV (by omega) ha2) cf_X5_60 cs_X5_rowOf dX5_differ_14 rfl rfl (Nat.le_of_ble_eq_true rfl) ⟨(Nat.le_of_ble_eq_true rfl), (Nat.le_of_ble_eq_true rfl)⟩ ⟨(Nat.le_of_ble_eq_true rfl), (Nat.le_of_ble_eq_true rfl)⟩ ?_
    refine kk_det ?_
    refine g_astoreN (vs' := [_, _, _, _, _]) h dX5_differ_17 (Nat.le_of_ble_eq_true rfl) rfl rfl ?_
    refine g_aload_n h 3 dX5_differ_19 rfl rfl ?_
    refine g_ifnull h dX5_differ_20 ?_
    refine g_aloadN h dX5_differ_23 rfl ?_
    refine g_ifnonnullN h dX5_differ_25 ?_
    refine g_bipush h (-2) dX5_differ_28 (by decide) ?_
    exact g_iret h hr dX5_differ_30 ((fun e => ⟨by rw [e], by rw [e]; exact hR⟩) (show opDiffer S (nI a) a2 = (-2, S) from by unfold opDiffer; rw [cif_f (fun q => ha2 q.2)])) (Nat.le_of_ble_eq_true rfl) (Nat.le_of_ble_eq_true rfl)
  · skip
    obtain ⟨b, hb, rfl⟩ := ha2
    refine g_aload_n h 0 dX5_differ_0 rfl rfl ?_
    refine g_get h 0 fa_X5_11 dX5_differ_1 r0 rfl ?_
    refine g_iload_n h 1 dX5_differ_4 rfl rfl ?_
    refine g_callS h [] (c_X5_rowOf_out (xL X) E _ a1 rV (by omega) ha1) cf_X5_60 cs_X5_rowOf dX5_differ_5 rfl rfl (Nat.le_of_ble_eq_true rfl) ⟨(Nat.le_of_ble_eq_true rfl), (Nat.le_of_ble_eq_true rfl)⟩ ⟨(Nat.le_of_ble_eq_true rfl), (Nat.le_of_ble_eq_true rfl)⟩ ?_
    refine kk_det ?_
    refine g_astore_nN (vs' := [_, _, _, _, _]) h 3 dX5_differ_8 rfl (Nat.le_of_ble_eq_true rfl) rfl rfl ?_
    refine g_aload_n h 0 dX5_differ_9 rfl rfl ?_
    refine g_get h 0 fa_X5_11 dX5_differ_10 r0 rfl ?_
    refine g_iload_n h 2 dX5_differ_13 rfl rfl ?_
    refine g_callS h [] (c_X5_rowOf_in (xL X) E _ rV (by omega) (i := b) (by omega) (eV b (by omega))) cf_X5_60 cs_X5_rowOf dX5_differ_14 rfl rfl (Nat.le_of_ble_eq_true rfl) ⟨(Nat.le_of_ble_eq_true rfl), (Nat.le_of_ble_eq_true rfl)⟩ ⟨(Nat.le_of_ble_eq_true rfl), (Nat.le_of_ble_eq_true rfl)⟩ ?_
    refine kk_det ?_
    refine g_astore (vs' := [_, _, _, _, _]) h dX5_differ_17 (Nat.le_of_ble_eq_true rfl) rfl rfl ?_
    refine g_aload_nN h 3 dX5_differ_19 rfl rfl ?_
    refine g_ifnullN h 28 dX5_differ_20 (by decide) ?_
    refine g_bipush h (-2) dX5_differ_28 (by decide) ?_
    exact g_iret h hr dX5_differ_30 ((fun e => ⟨by rw [e], by rw [e]; exact hR⟩) (show opDiffer S a1 (nI b) = (-2, S) from by unfold opDiffer; rw [cif_f (fun q => ha1 q.1)])) (Nat.le_of_ble_eq_true rfl) (Nat.le_of_ble_eq_true rfl)
  · skip
    refine g_aload_n h 0 dX5_differ_0 rfl rfl ?_
    refine g_get h 0 fa_X5_11 dX5_differ_1 r0 rfl ?_
    refine g_iload_n h 1 dX5_differ_4 rfl rfl ?_
    refine g_callS h [] (c_X5_rowOf_out (xL X) E _ a1 rV (by omega) ha1) cf_X5_60 cs_X5_rowOf dX5_differ_5 rfl rfl (Nat.le_of_ble_eq_true rfl) ⟨(Nat.le_of_ble_eq_true rfl), (Nat.le_of_ble_eq_true rfl)⟩ ⟨(Nat.le_of_ble_eq_true rfl), (Nat.le_of_ble_eq_true rfl)⟩ ?_
    refine kk_det ?_
    refine g_astore_nN (vs' := [_, _, _, _, _]) h 3 dX5_differ_8 rfl (Nat.le_of_ble_eq_true rfl) rfl rfl ?_
    refine g_aload_n h 0 dX5_differ_9 rfl rfl ?_
    refine g_get h 0 fa_X5_11 dX5_differ_10 r0 rfl ?_
    refine g_iload_n h 2 dX5_differ_13 rfl rfl ?_
    refine g_callS h [] (c_X5_rowOf_out (xL X) E _ a2 rV (by omega) ha2) cf_X5_60 cs_X5_rowOf dX5_differ_14 rfl rfl (Nat.le_of_ble_eq_true rfl) ⟨(Nat.le_of_ble_eq_true rfl), (Nat.le_of_ble_eq_true rfl)⟩ ⟨(Nat.le_of_ble_eq_true rfl), (Nat.le_of_ble_eq_true rfl)⟩ ?_
    refine kk_det ?_
    refine g_astoreN (vs' := [_, _, _, _, _]) h dX5_differ_17 (Nat.le_of_ble_eq_true rfl) rfl rfl ?_
    refine g_aload_nN h 3 dX5_differ_19 rfl rfl ?_
    refine g_ifnullN h 28 dX5_differ_20 (by decide) ?_
    refine g_bipush h (-2) dX5_differ_28 (by decide) ?_
    exact g_iret h hr dX5_differ_30 ((fun e => ⟨by rw [e], by rw [e]; exact hR⟩) (show opDiffer S a1 a2 = (-2, S) from by unfold opDiffer; rw [cif_f (fun q => ha1 q.1)])) (Nat.le_of_ble_eq_true rfl) (Nat.le_of_ble_eq_true rfl)
abbrev rm_X5_step : Room := { frames := 4, cells := 0, slots := 0, locals := 94 }
set_option maxRecDepth 100000 in
set_option maxHeartbeats 4000000 in
theorem C_step (lau : Launch) (E : EnvD) (σ : Sto) {z : Nat} {S : PSt} (hI : Inv S) (hR : RepC E z S σ) (a1 a2 a3 : Int32) : CC lau yX5_step cX5_step 6 (some .int) rm_X5_step E [.ref z, .int a1, .int a2, .int a3] σ (fun o s => o = some (.int (opStep S a1 a2 a3).1) ∧ RepC E z (opStep S a1 a2 a3).2 s) := by
  refine cc_of (vs := [_, _, _, _, _, _]) (by decide) (Nat.le_of_ble_eq_true rfl) rfl ?_
  intro X h hr hn
  obtain ⟨r0, ⟨fV, rV, eV⟩, ⟨fP, rP, eP⟩, ⟨fC, rC, eC⟩, ⟨fR, rR, eR⟩, ⟨fM, rM, eM⟩, rCh, rT, rO, ⟨nE, gE, hE, rE⟩, rows, prows⟩ := id hR
  by_cases ha1 : inR a1 8 <;> by_cases ha2 : inR a2 8
  · skip
    obtain ⟨a, ha, rfl⟩ := ha1
    obtain ⟨b, hb, rfl⟩ := ha2
    have ea : cl (nI a) = a := cl_nI (by omega)
    have eb : cl (nI b) = b := cl_nI (by omega)
    have hna := (hI.1 a ha).1
    have hnb := (hI.1 b hb).1
    obtain ⟨gV, gV1, gV2⟩ := rCh.2.1
    have e0 : opStep S (nI a) (nI b) a3 = (stpV (rwV S a) (rwV S b) (sVn S a) (sVn S b) a3, S) := by unfold opStep; rw [cif_t ⟨⟨a, ha, rfl⟩, ⟨b, hb, rfl⟩⟩, ea, eb]
    refine g_aload_n h 0 dX5_step_0 rfl rfl ?_
    refine g_get h 0 fa_X5_11 dX5_step_1 r0 rfl ?_
    refine g_iload_n h 1 dX5_step_4 rfl rfl ?_
    refine g_callS h [] (c_X5_rowOf_in (xL X) E _ rV (by omega) (i := a) (by omega) (eV a (by omega))) cf_X5_60 cs_X5_rowOf dX5_step_5 rfl rfl (Nat.le_of_ble_eq_true rfl) ⟨(Nat.le_of_ble_eq_true rfl), (Nat.le_of_ble_eq_true rfl)⟩ ⟨(Nat.le_of_ble_eq_true rfl), (Nat.le_of_ble_eq_true rfl)⟩ ?_
    refine kk_det ?_
    refine g_astore (vs' := [_, _, _, _, _, _]) h dX5_step_8 (Nat.le_of_ble_eq_true rfl) rfl rfl ?_
    refine g_aload_n h 0 dX5_step_10 rfl rfl ?_
    refine g_get h 0 fa_X5_11 dX5_step_11 r0 rfl ?_
    refine g_iload_n h 2 dX5_step_14 rfl rfl ?_
    refine g_callS h [] (c_X5_rowOf_in (xL X) E _ rV (by omega) (i := b) (by omega) (eV b (by omega))) cf_X5_60 cs_X5_rowOf dX5_step_15 rfl rfl (Nat.le_of_ble_eq_true rfl) ⟨(Nat.le_of_ble_eq_true rfl), (Nat.le_of_ble_eq_true rfl)⟩ ⟨(Nat.le_of_ble_eq_true rfl), (Nat.le_of_ble_eq_true rfl)⟩ ?_
    refine kk_det ?_
    refine g_astore (vs' := [_, _, _, _, _, _]) h dX5_step_18 (Nat.le_of_ble_eq_true rfl) rfl rfl ?_
    refine g_aload h dX5_step_20 rfl ?_
    refine g_ifnull h dX5_step_22 ?_
    refine g_aload h dX5_step_25 rfl ?_
    refine g_ifnonnull h 33 dX5_step_27 (by decide) ?_
    refine g_iload_n h 3 dX5_step_33 rfl rfl ?_
    refine g_if_lt h 52 dX5_step_34 (by decide) (fun c34_1 => ?_) (fun c34_1 => ?_)
    · skip
      refine g_iconst h (-1) dX5_step_52 (by decide) ?_
      exact g_iret h hr dX5_step_53 (⟨by rw [e0]; exact congrArg (fun q => some (Value.int q)) (cif_f (inR_neg c34_1 (by omega))).symm, by rw [e0]; exact hR⟩) (Nat.le_of_ble_eq_true rfl) (Nat.le_of_ble_eq_true rfl)
    · skip
      refine g_iload_n h 3 dX5_step_37 rfl rfl ?_
      refine g_aload h dX5_step_38 rfl ?_
      refine g_get h 1 fa_X5_64 dX5_step_40 (rows a ha).1 rfl ?_
      refine g_aload h dX5_step_43 rfl ?_
      refine g_get h 1 fa_X5_64 dX5_step_45 (rows b hb).1 rfl ?_
      refine g_iaddN h dX5_step_48 ?_
      refine g_icmp_lt h 54 dX5_step_49 (by decide) (fun c49_2 => ?_) (fun c49_2 => ?_)
      · skip
        have ht9 : inR a3 (sVn S a + sVn S b) := inR_of c34_1 (fun z9 => absurd c49_2 (Int32.not_lt.mpr z9)) (by omega)
        obtain ⟨t, ht, rfl⟩ := ht9
        refine g_aload_n h 0 dX5_step_54 rfl rfl ?_
        refine g_get h 5 fa_X5_37 dX5_step_55 r0 rfl ?_
        refine g_aload h dX5_step_58 rfl ?_
        refine g_aload h dX5_step_60 rfl ?_
        refine g_callV h [] (c_X0_compare (xL X) E _ rCh.1 gV1 gV2 (rows a ha) (rows b hb) hna hnb (by omega) (by omega) rCh.2.2) cf_X5_94 cv_X0_compare dX5_step_62 rfl rCh.1 rfl rfl (Nat.le_of_ble_eq_true rfl) ⟨(Nat.le_of_ble_eq_true rfl), (Nat.le_of_ble_eq_true rfl)⟩ ⟨(Nat.le_of_ble_eq_true rfl), (Nat.le_of_ble_eq_true rfl)⟩ ?_
        rintro _ s2 ⟨rfl, hz2, hA, hT⟩
        have hR2 : RepC E z S s2 := hR.chg (fun a ha => hA a (by omega)) (fun i hi => by obtain ⟨g, q1, _⟩ := hT i hi; exact ⟨g, by rw [show z + 8 + i = z + 6 + 2 + i by omega]; exact q1⟩)
        refine g_aload_n h 0 dX5_step_65 rfl rfl ?_
        refine g_get h 5 fa_X5_37 dX5_step_66 ((hA z (by omega)).trans r0) rfl ?_
        refine g_aload h dX5_step_69 rfl ?_
        refine g_aload h dX5_step_71 rfl ?_
        refine g_iload_n h 3 dX5_step_73 rfl rfl ?_
        refine g_callV h [] (c_X0_stepAt (xL X) E _ ((hA (z + 6) (by omega)).trans rCh.1) ((hA (z + 6 + 1) (by omega)).trans gV1) gV2 ((rows a ha).fr (hA _ (by omega)) (hA _ (by omega))) ((rows b hb).fr (hA _ (by omega)) (hA _ (by omega))) hna hnb (t := t) ht hT) cf_X5_102 cv_X0_stepAt dX5_step_74 rfl ((hA (z + 6) (by omega)).trans rCh.1) rfl rfl (Nat.le_of_ble_eq_true rfl) ⟨(Nat.le_of_ble_eq_true rfl), (Nat.le_of_ble_eq_true rfl)⟩ ⟨(Nat.le_of_ble_eq_true rfl), (Nat.le_of_ble_eq_true rfl)⟩ ?_
        refine kk_det ?_
        exact g_iret h hr dX5_step_77 (⟨by rw [e0]; exact congrArg (fun q => some (Value.int q)) (show pth (rwV S a) (rwV S b) (sVn S a) (sVn S b) (sVn S a + sVn S b) t 0 0 = stpV (rwV S a) (rwV S b) (sVn S a) (sVn S b) (nI t) from by unfold stpV; rw [cif_t ⟨t, ht, rfl⟩, clampN (by omega)]), by rw [e0]; exact hR2⟩) (Nat.le_of_ble_eq_true rfl) (Nat.le_of_ble_eq_true rfl)
      · skip
        refine g_iconst h (-1) dX5_step_52 (by decide) ?_
        exact g_iret h hr dX5_step_53 (⟨by rw [e0]; exact congrArg (fun q => some (Value.int q)) (cif_f (inR_ge (Int32.not_lt.mp c49_2) (by omega))).symm, by rw [e0]; exact hR⟩) (Nat.le_of_ble_eq_true rfl) (Nat.le_of_ble_eq_true rfl)
  · skip
    obtain ⟨a, ha, rfl⟩ := ha1
    refine g_aload_n h 0 dX5_step_0 rfl rfl ?_
    refine g_get h 0 fa_X5_11 dX5_step_1 r0 rfl ?_
    refine g_iload_n h 1 dX5_step_4 rfl rfl ?_
    refine g_callS h [] (c_X5_rowOf_in (xL X) E _ rV (by omega) (i := a) (by omega) (eV a (by omega))) cf_X5_60 cs_X5_rowOf dX5_step_5 rfl rfl (Nat.le_of_ble_eq_true rfl) ⟨(Nat.le_of_ble_eq_true rfl), (Nat.le_of_ble_eq_true rfl)⟩ ⟨(Nat.le_of_ble_eq_true rfl), (Nat.le_of_ble_eq_true rfl)⟩ ?_
    refine kk_det ?_
    refine g_astore (vs' := [_, _, _, _, _, _]) h dX5_step_8 (Nat.le_of_ble_eq_true rfl) rfl rfl ?_
    refine g_aload_n h 0 dX5_step_10 rfl rfl ?_
    refine g_get h 0 fa_X5_11 dX5_step_11 r0 rfl ?_
    refine g_iload_n h 2 dX5_step_14 rfl rfl ?_
    refine g_callS h [] (c_X5_rowOf_out (xL X) E _ a2 rV (by omega) ha2) cf_X5_60 cs_X5_rowOf dX5_step_15 rfl rfl (Nat.le_of_ble_eq_true rfl) ⟨(Nat.le_of_ble_eq_true rfl), (Nat.le_of_ble_eq_true rfl)⟩ ⟨(Nat.le_of_ble_eq_true rfl), (Nat.le_of_ble_eq_true rfl)⟩ ?_
    refine kk_det ?_
    refine g_astoreN (vs' := [_, _, _, _, _, _]) h dX5_step_18 (Nat.le_of_ble_eq_true rfl) rfl rfl ?_
    refine g_aload h dX5_step_20 rfl ?_
    refine g_ifnull h dX5_step_22 ?_
    refine g_aloadN h dX5_step_25 rfl ?_
    refine g_ifnonnullN h dX5_step_27 ?_
    refine g_bipush h (-2) dX5_step_30 (by decide) ?_
    exact g_iret h hr dX5_step_32 ((fun e => ⟨by rw [e], by rw [e]; exact hR⟩) (show opStep S (nI a) a2 a3 = (-2, S) from by unfold opStep; rw [cif_f (fun q => ha2 q.2)])) (Nat.le_of_ble_eq_true rfl) (Nat.le_of_ble_eq_true rfl)
  · skip
    obtain ⟨b, hb, rfl⟩ := ha2
    refine g_aload_n h 0 dX5_step_0 rfl rfl ?_
    refine g_get h 0 fa_X5_11 dX5_step_1 r0 rfl ?_
    refine g_iload_n h 1 dX5_step_4 rfl rfl ?_
    refine g_callS h [] (c_X5_rowOf_out (xL X) E _ a1 rV (by omega) ha1) cf_X5_60 cs_X5_rowOf dX5_step_5 rfl rfl (Nat.le_of_ble_eq_true rfl) ⟨(Nat.le_of_ble_eq_true rfl), (Nat.le_of_ble_eq_true rfl)⟩ ⟨(Nat.le_of_ble_eq_true rfl), (Nat.le_of_ble_eq_true rfl)⟩ ?_
    refine kk_det ?_
    refine g_astoreN (vs' := [_, _, _, _, _, _]) h dX5_step_8 (Nat.le_of_ble_eq_true rfl) rfl rfl ?_
    refine g_aload_n h 0 dX5_step_10 rfl rfl ?_
    refine g_get h 0 fa_X5_11 dX5_step_11 r0 rfl ?_
    refine g_iload_n h 2 dX5_step_14 rfl rfl ?_
    refine g_callS h [] (c_X5_rowOf_in (xL X) E _ rV (by omega) (i := b) (by omega) (eV b (by omega))) cf_X5_60 cs_X5_rowOf dX5_step_15 rfl rfl (Nat.le_of_ble_eq_true rfl) ⟨(Nat.le_of_ble_eq_true rfl), (Nat.le_of_ble_eq_true rfl)⟩ ⟨(Nat.le_of_ble_eq_true rfl), (Nat.le_of_ble_eq_true rfl)⟩ ?_
    refine kk_det ?_
    refine g_astore (vs' := [_, _, _, _, _, _]) h dX5_step_18 (Nat.le_of_ble_eq_true rfl) rfl rfl ?_
    refine g_aloadN h dX5_step_20 rfl ?_
    refine g_ifnullN h 30 dX5_step_22 (by decide) ?_
    refine g_bipush h (-2) dX5_step_30 (by decide) ?_
    exact g_iret h hr dX5_step_32 ((fun e => ⟨by rw [e], by rw [e]; exact hR⟩) (show opStep S a1 (nI b) a3 = (-2, S) from by unfold opStep; rw [cif_f (fun q => ha1 q.1)])) (Nat.le_of_ble_eq_true rfl) (Nat.le_of_ble_eq_true rfl)
  · skip
    refine g_aload_n h 0 dX5_step_0 rfl rfl ?_
    refine g_get h 0 fa_X5_11 dX5_step_1 r0 rfl ?_
    refine g_iload_n h 1 dX5_step_4 rfl rfl ?_
    refine g_callS h [] (c_X5_rowOf_out (xL X) E _ a1 rV (by omega) ha1) cf_X5_60 cs_X5_rowOf dX5_step_5 rfl rfl (Nat.le_of_ble_eq_true rfl) ⟨(Nat.le_of_ble_eq_true rfl), (Nat.le_of_ble_eq_true rfl)⟩ ⟨(Nat.le_of_ble_eq_true rfl), (Nat.le_of_ble_eq_true rfl)⟩ ?_
    refine kk_det ?_
    refine g_astoreN (vs' := [_, _, _, _, _, _]) h dX5_step_8 (Nat.le_of_ble_eq_true rfl) rfl rfl ?_
    refine g_aload_n h 0 dX5_step_10 rfl rfl ?_
    refine g_get h 0 fa_X5_11 dX5_step_11 r0 rfl ?_
    refine g_iload_n h 2 dX5_step_14 rfl rfl ?_
    refine g_callS h [] (c_X5_rowOf_out (xL X) E _ a2 rV (by omega) ha2) cf_X5_60 cs_X5_rowOf dX5_step_15 rfl rfl (Nat.le_of_ble_eq_true rfl) ⟨(Nat.le_of_ble_eq_true rfl), (Nat.le_of_ble_eq_true rfl)⟩ ⟨(Nat.le_of_ble_eq_true rfl), (Nat.le_of_ble_eq_true rfl)⟩ ?_
    refine kk_det ?_
    refine g_astoreN (vs' := [_, _, _, _, _, _]) h dX5_step_18 (Nat.le_of_ble_eq_true rfl) rfl rfl ?_
    refine g_aloadN h dX5_step_20 rfl ?_
    refine g_ifnullN h 30 dX5_step_22 (by decide) ?_
    refine g_bipush h (-2) dX5_step_30 (by decide) ?_
    exact g_iret h hr dX5_step_32 ((fun e => ⟨by rw [e], by rw [e]; exact hR⟩) (show opStep S a1 a2 a3 = (-2, S) from by unfold opStep; rw [cif_f (fun q => ha1 q.1)])) (Nat.le_of_ble_eq_true rfl) (Nat.le_of_ble_eq_true rfl)
end
